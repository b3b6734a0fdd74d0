set_option maxHeartbeats 8000000 in
theorem law_loop (N : Nat) (xs : Nat → Int32) (hN : N ≤ 3584)  : ∀ (n : Nat) (s : xS) (x3 : Int) (x1000 : Int) (x1001 : Int) (hG : GI s) (f : True) (b_x3 : 0 ≤ x3 ∧ x3 ≤ 3584) (b_x1000 : 0 ≤ x1000 ∧ x1000 ≤ 9) (b_x1001 : 0 ≤ x1001 ∧ x1001 ≤ 9) (w_0 : x1000 = x1001) (e_x1000 : x1000 = s 0 10) (e_x1001 : x1001 = s 256 0) (i_J : J s)  (hm : (3584 - x3) < (n : Int)), xe (some (N, xs)) 231 18 [(0, .ref 2000), (1, .ref 0), (2, .ref 256), (3, vi x3)] [] s 295 10442 (fun _ v => v = some (vi 1)) := by
  intro n
  induction n with
  | zero => intro s x3 x1000 x1001 hG f b_x3 b_x1000 b_x1001 w_0 e_x1000 e_x1001 i_J  hm; exfalso; omega
  | succ n ih =>
    intro s x3 x1000 x1001 hG f b_x3 b_x1000 b_x1001 w_0 e_x1000 e_x1001 i_J  hm
    refine x_A k231_18 (fun _ => rfl) ?_
    refine x_A k231_19 (fun _ => rfl) ?_
    refine x_slen k231_20 ?_
    refine x_bipush k231_21 (by decide +kernel) ?_
    refine x_isub k231_23 ?_
    refine x_top (fun z1 e_z1 => ?_)
    refine x_ic_gt k231_24 (t := 1306) rfl (by first | exact x_rb b_x3 rfl rfl | exact ⟨by omega, by omega⟩) (by first | exact x_rbe e_z1 g_z1 rfl rfl | exact x_rb g_z1 rfl rfl | exact ⟨by omega, by omega⟩) (fun c2 => ?_) (fun c2 => ?_)
    · skip
      refine x_A k231_1306 (fun _ => rfl) ?_
      exact x_zret k231_1307 rfl ⟨by omega, by omega⟩ rfl
    · skip
      refine x_A k231_27 (fun _ => rfl) ?_
      refine x_A k231_28 (fun _ => rfl) ?_
      refine x_scr k231_29 hN ⟨by omega, by omega⟩ (fun z3 g_z3 e_z3 => ?_)
      unfold in32 at g_z3
      refine x_bipush k231_30 (by decide +kernel) ?_
      refine x_and_mask k231_32 ⟨by omega, by omega⟩ (fun z4 g_z4 => ?_)
      have c5 : z4 = 0 ∨ z4 = 1 ∨ z4 = 2 ∨ z4 = 3 ∨ z4 = 4 ∨ z4 = 5 ∨ z4 = 6 ∨ z4 = 7 ∨ z4 = 8 ∨ z4 = 9 ∨ z4 = 10 ∨ z4 = 11 ∨ z4 = 12 ∨ z4 = 13 ∨ z4 = 14 ∨ z4 = 15 ∨ z4 = 16 ∨ z4 = 17 ∨ z4 = 18 ∨ z4 = 19 ∨ z4 = 20 ∨ z4 = 21 ∨ z4 = 22 ∨ z4 = 23 ∨ z4 = 24 ∨ z4 = 25 ∨ z4 = 26 ∨ z4 = 27 ∨ z4 = 28 ∨ z4 = 29 ∨ ¬ (0 ≤ z4 ∧ z4 ≤ 29) := by omega
      rcases c5 with c5 | c5 | c5 | c5 | c5 | c5 | c5 | c5 | c5 | c5 | c5 | c5 | c5 | c5 | c5 | c5 | c5 | c5 | c5 | c5 | c5 | c5 | c5 | c5 | c5 | c5 | c5 | c5 | c5 | c5 | c5
      · rw [c5]
        refine x_B k231_33 rfl (fun _ => rfl) (fun _ => rfl) (fun _ _ => rfl) ?_
        show xe (some (N, xs)) 231 168 [(0, .ref 2000), (1, .ref 0), (2, .ref 256), (3, vi x3)] [] s 295 10442 _
        refine x_A k231_168 (fun _ => rfl) ?_
        refine x_callV k231_169 (y := 91) (n := 0) (w0 := 0) (w1 := 0) (as := []) (rest := []) (by decide +kernel) (q := 0) (nq := 12) (kq := 3) ⟨by decide, rfl⟩ rfl rfl rfl rfl (xe_mono (C_X10_edition_0 s hG) ?_)
        rintro s7 v ⟨hG_s7, t_s7, z6, rfl, g_z6, xp_z6⟩
        have q8 : s7 256 0 = x1001 := (t_s7 256 0 (show 4097 ∉ [11] from by decide +kernel)).trans e_x1001.symm
        have J_s7 : J s7 := J.fl i_J t_s7 (by decide +kernel)
        obtain ⟨z9, e_z9⟩ : ∃ z, z = s7 0 10 := ⟨_, rfl⟩
        have g_z9 : (0 : Int) ≤ s7 0 10 ∧ s7 0 10 ≤ 9 := hG_s7 0 10
        show xe (some (N, xs)) 231 172 [(0, .ref 2000), (1, .ref 0), (2, .ref 256), (3, vi x3)] [vi z6] s7 295 10442 _
        refine x_A k231_172 (fun _ => rfl) ?_
        refine x_callV k231_173 (y := 145) (n := 0) (w0 := 1) (w1 := 0) (as := []) (rest := [vi z6]) (by decide +kernel) (q := 256) (nq := 62) (kq := 15) ⟨by decide, rfl⟩ rfl rfl rfl rfl (xe_mono (D_X11_edition_256 s7 hG_s7 J_s7) ?_)
        rintro s11 v ⟨hG_s11, t_s11, z10, rfl, g_z10, xp_z10, J_s11⟩
        have q12 : s11 0 10 = z9 := (t_s11 0 10 (show 11 ∉ [4097] from by decide +kernel)).trans e_z9.symm
        obtain ⟨z13, e_z13⟩ : ∃ z, z = s11 256 0 := ⟨_, rfl⟩
        have g_z13 : (0 : Int) ≤ s11 256 0 ∧ s11 256 0 ≤ 9 := hG_s11 256 0
        show xe (some (N, xs)) 231 176 [(0, .ref 2000), (1, .ref 0), (2, .ref 256), (3, vi x3)] [vi z10, vi z6] s11 295 10442 _
        refine x_ic_eq k231_176 (t := 1300) rfl (by first | exact x_rbe e_z6 g_z6 rfl rfl | exact x_rb g_z6 rfl rfl | exact ⟨by omega, by omega⟩) (by first | exact x_rbe e_z10 g_z10 rfl rfl | exact x_rb g_z10 rfl rfl | exact ⟨by omega, by omega⟩) (fun c14 => ?_) (fun c14 => ?_)
        · skip
          refine x_iinc k231_1300 (ls' := [(3, vi (x3 + 7)), (0, .ref 2000), (1, .ref 0), (2, .ref 256)]) rfl (by decide) rfl ?_
          refine x_goto k231_1303 (t := 18) rfl ?_
          refine x_ls (l := [(0, .ref 2000), (1, .ref 0), (2, .ref 256), (3, vi (x3 + 7))]) (show ([0, 1, 2, 3] : List Nat).Nodup from by decide +kernel) ⟨rfl, rfl, rfl, rfl, trivial⟩ ?_
          exact ih s11 (x3 + 7) z9 z13 hG_s11 trivial ⟨by omega, by omega⟩ (by first | exact x_rbe e_z9 g_z9 rfl rfl | exact x_rb g_z9 rfl rfl | exact ⟨by omega, by omega⟩) (by first | exact x_rbe e_z13 g_z13 rfl rfl | exact x_rb g_z13 rfl rfl | exact ⟨by omega, by omega⟩) (by omega) (q12).symm (e_z13.symm).symm J_s11  (by omega)
        · skip
          refine x_A k231_179 (fun _ => rfl) ?_
          exfalso; omega
      · rw [c5]
        refine x_B k231_33 rfl (fun _ => rfl) (fun _ => rfl) (fun _ _ => rfl) ?_
        show xe (some (N, xs)) 231 181 [(0, .ref 2000), (1, .ref 0), (2, .ref 256), (3, vi x3)] [] s 295 10442 _
        refine x_A k231_181 (fun _ => rfl) ?_
        refine x_A k231_182 (fun _ => rfl) ?_
        refine x_A k231_183 (fun _ => rfl) ?_
        refine x_A k231_184 (fun _ => rfl) ?_
        refine x_iadd k231_185 ?_
        refine x_top (fun z15 e_z15 => ?_)
        refine x_scr k231_186 hN ⟨by omega, by omega⟩ (fun z16 g_z16 e_z16 => ?_)
        unfold in32 at g_z16
        refine x_callV k231_187 (y := 92) (n := 1) (w0 := 0) (w1 := 1) (as := [vi z16]) (rest := []) (by decide +kernel) (q := 0) (nq := 12) (kq := 3) ⟨by decide, rfl⟩ rfl rfl rfl rfl (xe_mono (C_X10_mark_0 s hG z16 (by first | exact x_rbe e_z16 g_z16 rfl rfl | exact x_rb g_z16 rfl rfl | exact ⟨by omega, by omega⟩)) ?_)
        rintro s18 v ⟨hG_s18, t_s18, z17, rfl, g_z17⟩
        have q19 : s18 0 10 = x1000 := (t_s18 0 10 (show 11 ∉ [69, 128, 384, 3276, 3277] from by decide +kernel)).trans e_x1000.symm
        have q20 : s18 256 0 = x1001 := (t_s18 256 0 (show 4097 ∉ [69, 128, 384, 3276, 3277] from by decide +kernel)).trans e_x1001.symm
        have J_s18 : J s18 := J.fl i_J t_s18 (by decide +kernel)
        show xe (some (N, xs)) 231 190 [(0, .ref 2000), (1, .ref 0), (2, .ref 256), (3, vi x3)] [vi z17] s18 295 10442 _
        refine x_A k231_190 (fun _ => rfl) ?_
        refine x_A k231_191 (fun _ => rfl) ?_
        refine x_A k231_192 (fun _ => rfl) ?_
        refine x_A k231_193 (fun _ => rfl) ?_
        refine x_A k231_194 (fun _ => rfl) ?_
        refine x_iadd k231_195 ?_
        refine x_top (fun z21 e_z21 => ?_)
        refine x_scr k231_196 hN ⟨by omega, by omega⟩ (fun z22 g_z22 e_z22 => ?_)
        unfold in32 at g_z22
        have q_z22 : z22 = z16 := by rw [e_z22, e_z16, show z21 = z15 by omega]
        refine x_callV k231_197 (y := 146) (n := 1) (w0 := 0) (w1 := 1) (as := [vi z22]) (rest := []) (by decide +kernel) (q := 256) (nq := 62) (kq := 15) ⟨by decide, rfl⟩ rfl rfl rfl rfl (xe_mono (D_X11_mark_256 s18 hG_s18 z22 (by first | exact x_rbe e_z22 g_z22 rfl rfl | exact x_rb g_z22 rfl rfl | exact ⟨by omega, by omega⟩) J_s18) ?_)
        rintro s24 v ⟨hG_s24, t_s24, z23, rfl, g_z23, J_s24⟩
        have q25 : s24 0 10 = x1000 := (t_s24 0 10 (show 11 ∉ [4098, 4160, 4224, 4288, 4352] from by decide +kernel)).trans q19
        have q26 : s24 256 0 = x1001 := (t_s24 256 0 (show 4097 ∉ [4098, 4160, 4224, 4288, 4352] from by decide +kernel)).trans q20
        show xe (some (N, xs)) 231 200 [(0, .ref 2000), (1, .ref 0), (2, .ref 256), (3, vi x3)] [vi z23] s24 295 10442 _
        refine x_A k231_200 (fun _ => rfl) ?_
        refine x_goto k231_201 (t := 1300) rfl ?_
        refine x_iinc k231_1300 (ls' := [(3, vi (x3 + 7)), (0, .ref 2000), (1, .ref 0), (2, .ref 256)]) rfl (by decide) rfl ?_
        refine x_goto k231_1303 (t := 18) rfl ?_
        refine x_ls (l := [(0, .ref 2000), (1, .ref 0), (2, .ref 256), (3, vi (x3 + 7))]) (show ([0, 1, 2, 3] : List Nat).Nodup from by decide +kernel) ⟨rfl, rfl, rfl, rfl, trivial⟩ ?_
        exact ih s24 (x3 + 7) x1000 x1001 hG_s24 trivial ⟨by omega, by omega⟩ (by first | exact x_rb b_x1000 rfl rfl | exact ⟨by omega, by omega⟩) (by first | exact x_rb b_x1001 rfl rfl | exact ⟨by omega, by omega⟩) (by omega) (q25).symm (q26).symm J_s24  (by omega)
      · rw [c5]
        refine x_B k231_33 rfl (fun _ => rfl) (fun _ => rfl) (fun _ _ => rfl) ?_
        show xe (some (N, xs)) 231 204 [(0, .ref 2000), (1, .ref 0), (2, .ref 256), (3, vi x3)] [] s 295 10442 _
        refine x_A k231_204 (fun _ => rfl) ?_
        refine x_A k231_205 (fun _ => rfl) ?_
        refine x_A k231_206 (fun _ => rfl) ?_
        refine x_A k231_207 (fun _ => rfl) ?_
        refine x_iadd k231_208 ?_
        refine x_top (fun z27 e_z27 => ?_)
        refine x_scr k231_209 hN ⟨by omega, by omega⟩ (fun z28 g_z28 e_z28 => ?_)
        unfold in32 at g_z28
        refine x_A k231_210 (fun _ => rfl) ?_
        refine x_A k231_211 (fun _ => rfl) ?_
        refine x_A k231_212 (fun _ => rfl) ?_
        refine x_iadd k231_213 ?_
        refine x_top (fun z29 e_z29 => ?_)
        refine x_scr k231_214 hN ⟨by omega, by omega⟩ (fun z30 g_z30 e_z30 => ?_)
        unfold in32 at g_z30
        refine x_callV k231_215 (y := 93) (n := 2) (w0 := 0) (w1 := 2) (as := [vi z28, vi z30]) (rest := []) (by decide +kernel) (q := 0) (nq := 12) (kq := 3) ⟨by decide, rfl⟩ rfl rfl rfl rfl (xe_mono (C_X10_move_0 s hG z28 (by first | exact x_rbe e_z28 g_z28 rfl rfl | exact x_rb g_z28 rfl rfl | exact ⟨by omega, by omega⟩) z30 (by first | exact x_rbe e_z30 g_z30 rfl rfl | exact x_rb g_z30 rfl rfl | exact ⟨by omega, by omega⟩)) ?_)
        rintro s32 v ⟨hG_s32, t_s32, z31, rfl, g_z31⟩
        have q33 : s32 0 10 = x1000 := (t_s32 0 10 (show 11 ∉ [384, 3276, 3277] from by decide +kernel)).trans e_x1000.symm
        have q34 : s32 256 0 = x1001 := (t_s32 256 0 (show 4097 ∉ [384, 3276, 3277] from by decide +kernel)).trans e_x1001.symm
        have J_s32 : J s32 := J.fl i_J t_s32 (by decide +kernel)
        show xe (some (N, xs)) 231 218 [(0, .ref 2000), (1, .ref 0), (2, .ref 256), (3, vi x3)] [vi z31] s32 295 10442 _
        refine x_A k231_218 (fun _ => rfl) ?_
        refine x_A k231_219 (fun _ => rfl) ?_
        refine x_A k231_220 (fun _ => rfl) ?_
        refine x_A k231_221 (fun _ => rfl) ?_
        refine x_A k231_222 (fun _ => rfl) ?_
        refine x_iadd k231_223 ?_
        refine x_top (fun z35 e_z35 => ?_)
        refine x_scr k231_224 hN ⟨by omega, by omega⟩ (fun z36 g_z36 e_z36 => ?_)
        unfold in32 at g_z36
        have q_z36 : z36 = z28 := by rw [e_z36, e_z28, show z35 = z27 by omega]
        refine x_A k231_225 (fun _ => rfl) ?_
        refine x_A k231_226 (fun _ => rfl) ?_
        refine x_A k231_227 (fun _ => rfl) ?_
        refine x_iadd k231_228 ?_
        refine x_top (fun z37 e_z37 => ?_)
        refine x_scr k231_229 hN ⟨by omega, by omega⟩ (fun z38 g_z38 e_z38 => ?_)
        unfold in32 at g_z38
        have q_z38 : z38 = z30 := by rw [e_z38, e_z30, show z37 = z29 by omega]
        refine x_callV k231_230 (y := 147) (n := 2) (w0 := 0) (w1 := 2) (as := [vi z36, vi z38]) (rest := []) (by decide +kernel) (q := 256) (nq := 62) (kq := 15) ⟨by decide, rfl⟩ rfl rfl rfl rfl (xe_mono (D_X11_move_256 s32 hG_s32 z36 (by first | exact x_rbe e_z36 g_z36 rfl rfl | exact x_rb g_z36 rfl rfl | exact ⟨by omega, by omega⟩) z38 (by first | exact x_rbe e_z38 g_z38 rfl rfl | exact x_rb g_z38 rfl rfl | exact ⟨by omega, by omega⟩) J_s32) ?_)
        rintro s40 v ⟨hG_s40, t_s40, z39, rfl, g_z39, J_s40⟩
        have q41 : s40 0 10 = x1000 := (t_s40 0 10 (show 11 ∉ [4352] from by decide +kernel)).trans q33
        have q42 : s40 256 0 = x1001 := (t_s40 256 0 (show 4097 ∉ [4352] from by decide +kernel)).trans q34
        show xe (some (N, xs)) 231 233 [(0, .ref 2000), (1, .ref 0), (2, .ref 256), (3, vi x3)] [vi z39] s40 295 10442 _
        refine x_A k231_233 (fun _ => rfl) ?_
        refine x_goto k231_234 (t := 1300) rfl ?_
        refine x_iinc k231_1300 (ls' := [(3, vi (x3 + 7)), (0, .ref 2000), (1, .ref 0), (2, .ref 256)]) rfl (by decide) rfl ?_
        refine x_goto k231_1303 (t := 18) rfl ?_
        refine x_ls (l := [(0, .ref 2000), (1, .ref 0), (2, .ref 256), (3, vi (x3 + 7))]) (show ([0, 1, 2, 3] : List Nat).Nodup from by decide +kernel) ⟨rfl, rfl, rfl, rfl, trivial⟩ ?_
        exact ih s40 (x3 + 7) x1000 x1001 hG_s40 trivial ⟨by omega, by omega⟩ (by first | exact x_rb b_x1000 rfl rfl | exact ⟨by omega, by omega⟩) (by first | exact x_rb b_x1001 rfl rfl | exact ⟨by omega, by omega⟩) (by omega) (q41).symm (q42).symm J_s40  (by omega)
      · rw [c5]
        refine x_B k231_33 rfl (fun _ => rfl) (fun _ => rfl) (fun _ _ => rfl) ?_
        show xe (some (N, xs)) 231 237 [(0, .ref 2000), (1, .ref 0), (2, .ref 256), (3, vi x3)] [] s 295 10442 _
        refine x_A k231_237 (fun _ => rfl) ?_
        refine x_A k231_238 (fun _ => rfl) ?_
        refine x_A k231_239 (fun _ => rfl) ?_
        refine x_A k231_240 (fun _ => rfl) ?_
        refine x_iadd k231_241 ?_
        refine x_top (fun z43 e_z43 => ?_)
        refine x_scr k231_242 hN ⟨by omega, by omega⟩ (fun z44 g_z44 e_z44 => ?_)
        unfold in32 at g_z44
        refine x_A k231_243 (fun _ => rfl) ?_
        refine x_A k231_244 (fun _ => rfl) ?_
        refine x_A k231_245 (fun _ => rfl) ?_
        refine x_iadd k231_246 ?_
        refine x_top (fun z45 e_z45 => ?_)
        refine x_scr k231_247 hN ⟨by omega, by omega⟩ (fun z46 g_z46 e_z46 => ?_)
        unfold in32 at g_z46
        refine x_callV k231_248 (y := 94) (n := 2) (w0 := 0) (w1 := 2) (as := [vi z44, vi z46]) (rest := []) (by decide +kernel) (q := 0) (nq := 12) (kq := 3) ⟨by decide, rfl⟩ rfl rfl rfl rfl (xe_mono (C_X10_end_0 s hG z44 (by first | exact x_rbe e_z44 g_z44 rfl rfl | exact x_rb g_z44 rfl rfl | exact ⟨by omega, by omega⟩) z46 (by first | exact x_rbe e_z46 g_z46 rfl rfl | exact x_rb g_z46 rfl rfl | exact ⟨by omega, by omega⟩)) ?_)
        rintro s48 v ⟨hG_s48, t_s48, z47, rfl, g_z47⟩
        have q49 : s48 0 10 = x1000 := (t_s48 0 10 (show 11 ∉ [192, 256, 3276, 3277] from by decide +kernel)).trans e_x1000.symm
        have q50 : s48 256 0 = x1001 := (t_s48 256 0 (show 4097 ∉ [192, 256, 3276, 3277] from by decide +kernel)).trans e_x1001.symm
        have J_s48 : J s48 := J.fl i_J t_s48 (by decide +kernel)
        show xe (some (N, xs)) 231 251 [(0, .ref 2000), (1, .ref 0), (2, .ref 256), (3, vi x3)] [vi z47] s48 295 10442 _
        refine x_A k231_251 (fun _ => rfl) ?_
        refine x_A k231_252 (fun _ => rfl) ?_
        refine x_A k231_253 (fun _ => rfl) ?_
        refine x_A k231_254 (fun _ => rfl) ?_
        refine x_A k231_255 (fun _ => rfl) ?_
        refine x_iadd k231_256 ?_
        refine x_top (fun z51 e_z51 => ?_)
        refine x_scr k231_257 hN ⟨by omega, by omega⟩ (fun z52 g_z52 e_z52 => ?_)
        unfold in32 at g_z52
        have q_z52 : z52 = z44 := by rw [e_z52, e_z44, show z51 = z43 by omega]
        refine x_A k231_258 (fun _ => rfl) ?_
        refine x_A k231_259 (fun _ => rfl) ?_
        refine x_A k231_260 (fun _ => rfl) ?_
        refine x_iadd k231_261 ?_
        refine x_top (fun z53 e_z53 => ?_)
        refine x_scr k231_262 hN ⟨by omega, by omega⟩ (fun z54 g_z54 e_z54 => ?_)
        unfold in32 at g_z54
        have q_z54 : z54 = z46 := by rw [e_z54, e_z46, show z53 = z45 by omega]
        refine x_callV k231_263 (y := 148) (n := 2) (w0 := 0) (w1 := 2) (as := [vi z52, vi z54]) (rest := []) (by decide +kernel) (q := 256) (nq := 62) (kq := 15) ⟨by decide, rfl⟩ rfl rfl rfl rfl (xe_mono (D_X11_end_256 s48 hG_s48 z52 (by first | exact x_rbe e_z52 g_z52 rfl rfl | exact x_rb g_z52 rfl rfl | exact ⟨by omega, by omega⟩) z54 (by first | exact x_rbe e_z54 g_z54 rfl rfl | exact x_rb g_z54 rfl rfl | exact ⟨by omega, by omega⟩) J_s48) ?_)
        rintro s56 v ⟨hG_s56, t_s56, z55, rfl, g_z55, J_s56⟩
        have q57 : s56 0 10 = x1000 := (t_s56 0 10 (show 11 ∉ [4224, 4288] from by decide +kernel)).trans q49
        have q58 : s56 256 0 = x1001 := (t_s56 256 0 (show 4097 ∉ [4224, 4288] from by decide +kernel)).trans q50
        show xe (some (N, xs)) 231 266 [(0, .ref 2000), (1, .ref 0), (2, .ref 256), (3, vi x3)] [vi z55] s56 295 10442 _
        refine x_A k231_266 (fun _ => rfl) ?_
        refine x_goto k231_267 (t := 1300) rfl ?_
        refine x_iinc k231_1300 (ls' := [(3, vi (x3 + 7)), (0, .ref 2000), (1, .ref 0), (2, .ref 256)]) rfl (by decide) rfl ?_
        refine x_goto k231_1303 (t := 18) rfl ?_
        refine x_ls (l := [(0, .ref 2000), (1, .ref 0), (2, .ref 256), (3, vi (x3 + 7))]) (show ([0, 1, 2, 3] : List Nat).Nodup from by decide +kernel) ⟨rfl, rfl, rfl, rfl, trivial⟩ ?_
        exact ih s56 (x3 + 7) x1000 x1001 hG_s56 trivial ⟨by omega, by omega⟩ (by first | exact x_rb b_x1000 rfl rfl | exact ⟨by omega, by omega⟩) (by first | exact x_rb b_x1001 rfl rfl | exact ⟨by omega, by omega⟩) (by omega) (q57).symm (q58).symm J_s56  (by omega)
      · rw [c5]
        refine x_B k231_33 rfl (fun _ => rfl) (fun _ => rfl) (fun _ _ => rfl) ?_
        show xe (some (N, xs)) 231 270 [(0, .ref 2000), (1, .ref 0), (2, .ref 256), (3, vi x3)] [] s 295 10442 _
        refine x_A k231_270 (fun _ => rfl) ?_
        refine x_A k231_271 (fun _ => rfl) ?_
        refine x_A k231_272 (fun _ => rfl) ?_
        refine x_A k231_273 (fun _ => rfl) ?_
        refine x_iadd k231_274 ?_
        refine x_top (fun z59 e_z59 => ?_)
        refine x_scr k231_275 hN ⟨by omega, by omega⟩ (fun z60 g_z60 e_z60 => ?_)
        unfold in32 at g_z60
        refine x_A k231_276 (fun _ => rfl) ?_
        refine x_A k231_277 (fun _ => rfl) ?_
        refine x_A k231_278 (fun _ => rfl) ?_
        refine x_iadd k231_279 ?_
        refine x_top (fun z61 e_z61 => ?_)
        refine x_scr k231_280 hN ⟨by omega, by omega⟩ (fun z62 g_z62 e_z62 => ?_)
        unfold in32 at g_z62
        refine x_A k231_281 (fun _ => rfl) ?_
        refine x_A k231_282 (fun _ => rfl) ?_
        refine x_A k231_283 (fun _ => rfl) ?_
        refine x_iadd k231_284 ?_
        refine x_top (fun z63 e_z63 => ?_)
        refine x_scr k231_285 hN ⟨by omega, by omega⟩ (fun z64 g_z64 e_z64 => ?_)
        unfold in32 at g_z64
        refine x_callV k231_286 (y := 95) (n := 3) (w0 := 0) (w1 := 3) (as := [vi z60, vi z62, vi z64]) (rest := []) (by decide +kernel) (q := 0) (nq := 12) (kq := 3) ⟨by decide, rfl⟩ rfl rfl rfl rfl (xe_mono (C_X10_tree_0 s hG i_J z60 (by first | exact x_rbe e_z60 g_z60 rfl rfl | exact x_rb g_z60 rfl rfl | exact ⟨by omega, by omega⟩) z62 (by first | exact x_rbe e_z62 g_z62 rfl rfl | exact x_rb g_z62 rfl rfl | exact ⟨by omega, by omega⟩) z64 (by first | exact x_rbe e_z64 g_z64 rfl rfl | exact x_rb g_z64 rfl rfl | exact ⟨by omega, by omega⟩)) ?_)
        rintro s66 v ⟨hG_s66, t_s66, z65, rfl, g_z65⟩
        have q67 : s66 0 10 = x1000 := (t_s66 0 10 (show 11 ∉ [3329, 3334, 3335, 3336, 3392, 3456, 3520, 3584, 3276, 3648, 3712, 3776, 3840, 3904, 3968, 3277, 4032] from by decide +kernel)).trans e_x1000.symm
        have q68 : s66 256 0 = x1001 := (t_s66 256 0 (show 4097 ∉ [3329, 3334, 3335, 3336, 3392, 3456, 3520, 3584, 3276, 3648, 3712, 3776, 3840, 3904, 3968, 3277, 4032] from by decide +kernel)).trans e_x1001.symm
        have J_s66 : J s66 := J.fl i_J t_s66 (by decide +kernel)
        show xe (some (N, xs)) 231 289 [(0, .ref 2000), (1, .ref 0), (2, .ref 256), (3, vi x3)] [vi z65] s66 295 10442 _
        refine x_A k231_289 (fun _ => rfl) ?_
        refine x_A k231_290 (fun _ => rfl) ?_
        refine x_A k231_291 (fun _ => rfl) ?_
        refine x_A k231_292 (fun _ => rfl) ?_
        refine x_A k231_293 (fun _ => rfl) ?_
        refine x_iadd k231_294 ?_
        refine x_top (fun z69 e_z69 => ?_)
        refine x_scr k231_295 hN ⟨by omega, by omega⟩ (fun z70 g_z70 e_z70 => ?_)
        unfold in32 at g_z70
        have q_z70 : z70 = z60 := by rw [e_z70, e_z60, show z69 = z59 by omega]
        refine x_A k231_296 (fun _ => rfl) ?_
        refine x_A k231_297 (fun _ => rfl) ?_
        refine x_A k231_298 (fun _ => rfl) ?_
        refine x_iadd k231_299 ?_
        refine x_top (fun z71 e_z71 => ?_)
        refine x_scr k231_300 hN ⟨by omega, by omega⟩ (fun z72 g_z72 e_z72 => ?_)
        unfold in32 at g_z72
        have q_z72 : z72 = z62 := by rw [e_z72, e_z62, show z71 = z61 by omega]
        refine x_A k231_301 (fun _ => rfl) ?_
        refine x_A k231_302 (fun _ => rfl) ?_
        refine x_A k231_303 (fun _ => rfl) ?_
        refine x_iadd k231_304 ?_
        refine x_top (fun z73 e_z73 => ?_)
        refine x_scr k231_305 hN ⟨by omega, by omega⟩ (fun z74 g_z74 e_z74 => ?_)
        unfold in32 at g_z74
        have q_z74 : z74 = z64 := by rw [e_z74, e_z64, show z73 = z63 by omega]
        refine x_callV k231_306 (y := 149) (n := 3) (w0 := 0) (w1 := 3) (as := [vi z70, vi z72, vi z74]) (rest := []) (by decide +kernel) (q := 256) (nq := 62) (kq := 15) ⟨by decide, rfl⟩ rfl rfl rfl rfl (xe_mono (C_X11_tree_256 s66 hG_s66 J_s66 z70 (by first | exact x_rbe e_z70 g_z70 rfl rfl | exact x_rb g_z70 rfl rfl | exact ⟨by omega, by omega⟩) z72 (by first | exact x_rbe e_z72 g_z72 rfl rfl | exact x_rb g_z72 rfl rfl | exact ⟨by omega, by omega⟩) z74 (by first | exact x_rbe e_z74 g_z74 rfl rfl | exact x_rb g_z74 rfl rfl | exact ⟨by omega, by omega⟩)) ?_)
        rintro s76 v ⟨hG_s76, t_s76, z75, rfl, g_z75⟩
        have q77 : s76 0 10 = x1000 := (t_s76 0 10 (show 11 ∉ [5312, 5376, 4123, 5440, 5504, 5568, 5632, 5696, 5760] from by decide +kernel)).trans q67
        have q78 : s76 256 0 = x1001 := (t_s76 256 0 (show 4097 ∉ [5312, 5376, 4123, 5440, 5504, 5568, 5632, 5696, 5760] from by decide +kernel)).trans q68
        have J_s76 : J s76 := J.fl J_s66 t_s76 (by decide +kernel)
        show xe (some (N, xs)) 231 309 [(0, .ref 2000), (1, .ref 0), (2, .ref 256), (3, vi x3)] [vi z75] s76 295 10442 _
        refine x_A k231_309 (fun _ => rfl) ?_
        refine x_goto k231_310 (t := 1300) rfl ?_
        refine x_iinc k231_1300 (ls' := [(3, vi (x3 + 7)), (0, .ref 2000), (1, .ref 0), (2, .ref 256)]) rfl (by decide) rfl ?_
        refine x_goto k231_1303 (t := 18) rfl ?_
        refine x_ls (l := [(0, .ref 2000), (1, .ref 0), (2, .ref 256), (3, vi (x3 + 7))]) (show ([0, 1, 2, 3] : List Nat).Nodup from by decide +kernel) ⟨rfl, rfl, rfl, rfl, trivial⟩ ?_
        exact ih s76 (x3 + 7) x1000 x1001 hG_s76 trivial ⟨by omega, by omega⟩ (by first | exact x_rb b_x1000 rfl rfl | exact ⟨by omega, by omega⟩) (by first | exact x_rb b_x1001 rfl rfl | exact ⟨by omega, by omega⟩) (by omega) (q77).symm (q78).symm J_s76  (by omega)
      · rw [c5]
        refine x_B k231_33 rfl (fun _ => rfl) (fun _ => rfl) (fun _ _ => rfl) ?_
        show xe (some (N, xs)) 231 313 [(0, .ref 2000), (1, .ref 0), (2, .ref 256), (3, vi x3)] [] s 295 10442 _
        refine x_A k231_313 (fun _ => rfl) ?_
        refine x_A k231_314 (fun _ => rfl) ?_
        refine x_A k231_315 (fun _ => rfl) ?_
        refine x_A k231_316 (fun _ => rfl) ?_
        refine x_iadd k231_317 ?_
        refine x_top (fun z79 e_z79 => ?_)
        refine x_scr k231_318 hN ⟨by omega, by omega⟩ (fun z80 g_z80 e_z80 => ?_)
        unfold in32 at g_z80
        refine x_A k231_319 (fun _ => rfl) ?_
        refine x_A k231_320 (fun _ => rfl) ?_
        refine x_A k231_321 (fun _ => rfl) ?_
        refine x_iadd k231_322 ?_
        refine x_top (fun z81 e_z81 => ?_)
        refine x_scr k231_323 hN ⟨by omega, by omega⟩ (fun z82 g_z82 e_z82 => ?_)
        unfold in32 at g_z82
        refine x_A k231_324 (fun _ => rfl) ?_
        refine x_A k231_325 (fun _ => rfl) ?_
        refine x_A k231_326 (fun _ => rfl) ?_
        refine x_iadd k231_327 ?_
        refine x_top (fun z83 e_z83 => ?_)
        refine x_scr k231_328 hN ⟨by omega, by omega⟩ (fun z84 g_z84 e_z84 => ?_)
        unfold in32 at g_z84
        refine x_callV k231_329 (y := 96) (n := 3) (w0 := 0) (w1 := 3) (as := [vi z80, vi z82, vi z84]) (rest := []) (by decide +kernel) (q := 0) (nq := 12) (kq := 3) ⟨by decide, rfl⟩ rfl rfl rfl rfl (xe_mono (C_X10_below_0 s hG z80 (by first | exact x_rbe e_z80 g_z80 rfl rfl | exact x_rb g_z80 rfl rfl | exact ⟨by omega, by omega⟩) z82 (by first | exact x_rbe e_z82 g_z82 rfl rfl | exact x_rb g_z82 rfl rfl | exact ⟨by omega, by omega⟩) z84 (by first | exact x_rbe e_z84 g_z84 rfl rfl | exact x_rb g_z84 rfl rfl | exact ⟨by omega, by omega⟩)) ?_)
        rintro s86 v ⟨-, t_s86, z85, rfl, g_z85⟩
        rw [t_s86.nil]
        show xe (some (N, xs)) 231 332 [(0, .ref 2000), (1, .ref 0), (2, .ref 256), (3, vi x3)] [vi z85] s 295 10442 _
        refine x_A k231_332 (fun _ => rfl) ?_
        refine x_A k231_333 (fun _ => rfl) ?_
        refine x_A k231_334 (fun _ => rfl) ?_
        refine x_A k231_335 (fun _ => rfl) ?_
        refine x_A k231_336 (fun _ => rfl) ?_
        refine x_iadd k231_337 ?_
        refine x_top (fun z87 e_z87 => ?_)
        refine x_scr k231_338 hN ⟨by omega, by omega⟩ (fun z88 g_z88 e_z88 => ?_)
        unfold in32 at g_z88
        have q_z88 : z88 = z80 := by rw [e_z88, e_z80, show z87 = z79 by omega]
        refine x_A k231_339 (fun _ => rfl) ?_
        refine x_A k231_340 (fun _ => rfl) ?_
        refine x_A k231_341 (fun _ => rfl) ?_
        refine x_iadd k231_342 ?_
        refine x_top (fun z89 e_z89 => ?_)
        refine x_scr k231_343 hN ⟨by omega, by omega⟩ (fun z90 g_z90 e_z90 => ?_)
        unfold in32 at g_z90
        have q_z90 : z90 = z82 := by rw [e_z90, e_z82, show z89 = z81 by omega]
        refine x_A k231_344 (fun _ => rfl) ?_
        refine x_A k231_345 (fun _ => rfl) ?_
        refine x_A k231_346 (fun _ => rfl) ?_
        refine x_iadd k231_347 ?_
        refine x_top (fun z91 e_z91 => ?_)
        refine x_scr k231_348 hN ⟨by omega, by omega⟩ (fun z92 g_z92 e_z92 => ?_)
        unfold in32 at g_z92
        have q_z92 : z92 = z84 := by rw [e_z92, e_z84, show z91 = z83 by omega]
        refine x_callV k231_349 (y := 150) (n := 3) (w0 := 0) (w1 := 3) (as := [vi z88, vi z90, vi z92]) (rest := []) (by decide +kernel) (q := 256) (nq := 62) (kq := 15) ⟨by decide, rfl⟩ rfl rfl rfl rfl (xe_mono (C_X11_below_256 s hG i_J z88 (by first | exact x_rbe e_z88 g_z88 rfl rfl | exact x_rb g_z88 rfl rfl | exact ⟨by omega, by omega⟩) z90 (by first | exact x_rbe e_z90 g_z90 rfl rfl | exact x_rb g_z90 rfl rfl | exact ⟨by omega, by omega⟩) z92 (by first | exact x_rbe e_z92 g_z92 rfl rfl | exact x_rb g_z92 rfl rfl | exact ⟨by omega, by omega⟩)) ?_)
        rintro s94 v ⟨-, t_s94, z93, rfl, g_z93⟩
        rw [t_s94.nil]
        show xe (some (N, xs)) 231 352 [(0, .ref 2000), (1, .ref 0), (2, .ref 256), (3, vi x3)] [vi z93] s 295 10442 _
        refine x_A k231_352 (fun _ => rfl) ?_
        refine x_goto k231_353 (t := 1300) rfl ?_
        refine x_iinc k231_1300 (ls' := [(3, vi (x3 + 7)), (0, .ref 2000), (1, .ref 0), (2, .ref 256)]) rfl (by decide) rfl ?_
        refine x_goto k231_1303 (t := 18) rfl ?_
        refine x_ls (l := [(0, .ref 2000), (1, .ref 0), (2, .ref 256), (3, vi (x3 + 7))]) (show ([0, 1, 2, 3] : List Nat).Nodup from by decide +kernel) ⟨rfl, rfl, rfl, rfl, trivial⟩ ?_
        exact ih s (x3 + 7) x1000 x1001 hG f ⟨by omega, by omega⟩ (by first | exact x_rb b_x1000 rfl rfl | exact ⟨by omega, by omega⟩) (by first | exact x_rb b_x1001 rfl rfl | exact ⟨by omega, by omega⟩) (by omega) (e_x1000.symm).symm (e_x1001.symm).symm i_J  (by omega)
      · rw [c5]
        refine x_B k231_33 rfl (fun _ => rfl) (fun _ => rfl) (fun _ _ => rfl) ?_
        show xe (some (N, xs)) 231 356 [(0, .ref 2000), (1, .ref 0), (2, .ref 256), (3, vi x3)] [] s 295 10442 _
        refine x_A k231_356 (fun _ => rfl) ?_
        refine x_A k231_357 (fun _ => rfl) ?_
        refine x_A k231_358 (fun _ => rfl) ?_
        refine x_A k231_359 (fun _ => rfl) ?_
        refine x_iadd k231_360 ?_
        refine x_top (fun z95 e_z95 => ?_)
        refine x_scr k231_361 hN ⟨by omega, by omega⟩ (fun z96 g_z96 e_z96 => ?_)
        unfold in32 at g_z96
        refine x_A k231_362 (fun _ => rfl) ?_
        refine x_A k231_363 (fun _ => rfl) ?_
        refine x_A k231_364 (fun _ => rfl) ?_
        refine x_iadd k231_365 ?_
        refine x_top (fun z97 e_z97 => ?_)
        refine x_scr k231_366 hN ⟨by omega, by omega⟩ (fun z98 g_z98 e_z98 => ?_)
        unfold in32 at g_z98
        refine x_A k231_367 (fun _ => rfl) ?_
        refine x_A k231_368 (fun _ => rfl) ?_
        refine x_A k231_369 (fun _ => rfl) ?_
        refine x_iadd k231_370 ?_
        refine x_top (fun z99 e_z99 => ?_)
        refine x_scr k231_371 hN ⟨by omega, by omega⟩ (fun z100 g_z100 e_z100 => ?_)
        unfold in32 at g_z100
        refine x_callV k231_372 (y := 97) (n := 3) (w0 := 0) (w1 := 3) (as := [vi z96, vi z98, vi z100]) (rest := []) (by decide +kernel) (q := 0) (nq := 12) (kq := 3) ⟨by decide, rfl⟩ rfl rfl rfl rfl (xe_mono (C_X10_picture_0 s hG z96 (by first | exact x_rbe e_z96 g_z96 rfl rfl | exact x_rb g_z96 rfl rfl | exact ⟨by omega, by omega⟩) z98 (by first | exact x_rbe e_z98 g_z98 rfl rfl | exact x_rb g_z98 rfl rfl | exact ⟨by omega, by omega⟩) z100 (by first | exact x_rbe e_z100 g_z100 rfl rfl | exact x_rb g_z100 rfl rfl | exact ⟨by omega, by omega⟩)) ?_)
        rintro s102 v ⟨hG_s102, t_s102, z101, rfl, g_z101⟩
        have q103 : s102 0 10 = x1000 := (t_s102 0 10 (show 11 ∉ [452, 512, 576, 640] from by decide +kernel)).trans e_x1000.symm
        have q104 : s102 256 0 = x1001 := (t_s102 256 0 (show 4097 ∉ [452, 512, 576, 640] from by decide +kernel)).trans e_x1001.symm
        have J_s102 : J s102 := J.fl i_J t_s102 (by decide +kernel)
        show xe (some (N, xs)) 231 375 [(0, .ref 2000), (1, .ref 0), (2, .ref 256), (3, vi x3)] [vi z101] s102 295 10442 _
        refine x_A k231_375 (fun _ => rfl) ?_
        refine x_A k231_376 (fun _ => rfl) ?_
        refine x_A k231_377 (fun _ => rfl) ?_
        refine x_A k231_378 (fun _ => rfl) ?_
        refine x_A k231_379 (fun _ => rfl) ?_
        refine x_iadd k231_380 ?_
        refine x_top (fun z105 e_z105 => ?_)
        refine x_scr k231_381 hN ⟨by omega, by omega⟩ (fun z106 g_z106 e_z106 => ?_)
        unfold in32 at g_z106
        have q_z106 : z106 = z96 := by rw [e_z106, e_z96, show z105 = z95 by omega]
        refine x_A k231_382 (fun _ => rfl) ?_
        refine x_A k231_383 (fun _ => rfl) ?_
        refine x_A k231_384 (fun _ => rfl) ?_
        refine x_iadd k231_385 ?_
        refine x_top (fun z107 e_z107 => ?_)
        refine x_scr k231_386 hN ⟨by omega, by omega⟩ (fun z108 g_z108 e_z108 => ?_)
        unfold in32 at g_z108
        have q_z108 : z108 = z98 := by rw [e_z108, e_z98, show z107 = z97 by omega]
        refine x_A k231_387 (fun _ => rfl) ?_
        refine x_A k231_388 (fun _ => rfl) ?_
        refine x_A k231_389 (fun _ => rfl) ?_
        refine x_iadd k231_390 ?_
        refine x_top (fun z109 e_z109 => ?_)
        refine x_scr k231_391 hN ⟨by omega, by omega⟩ (fun z110 g_z110 e_z110 => ?_)
        unfold in32 at g_z110
        have q_z110 : z110 = z100 := by rw [e_z110, e_z100, show z109 = z99 by omega]
        refine x_callV k231_392 (y := 154) (n := 3) (w0 := 0) (w1 := 3) (as := [vi z106, vi z108, vi z110]) (rest := []) (by decide +kernel) (q := 256) (nq := 62) (kq := 15) ⟨by decide, rfl⟩ rfl rfl rfl rfl (xe_mono (D_X11_picture_256 s102 hG_s102 z106 (by first | exact x_rbe e_z106 g_z106 rfl rfl | exact x_rb g_z106 rfl rfl | exact ⟨by omega, by omega⟩) z108 (by first | exact x_rbe e_z108 g_z108 rfl rfl | exact x_rb g_z108 rfl rfl | exact ⟨by omega, by omega⟩) z110 (by first | exact x_rbe e_z110 g_z110 rfl rfl | exact x_rb g_z110 rfl rfl | exact ⟨by omega, by omega⟩) J_s102) ?_)
        rintro s112 v ⟨hG_s112, t_s112, z111, rfl, g_z111, J_s112⟩
        have q113 : s112 0 10 = x1000 := (t_s112 0 10 (show 11 ∉ [4103, 4416, 4480, 4544] from by decide +kernel)).trans q103
        have q114 : s112 256 0 = x1001 := (t_s112 256 0 (show 4097 ∉ [4103, 4416, 4480, 4544] from by decide +kernel)).trans q104
        show xe (some (N, xs)) 231 395 [(0, .ref 2000), (1, .ref 0), (2, .ref 256), (3, vi x3)] [vi z111] s112 295 10442 _
        refine x_A k231_395 (fun _ => rfl) ?_
        refine x_goto k231_396 (t := 1300) rfl ?_
        refine x_iinc k231_1300 (ls' := [(3, vi (x3 + 7)), (0, .ref 2000), (1, .ref 0), (2, .ref 256)]) rfl (by decide) rfl ?_
        refine x_goto k231_1303 (t := 18) rfl ?_
        refine x_ls (l := [(0, .ref 2000), (1, .ref 0), (2, .ref 256), (3, vi (x3 + 7))]) (show ([0, 1, 2, 3] : List Nat).Nodup from by decide +kernel) ⟨rfl, rfl, rfl, rfl, trivial⟩ ?_
        exact ih s112 (x3 + 7) x1000 x1001 hG_s112 trivial ⟨by omega, by omega⟩ (by first | exact x_rb b_x1000 rfl rfl | exact ⟨by omega, by omega⟩) (by first | exact x_rb b_x1001 rfl rfl | exact ⟨by omega, by omega⟩) (by omega) (q113).symm (q114).symm J_s112  (by omega)
      · rw [c5]
        refine x_B k231_33 rfl (fun _ => rfl) (fun _ => rfl) (fun _ _ => rfl) ?_
        show xe (some (N, xs)) 231 399 [(0, .ref 2000), (1, .ref 0), (2, .ref 256), (3, vi x3)] [] s 295 10442 _
        refine x_A k231_399 (fun _ => rfl) ?_
        refine x_A k231_400 (fun _ => rfl) ?_
        refine x_A k231_401 (fun _ => rfl) ?_
        refine x_A k231_402 (fun _ => rfl) ?_
        refine x_iadd k231_403 ?_
        refine x_top (fun z115 e_z115 => ?_)
        refine x_scr k231_404 hN ⟨by omega, by omega⟩ (fun z116 g_z116 e_z116 => ?_)
        unfold in32 at g_z116
        refine x_A k231_405 (fun _ => rfl) ?_
        refine x_A k231_406 (fun _ => rfl) ?_
        refine x_A k231_407 (fun _ => rfl) ?_
        refine x_iadd k231_408 ?_
        refine x_top (fun z117 e_z117 => ?_)
        refine x_scr k231_409 hN ⟨by omega, by omega⟩ (fun z118 g_z118 e_z118 => ?_)
        unfold in32 at g_z118
        refine x_A k231_410 (fun _ => rfl) ?_
        refine x_A k231_411 (fun _ => rfl) ?_
        refine x_A k231_412 (fun _ => rfl) ?_
        refine x_iadd k231_413 ?_
        refine x_top (fun z119 e_z119 => ?_)
        refine x_scr k231_414 hN ⟨by omega, by omega⟩ (fun z120 g_z120 e_z120 => ?_)
        unfold in32 at g_z120
        refine x_A k231_415 (fun _ => rfl) ?_
        refine x_A k231_416 (fun _ => rfl) ?_
        refine x_A k231_417 (fun _ => rfl) ?_
        refine x_iadd k231_418 ?_
        refine x_top (fun z121 e_z121 => ?_)
        refine x_scr k231_419 hN ⟨by omega, by omega⟩ (fun z122 g_z122 e_z122 => ?_)
        unfold in32 at g_z122
        refine x_callV k231_420 (y := 98) (n := 4) (w0 := 0) (w1 := 4) (as := [vi z116, vi z118, vi z120, vi z122]) (rest := []) (by decide +kernel) (q := 0) (nq := 12) (kq := 3) ⟨by decide, rfl⟩ rfl rfl rfl rfl (xe_mono (C_X10_give_0 s hG z116 (by first | exact x_rbe e_z116 g_z116 rfl rfl | exact x_rb g_z116 rfl rfl | exact ⟨by omega, by omega⟩) z118 (by first | exact x_rbe e_z118 g_z118 rfl rfl | exact x_rb g_z118 rfl rfl | exact ⟨by omega, by omega⟩) z120 (by first | exact x_rbe e_z120 g_z120 rfl rfl | exact x_rb g_z120 rfl rfl | exact ⟨by omega, by omega⟩) z122 (by first | exact x_rbe e_z122 g_z122 rfl rfl | exact x_rb g_z122 rfl rfl | exact ⟨by omega, by omega⟩)) ?_)
        rintro s124 v ⟨hG_s124, t_s124, z123, rfl, g_z123⟩
        have q125 : s124 0 10 = x1000 := (t_s124 0 10 (show 11 ∉ [711, 768, 832, 896, 960, 1024, 1152, 3276, 3277] from by decide +kernel)).trans e_x1000.symm
        have q126 : s124 256 0 = x1001 := (t_s124 256 0 (show 4097 ∉ [711, 768, 832, 896, 960, 1024, 1152, 3276, 3277] from by decide +kernel)).trans e_x1001.symm
        have J_s124 : J s124 := J.fl i_J t_s124 (by decide +kernel)
        show xe (some (N, xs)) 231 423 [(0, .ref 2000), (1, .ref 0), (2, .ref 256), (3, vi x3)] [vi z123] s124 295 10442 _
        refine x_A k231_423 (fun _ => rfl) ?_
        refine x_A k231_424 (fun _ => rfl) ?_
        refine x_A k231_425 (fun _ => rfl) ?_
        refine x_A k231_426 (fun _ => rfl) ?_
        refine x_A k231_427 (fun _ => rfl) ?_
        refine x_iadd k231_428 ?_
        refine x_top (fun z127 e_z127 => ?_)
        refine x_scr k231_429 hN ⟨by omega, by omega⟩ (fun z128 g_z128 e_z128 => ?_)
        unfold in32 at g_z128
        have q_z128 : z128 = z116 := by rw [e_z128, e_z116, show z127 = z115 by omega]
        refine x_A k231_430 (fun _ => rfl) ?_
        refine x_A k231_431 (fun _ => rfl) ?_
        refine x_A k231_432 (fun _ => rfl) ?_
        refine x_iadd k231_433 ?_
        refine x_top (fun z129 e_z129 => ?_)
        refine x_scr k231_434 hN ⟨by omega, by omega⟩ (fun z130 g_z130 e_z130 => ?_)
        unfold in32 at g_z130
        have q_z130 : z130 = z118 := by rw [e_z130, e_z118, show z129 = z117 by omega]
        refine x_A k231_435 (fun _ => rfl) ?_
        refine x_A k231_436 (fun _ => rfl) ?_
        refine x_A k231_437 (fun _ => rfl) ?_
        refine x_iadd k231_438 ?_
        refine x_top (fun z131 e_z131 => ?_)
        refine x_scr k231_439 hN ⟨by omega, by omega⟩ (fun z132 g_z132 e_z132 => ?_)
        unfold in32 at g_z132
        have q_z132 : z132 = z120 := by rw [e_z132, e_z120, show z131 = z119 by omega]
        refine x_A k231_440 (fun _ => rfl) ?_
        refine x_A k231_441 (fun _ => rfl) ?_
        refine x_A k231_442 (fun _ => rfl) ?_
        refine x_iadd k231_443 ?_
        refine x_top (fun z133 e_z133 => ?_)
        refine x_scr k231_444 hN ⟨by omega, by omega⟩ (fun z134 g_z134 e_z134 => ?_)
        unfold in32 at g_z134
        have q_z134 : z134 = z122 := by rw [e_z134, e_z122, show z133 = z121 by omega]
        refine x_callV k231_445 (y := 155) (n := 4) (w0 := 0) (w1 := 4) (as := [vi z128, vi z130, vi z132, vi z134]) (rest := []) (by decide +kernel) (q := 256) (nq := 62) (kq := 15) ⟨by decide, rfl⟩ rfl rfl rfl rfl (xe_mono (C_X11_give_256 s124 hG_s124 z128 (by first | exact x_rbe e_z128 g_z128 rfl rfl | exact x_rb g_z128 rfl rfl | exact ⟨by omega, by omega⟩) z130 (by first | exact x_rbe e_z130 g_z130 rfl rfl | exact x_rb g_z130 rfl rfl | exact ⟨by omega, by omega⟩) z132 (by first | exact x_rbe e_z132 g_z132 rfl rfl | exact x_rb g_z132 rfl rfl | exact ⟨by omega, by omega⟩) z134 (by first | exact x_rbe e_z134 g_z134 rfl rfl | exact x_rb g_z134 rfl rfl | exact ⟨by omega, by omega⟩)) ?_)
        rintro s136 v ⟨hG_s136, t_s136, z135, rfl, g_z135⟩
        have q137 : s136 0 10 = x1000 := (t_s136 0 10 (show 11 ∉ [4107, 4608, 4672, 4736, 4800, 4864, 4928] from by decide +kernel)).trans q125
        have q138 : s136 256 0 = x1001 := (t_s136 256 0 (show 4097 ∉ [4107, 4608, 4672, 4736, 4800, 4864, 4928] from by decide +kernel)).trans q126
        have J_s136 : J s136 := J.fl J_s124 t_s136 (by decide +kernel)
        show xe (some (N, xs)) 231 448 [(0, .ref 2000), (1, .ref 0), (2, .ref 256), (3, vi x3)] [vi z135] s136 295 10442 _
        refine x_A k231_448 (fun _ => rfl) ?_
        refine x_goto k231_449 (t := 1300) rfl ?_
        refine x_iinc k231_1300 (ls' := [(3, vi (x3 + 7)), (0, .ref 2000), (1, .ref 0), (2, .ref 256)]) rfl (by decide) rfl ?_
        refine x_goto k231_1303 (t := 18) rfl ?_
        refine x_ls (l := [(0, .ref 2000), (1, .ref 0), (2, .ref 256), (3, vi (x3 + 7))]) (show ([0, 1, 2, 3] : List Nat).Nodup from by decide +kernel) ⟨rfl, rfl, rfl, rfl, trivial⟩ ?_
        exact ih s136 (x3 + 7) x1000 x1001 hG_s136 trivial ⟨by omega, by omega⟩ (by first | exact x_rb b_x1000 rfl rfl | exact ⟨by omega, by omega⟩) (by first | exact x_rb b_x1001 rfl rfl | exact ⟨by omega, by omega⟩) (by omega) (q137).symm (q138).symm J_s136  (by omega)
      · rw [c5]
        refine x_B k231_33 rfl (fun _ => rfl) (fun _ => rfl) (fun _ _ => rfl) ?_
        show xe (some (N, xs)) 231 452 [(0, .ref 2000), (1, .ref 0), (2, .ref 256), (3, vi x3)] [] s 295 10442 _
        refine x_A k231_452 (fun _ => rfl) ?_
        refine x_A k231_453 (fun _ => rfl) ?_
        refine x_A k231_454 (fun _ => rfl) ?_
        refine x_A k231_455 (fun _ => rfl) ?_
        refine x_iadd k231_456 ?_
        refine x_top (fun z139 e_z139 => ?_)
        refine x_scr k231_457 hN ⟨by omega, by omega⟩ (fun z140 g_z140 e_z140 => ?_)
        unfold in32 at g_z140
        refine x_A k231_458 (fun _ => rfl) ?_
        refine x_A k231_459 (fun _ => rfl) ?_
        refine x_A k231_460 (fun _ => rfl) ?_
        refine x_iadd k231_461 ?_
        refine x_top (fun z141 e_z141 => ?_)
        refine x_scr k231_462 hN ⟨by omega, by omega⟩ (fun z142 g_z142 e_z142 => ?_)
        unfold in32 at g_z142
        refine x_callV k231_463 (y := 99) (n := 2) (w0 := 0) (w1 := 2) (as := [vi z140, vi z142]) (rest := []) (by decide +kernel) (q := 0) (nq := 12) (kq := 3) ⟨by decide, rfl⟩ rfl rfl rfl rfl (xe_mono (C_X10_doubt_0 s hG z140 (by first | exact x_rbe e_z140 g_z140 rfl rfl | exact x_rb g_z140 rfl rfl | exact ⟨by omega, by omega⟩) z142 (by first | exact x_rbe e_z142 g_z142 rfl rfl | exact x_rb g_z142 rfl rfl | exact ⟨by omega, by omega⟩)) ?_)
        rintro s144 v ⟨hG_s144, t_s144, z143, rfl, g_z143⟩
        have q145 : s144 0 10 = x1000 := (t_s144 0 10 (show 11 ∉ [1152, 3276, 3277] from by decide +kernel)).trans e_x1000.symm
        have q146 : s144 256 0 = x1001 := (t_s144 256 0 (show 4097 ∉ [1152, 3276, 3277] from by decide +kernel)).trans e_x1001.symm
        have J_s144 : J s144 := J.fl i_J t_s144 (by decide +kernel)
        show xe (some (N, xs)) 231 466 [(0, .ref 2000), (1, .ref 0), (2, .ref 256), (3, vi x3)] [vi z143] s144 295 10442 _
        refine x_A k231_466 (fun _ => rfl) ?_
        refine x_A k231_467 (fun _ => rfl) ?_
        refine x_A k231_468 (fun _ => rfl) ?_
        refine x_A k231_469 (fun _ => rfl) ?_
        refine x_A k231_470 (fun _ => rfl) ?_
        refine x_iadd k231_471 ?_
        refine x_top (fun z147 e_z147 => ?_)
        refine x_scr k231_472 hN ⟨by omega, by omega⟩ (fun z148 g_z148 e_z148 => ?_)
        unfold in32 at g_z148
        have q_z148 : z148 = z140 := by rw [e_z148, e_z140, show z147 = z139 by omega]
        refine x_A k231_473 (fun _ => rfl) ?_
        refine x_A k231_474 (fun _ => rfl) ?_
        refine x_A k231_475 (fun _ => rfl) ?_
        refine x_iadd k231_476 ?_
        refine x_top (fun z149 e_z149 => ?_)
        refine x_scr k231_477 hN ⟨by omega, by omega⟩ (fun z150 g_z150 e_z150 => ?_)
        unfold in32 at g_z150
        have q_z150 : z150 = z142 := by rw [e_z150, e_z142, show z149 = z141 by omega]
        refine x_callV k231_478 (y := 157) (n := 2) (w0 := 0) (w1 := 2) (as := [vi z148, vi z150]) (rest := []) (by decide +kernel) (q := 256) (nq := 62) (kq := 15) ⟨by decide, rfl⟩ rfl rfl rfl rfl (xe_mono (C_X11_doubt_256 s144 hG_s144 z148 (by first | exact x_rbe e_z148 g_z148 rfl rfl | exact x_rb g_z148 rfl rfl | exact ⟨by omega, by omega⟩) z150 (by first | exact x_rbe e_z150 g_z150 rfl rfl | exact x_rb g_z150 rfl rfl | exact ⟨by omega, by omega⟩)) ?_)
        rintro s152 v ⟨hG_s152, t_s152, z151, rfl, g_z151⟩
        have q153 : s152 0 10 = x1000 := (t_s152 0 10 (show 11 ∉ [4928] from by decide +kernel)).trans q145
        have q154 : s152 256 0 = x1001 := (t_s152 256 0 (show 4097 ∉ [4928] from by decide +kernel)).trans q146
        have J_s152 : J s152 := J.fl J_s144 t_s152 (by decide +kernel)
        show xe (some (N, xs)) 231 481 [(0, .ref 2000), (1, .ref 0), (2, .ref 256), (3, vi x3)] [vi z151] s152 295 10442 _
        refine x_A k231_481 (fun _ => rfl) ?_
        refine x_goto k231_482 (t := 1300) rfl ?_
        refine x_iinc k231_1300 (ls' := [(3, vi (x3 + 7)), (0, .ref 2000), (1, .ref 0), (2, .ref 256)]) rfl (by decide) rfl ?_
        refine x_goto k231_1303 (t := 18) rfl ?_
        refine x_ls (l := [(0, .ref 2000), (1, .ref 0), (2, .ref 256), (3, vi (x3 + 7))]) (show ([0, 1, 2, 3] : List Nat).Nodup from by decide +kernel) ⟨rfl, rfl, rfl, rfl, trivial⟩ ?_
        exact ih s152 (x3 + 7) x1000 x1001 hG_s152 trivial ⟨by omega, by omega⟩ (by first | exact x_rb b_x1000 rfl rfl | exact ⟨by omega, by omega⟩) (by first | exact x_rb b_x1001 rfl rfl | exact ⟨by omega, by omega⟩) (by omega) (q153).symm (q154).symm J_s152  (by omega)
      · rw [c5]
        refine x_B k231_33 rfl (fun _ => rfl) (fun _ => rfl) (fun _ _ => rfl) ?_
        show xe (some (N, xs)) 231 485 [(0, .ref 2000), (1, .ref 0), (2, .ref 256), (3, vi x3)] [] s 295 10442 _
        refine x_A k231_485 (fun _ => rfl) ?_
        refine x_A k231_486 (fun _ => rfl) ?_
        refine x_A k231_487 (fun _ => rfl) ?_
        refine x_A k231_488 (fun _ => rfl) ?_
        refine x_iadd k231_489 ?_
        refine x_top (fun z155 e_z155 => ?_)
        refine x_scr k231_490 hN ⟨by omega, by omega⟩ (fun z156 g_z156 e_z156 => ?_)
        unfold in32 at g_z156
        refine x_A k231_491 (fun _ => rfl) ?_
        refine x_A k231_492 (fun _ => rfl) ?_
        refine x_A k231_493 (fun _ => rfl) ?_
        refine x_iadd k231_494 ?_
        refine x_top (fun z157 e_z157 => ?_)
        refine x_scr k231_495 hN ⟨by omega, by omega⟩ (fun z158 g_z158 e_z158 => ?_)
        unfold in32 at g_z158
        refine x_callV k231_496 (y := 100) (n := 2) (w0 := 0) (w1 := 2) (as := [vi z156, vi z158]) (rest := []) (by decide +kernel) (q := 0) (nq := 12) (kq := 3) ⟨by decide, rfl⟩ rfl rfl rfl rfl (xe_mono (C_X10_told_0 s hG i_J z156 (by first | exact x_rbe e_z156 g_z156 rfl rfl | exact x_rb g_z156 rfl rfl | exact ⟨by omega, by omega⟩) z158 (by first | exact x_rbe e_z158 g_z158 rfl rfl | exact x_rb g_z158 rfl rfl | exact ⟨by omega, by omega⟩)) ?_)
        rintro s160 v ⟨hG_s160, t_s160, z159, rfl, g_z159⟩
        have q161 : s160 0 10 = x1000 := (t_s160 0 10 (show 11 ∉ [3329, 3334, 3335, 3336, 3392, 3456, 3520, 3584, 3276, 3648, 3712, 3776, 3840, 3904, 3968, 3277, 4032] from by decide +kernel)).trans e_x1000.symm
        have q162 : s160 256 0 = x1001 := (t_s160 256 0 (show 4097 ∉ [3329, 3334, 3335, 3336, 3392, 3456, 3520, 3584, 3276, 3648, 3712, 3776, 3840, 3904, 3968, 3277, 4032] from by decide +kernel)).trans e_x1001.symm
        have J_s160 : J s160 := J.fl i_J t_s160 (by decide +kernel)
        show xe (some (N, xs)) 231 499 [(0, .ref 2000), (1, .ref 0), (2, .ref 256), (3, vi x3)] [vi z159] s160 295 10442 _
        refine x_A k231_499 (fun _ => rfl) ?_
        refine x_A k231_500 (fun _ => rfl) ?_
        refine x_A k231_501 (fun _ => rfl) ?_
        refine x_A k231_502 (fun _ => rfl) ?_
        refine x_A k231_503 (fun _ => rfl) ?_
        refine x_iadd k231_504 ?_
        refine x_top (fun z163 e_z163 => ?_)
        refine x_scr k231_505 hN ⟨by omega, by omega⟩ (fun z164 g_z164 e_z164 => ?_)
        unfold in32 at g_z164
        have q_z164 : z164 = z156 := by rw [e_z164, e_z156, show z163 = z155 by omega]
        refine x_A k231_506 (fun _ => rfl) ?_
        refine x_A k231_507 (fun _ => rfl) ?_
        refine x_A k231_508 (fun _ => rfl) ?_
        refine x_iadd k231_509 ?_
        refine x_top (fun z165 e_z165 => ?_)
        refine x_scr k231_510 hN ⟨by omega, by omega⟩ (fun z166 g_z166 e_z166 => ?_)
        unfold in32 at g_z166
        have q_z166 : z166 = z158 := by rw [e_z166, e_z158, show z165 = z157 by omega]
        refine x_callV k231_511 (y := 158) (n := 2) (w0 := 0) (w1 := 2) (as := [vi z164, vi z166]) (rest := []) (by decide +kernel) (q := 256) (nq := 62) (kq := 15) ⟨by decide, rfl⟩ rfl rfl rfl rfl (xe_mono (C_X11_told_256 s160 hG_s160 J_s160 z164 (by first | exact x_rbe e_z164 g_z164 rfl rfl | exact x_rb g_z164 rfl rfl | exact ⟨by omega, by omega⟩) z166 (by first | exact x_rbe e_z166 g_z166 rfl rfl | exact x_rb g_z166 rfl rfl | exact ⟨by omega, by omega⟩)) ?_)
        rintro s168 v ⟨hG_s168, t_s168, z167, rfl, g_z167⟩
        have q169 : s168 0 10 = x1000 := (t_s168 0 10 (show 11 ∉ [5312, 5376, 4123, 5440, 5504, 5568] from by decide +kernel)).trans q161
        have q170 : s168 256 0 = x1001 := (t_s168 256 0 (show 4097 ∉ [5312, 5376, 4123, 5440, 5504, 5568] from by decide +kernel)).trans q162
        have J_s168 : J s168 := J.fl J_s160 t_s168 (by decide +kernel)
        show xe (some (N, xs)) 231 514 [(0, .ref 2000), (1, .ref 0), (2, .ref 256), (3, vi x3)] [vi z167] s168 295 10442 _
        refine x_A k231_514 (fun _ => rfl) ?_
        refine x_goto k231_515 (t := 1300) rfl ?_
        refine x_iinc k231_1300 (ls' := [(3, vi (x3 + 7)), (0, .ref 2000), (1, .ref 0), (2, .ref 256)]) rfl (by decide) rfl ?_
        refine x_goto k231_1303 (t := 18) rfl ?_
        refine x_ls (l := [(0, .ref 2000), (1, .ref 0), (2, .ref 256), (3, vi (x3 + 7))]) (show ([0, 1, 2, 3] : List Nat).Nodup from by decide +kernel) ⟨rfl, rfl, rfl, rfl, trivial⟩ ?_
        exact ih s168 (x3 + 7) x1000 x1001 hG_s168 trivial ⟨by omega, by omega⟩ (by first | exact x_rb b_x1000 rfl rfl | exact ⟨by omega, by omega⟩) (by first | exact x_rb b_x1001 rfl rfl | exact ⟨by omega, by omega⟩) (by omega) (q169).symm (q170).symm J_s168  (by omega)
      · rw [c5]
        refine x_B k231_33 rfl (fun _ => rfl) (fun _ => rfl) (fun _ _ => rfl) ?_
        show xe (some (N, xs)) 231 518 [(0, .ref 2000), (1, .ref 0), (2, .ref 256), (3, vi x3)] [] s 295 10442 _
        refine x_A k231_518 (fun _ => rfl) ?_
        refine x_A k231_519 (fun _ => rfl) ?_
        refine x_A k231_520 (fun _ => rfl) ?_
        refine x_A k231_521 (fun _ => rfl) ?_
        refine x_iadd k231_522 ?_
        refine x_top (fun z171 e_z171 => ?_)
        refine x_scr k231_523 hN ⟨by omega, by omega⟩ (fun z172 g_z172 e_z172 => ?_)
        unfold in32 at g_z172
        refine x_A k231_524 (fun _ => rfl) ?_
        refine x_A k231_525 (fun _ => rfl) ?_
        refine x_A k231_526 (fun _ => rfl) ?_
        refine x_iadd k231_527 ?_
        refine x_top (fun z173 e_z173 => ?_)
        refine x_scr k231_528 hN ⟨by omega, by omega⟩ (fun z174 g_z174 e_z174 => ?_)
        unfold in32 at g_z174
        refine x_A k231_529 (fun _ => rfl) ?_
        refine x_A k231_530 (fun _ => rfl) ?_
        refine x_A k231_531 (fun _ => rfl) ?_
        refine x_iadd k231_532 ?_
        refine x_top (fun z175 e_z175 => ?_)
        refine x_scr k231_533 hN ⟨by omega, by omega⟩ (fun z176 g_z176 e_z176 => ?_)
        unfold in32 at g_z176
        refine x_callV k231_534 (y := 101) (n := 3) (w0 := 0) (w1 := 3) (as := [vi z172, vi z174, vi z176]) (rest := []) (by decide +kernel) (q := 0) (nq := 12) (kq := 3) ⟨by decide, rfl⟩ rfl rfl rfl rfl (xe_mono (C_X10_means_0 s hG i_J z172 (by first | exact x_rbe e_z172 g_z172 rfl rfl | exact x_rb g_z172 rfl rfl | exact ⟨by omega, by omega⟩) z174 (by first | exact x_rbe e_z174 g_z174 rfl rfl | exact x_rb g_z174 rfl rfl | exact ⟨by omega, by omega⟩) z176 (by first | exact x_rbe e_z176 g_z176 rfl rfl | exact x_rb g_z176 rfl rfl | exact ⟨by omega, by omega⟩)) ?_)
        rintro s178 v ⟨hG_s178, t_s178, z177, rfl, g_z177⟩
        have q179 : s178 0 10 = x1000 := (t_s178 0 10 (show 11 ∉ [3329, 3334, 3335, 3336, 3392, 3456, 3520, 3584, 3276, 3648, 3712, 3776, 3840, 3904, 3968, 3277, 4032, 1921, 1926, 1927, 1928, 1984, 2048, 2112, 2176] from by decide +kernel)).trans e_x1000.symm
        have q180 : s178 256 0 = x1001 := (t_s178 256 0 (show 4097 ∉ [3329, 3334, 3335, 3336, 3392, 3456, 3520, 3584, 3276, 3648, 3712, 3776, 3840, 3904, 3968, 3277, 4032, 1921, 1926, 1927, 1928, 1984, 2048, 2112, 2176] from by decide +kernel)).trans e_x1001.symm
        have J_s178 : J s178 := J.fl i_J t_s178 (by decide +kernel)
        show xe (some (N, xs)) 231 537 [(0, .ref 2000), (1, .ref 0), (2, .ref 256), (3, vi x3)] [vi z177] s178 295 10442 _
        refine x_A k231_537 (fun _ => rfl) ?_
        refine x_A k231_538 (fun _ => rfl) ?_
        refine x_A k231_539 (fun _ => rfl) ?_
        refine x_A k231_540 (fun _ => rfl) ?_
        refine x_A k231_541 (fun _ => rfl) ?_
        refine x_iadd k231_542 ?_
        refine x_top (fun z181 e_z181 => ?_)
        refine x_scr k231_543 hN ⟨by omega, by omega⟩ (fun z182 g_z182 e_z182 => ?_)
        unfold in32 at g_z182
        have q_z182 : z182 = z172 := by rw [e_z182, e_z172, show z181 = z171 by omega]
        refine x_A k231_544 (fun _ => rfl) ?_
        refine x_A k231_545 (fun _ => rfl) ?_
        refine x_A k231_546 (fun _ => rfl) ?_
        refine x_iadd k231_547 ?_
        refine x_top (fun z183 e_z183 => ?_)
        refine x_scr k231_548 hN ⟨by omega, by omega⟩ (fun z184 g_z184 e_z184 => ?_)
        unfold in32 at g_z184
        have q_z184 : z184 = z174 := by rw [e_z184, e_z174, show z183 = z173 by omega]
        refine x_A k231_549 (fun _ => rfl) ?_
        refine x_A k231_550 (fun _ => rfl) ?_
        refine x_A k231_551 (fun _ => rfl) ?_
        refine x_iadd k231_552 ?_
        refine x_top (fun z185 e_z185 => ?_)
        refine x_scr k231_553 hN ⟨by omega, by omega⟩ (fun z186 g_z186 e_z186 => ?_)
        unfold in32 at g_z186
        have q_z186 : z186 = z176 := by rw [e_z186, e_z176, show z185 = z175 by omega]
        refine x_callV k231_554 (y := 172) (n := 3) (w0 := 0) (w1 := 3) (as := [vi z182, vi z184, vi z186]) (rest := []) (by decide +kernel) (q := 256) (nq := 62) (kq := 15) ⟨by decide, rfl⟩ rfl rfl rfl rfl (xe_mono (C_X11_means_256 s178 hG_s178 J_s178 z182 (by first | exact x_rbe e_z182 g_z182 rfl rfl | exact x_rb g_z182 rfl rfl | exact ⟨by omega, by omega⟩) z184 (by first | exact x_rbe e_z184 g_z184 rfl rfl | exact x_rb g_z184 rfl rfl | exact ⟨by omega, by omega⟩) z186 (by first | exact x_rbe e_z186 g_z186 rfl rfl | exact x_rb g_z186 rfl rfl | exact ⟨by omega, by omega⟩)) ?_)
        rintro s188 v ⟨hG_s188, t_s188, z187, rfl, g_z187⟩
        have q189 : s188 0 10 = x1000 := (t_s188 0 10 (show 11 ∉ [5312, 5376, 4123, 5440, 5504, 5568, 5632, 5696, 5760] from by decide +kernel)).trans q179
        have q190 : s188 256 0 = x1001 := (t_s188 256 0 (show 4097 ∉ [5312, 5376, 4123, 5440, 5504, 5568, 5632, 5696, 5760] from by decide +kernel)).trans q180
        have J_s188 : J s188 := J.fl J_s178 t_s188 (by decide +kernel)
        show xe (some (N, xs)) 231 557 [(0, .ref 2000), (1, .ref 0), (2, .ref 256), (3, vi x3)] [vi z187] s188 295 10442 _
        refine x_A k231_557 (fun _ => rfl) ?_
        refine x_goto k231_558 (t := 1300) rfl ?_
        refine x_iinc k231_1300 (ls' := [(3, vi (x3 + 7)), (0, .ref 2000), (1, .ref 0), (2, .ref 256)]) rfl (by decide) rfl ?_
        refine x_goto k231_1303 (t := 18) rfl ?_
        refine x_ls (l := [(0, .ref 2000), (1, .ref 0), (2, .ref 256), (3, vi (x3 + 7))]) (show ([0, 1, 2, 3] : List Nat).Nodup from by decide +kernel) ⟨rfl, rfl, rfl, rfl, trivial⟩ ?_
        exact ih s188 (x3 + 7) x1000 x1001 hG_s188 trivial ⟨by omega, by omega⟩ (by first | exact x_rb b_x1000 rfl rfl | exact ⟨by omega, by omega⟩) (by first | exact x_rb b_x1001 rfl rfl | exact ⟨by omega, by omega⟩) (by omega) (q189).symm (q190).symm J_s188  (by omega)
      · rw [c5]
        refine x_B k231_33 rfl (fun _ => rfl) (fun _ => rfl) (fun _ _ => rfl) ?_
        show xe (some (N, xs)) 231 561 [(0, .ref 2000), (1, .ref 0), (2, .ref 256), (3, vi x3)] [] s 295 10442 _
        refine x_A k231_561 (fun _ => rfl) ?_
        refine x_A k231_562 (fun _ => rfl) ?_
        refine x_A k231_563 (fun _ => rfl) ?_
        refine x_A k231_564 (fun _ => rfl) ?_
        refine x_iadd k231_565 ?_
        refine x_top (fun z191 e_z191 => ?_)
        refine x_scr k231_566 hN ⟨by omega, by omega⟩ (fun z192 g_z192 e_z192 => ?_)
        unfold in32 at g_z192
        refine x_A k231_567 (fun _ => rfl) ?_
        refine x_A k231_568 (fun _ => rfl) ?_
        refine x_A k231_569 (fun _ => rfl) ?_
        refine x_iadd k231_570 ?_
        refine x_top (fun z193 e_z193 => ?_)
        refine x_scr k231_571 hN ⟨by omega, by omega⟩ (fun z194 g_z194 e_z194 => ?_)
        unfold in32 at g_z194
        refine x_A k231_572 (fun _ => rfl) ?_
        refine x_A k231_573 (fun _ => rfl) ?_
        refine x_A k231_574 (fun _ => rfl) ?_
        refine x_iadd k231_575 ?_
        refine x_top (fun z195 e_z195 => ?_)
        refine x_scr k231_576 hN ⟨by omega, by omega⟩ (fun z196 g_z196 e_z196 => ?_)
        unfold in32 at g_z196
        refine x_callV k231_577 (y := 102) (n := 3) (w0 := 0) (w1 := 3) (as := [vi z192, vi z194, vi z196]) (rest := []) (by decide +kernel) (q := 0) (nq := 12) (kq := 3) ⟨by decide, rfl⟩ rfl rfl rfl rfl (xe_mono (C_X10_led_0 s hG i_J z192 (by first | exact x_rbe e_z192 g_z192 rfl rfl | exact x_rb g_z192 rfl rfl | exact ⟨by omega, by omega⟩) z194 (by first | exact x_rbe e_z194 g_z194 rfl rfl | exact x_rb g_z194 rfl rfl | exact ⟨by omega, by omega⟩) z196 (by first | exact x_rbe e_z196 g_z196 rfl rfl | exact x_rb g_z196 rfl rfl | exact ⟨by omega, by omega⟩)) ?_)
        rintro s198 v ⟨hG_s198, t_s198, z197, rfl, g_z197⟩
        have q199 : s198 0 10 = x1000 := (t_s198 0 10 (show 11 ∉ [3329, 3334, 3335, 3336, 3392, 3456, 3520, 3584, 3276, 3648, 3712, 3776, 3840, 3904, 3968, 3277, 4032] from by decide +kernel)).trans e_x1000.symm
        have q200 : s198 256 0 = x1001 := (t_s198 256 0 (show 4097 ∉ [3329, 3334, 3335, 3336, 3392, 3456, 3520, 3584, 3276, 3648, 3712, 3776, 3840, 3904, 3968, 3277, 4032] from by decide +kernel)).trans e_x1001.symm
        have J_s198 : J s198 := J.fl i_J t_s198 (by decide +kernel)
        show xe (some (N, xs)) 231 580 [(0, .ref 2000), (1, .ref 0), (2, .ref 256), (3, vi x3)] [vi z197] s198 295 10442 _
        refine x_A k231_580 (fun _ => rfl) ?_
        refine x_A k231_581 (fun _ => rfl) ?_
        refine x_A k231_582 (fun _ => rfl) ?_
        refine x_A k231_583 (fun _ => rfl) ?_
        refine x_A k231_584 (fun _ => rfl) ?_
        refine x_iadd k231_585 ?_
        refine x_top (fun z201 e_z201 => ?_)
        refine x_scr k231_586 hN ⟨by omega, by omega⟩ (fun z202 g_z202 e_z202 => ?_)
        unfold in32 at g_z202
        have q_z202 : z202 = z192 := by rw [e_z202, e_z192, show z201 = z191 by omega]
        refine x_A k231_587 (fun _ => rfl) ?_
        refine x_A k231_588 (fun _ => rfl) ?_
        refine x_A k231_589 (fun _ => rfl) ?_
        refine x_iadd k231_590 ?_
        refine x_top (fun z203 e_z203 => ?_)
        refine x_scr k231_591 hN ⟨by omega, by omega⟩ (fun z204 g_z204 e_z204 => ?_)
        unfold in32 at g_z204
        have q_z204 : z204 = z194 := by rw [e_z204, e_z194, show z203 = z193 by omega]
        refine x_A k231_592 (fun _ => rfl) ?_
        refine x_A k231_593 (fun _ => rfl) ?_
        refine x_A k231_594 (fun _ => rfl) ?_
        refine x_iadd k231_595 ?_
        refine x_top (fun z205 e_z205 => ?_)
        refine x_scr k231_596 hN ⟨by omega, by omega⟩ (fun z206 g_z206 e_z206 => ?_)
        unfold in32 at g_z206
        have q_z206 : z206 = z196 := by rw [e_z206, e_z196, show z205 = z195 by omega]
        refine x_callV k231_597 (y := 173) (n := 3) (w0 := 0) (w1 := 3) (as := [vi z202, vi z204, vi z206]) (rest := []) (by decide +kernel) (q := 256) (nq := 62) (kq := 15) ⟨by decide, rfl⟩ rfl rfl rfl rfl (xe_mono (C_X11_led_256 s198 hG_s198 J_s198 z202 (by first | exact x_rbe e_z202 g_z202 rfl rfl | exact x_rb g_z202 rfl rfl | exact ⟨by omega, by omega⟩) z204 (by first | exact x_rbe e_z204 g_z204 rfl rfl | exact x_rb g_z204 rfl rfl | exact ⟨by omega, by omega⟩) z206 (by first | exact x_rbe e_z206 g_z206 rfl rfl | exact x_rb g_z206 rfl rfl | exact ⟨by omega, by omega⟩)) ?_)
        rintro s208 v ⟨hG_s208, t_s208, z207, rfl, g_z207⟩
        have q209 : s208 0 10 = x1000 := (t_s208 0 10 (show 11 ∉ [5312, 5376, 4123, 5440, 5504, 5568, 5632, 5696, 5760] from by decide +kernel)).trans q199
        have q210 : s208 256 0 = x1001 := (t_s208 256 0 (show 4097 ∉ [5312, 5376, 4123, 5440, 5504, 5568, 5632, 5696, 5760] from by decide +kernel)).trans q200
        have J_s208 : J s208 := J.fl J_s198 t_s208 (by decide +kernel)
        show xe (some (N, xs)) 231 600 [(0, .ref 2000), (1, .ref 0), (2, .ref 256), (3, vi x3)] [vi z207] s208 295 10442 _
        refine x_A k231_600 (fun _ => rfl) ?_
        refine x_goto k231_601 (t := 1300) rfl ?_
        refine x_iinc k231_1300 (ls' := [(3, vi (x3 + 7)), (0, .ref 2000), (1, .ref 0), (2, .ref 256)]) rfl (by decide) rfl ?_
        refine x_goto k231_1303 (t := 18) rfl ?_
        refine x_ls (l := [(0, .ref 2000), (1, .ref 0), (2, .ref 256), (3, vi (x3 + 7))]) (show ([0, 1, 2, 3] : List Nat).Nodup from by decide +kernel) ⟨rfl, rfl, rfl, rfl, trivial⟩ ?_
        exact ih s208 (x3 + 7) x1000 x1001 hG_s208 trivial ⟨by omega, by omega⟩ (by first | exact x_rb b_x1000 rfl rfl | exact ⟨by omega, by omega⟩) (by first | exact x_rb b_x1001 rfl rfl | exact ⟨by omega, by omega⟩) (by omega) (q209).symm (q210).symm J_s208  (by omega)
      · rw [c5]
        refine x_B k231_33 rfl (fun _ => rfl) (fun _ => rfl) (fun _ _ => rfl) ?_
        show xe (some (N, xs)) 231 604 [(0, .ref 2000), (1, .ref 0), (2, .ref 256), (3, vi x3)] [] s 295 10442 _
        refine x_A k231_604 (fun _ => rfl) ?_
        refine x_A k231_605 (fun _ => rfl) ?_
        refine x_A k231_606 (fun _ => rfl) ?_
        refine x_A k231_607 (fun _ => rfl) ?_
        refine x_iadd k231_608 ?_
        refine x_top (fun z211 e_z211 => ?_)
        refine x_scr k231_609 hN ⟨by omega, by omega⟩ (fun z212 g_z212 e_z212 => ?_)
        unfold in32 at g_z212
        refine x_callV k231_610 (y := 103) (n := 1) (w0 := 0) (w1 := 1) (as := [vi z212]) (rest := []) (by decide +kernel) (q := 0) (nq := 12) (kq := 3) ⟨by decide, rfl⟩ rfl rfl rfl rfl (xe_mono (C_X10_count_0 s hG i_J z212 (by first | exact x_rbe e_z212 g_z212 rfl rfl | exact x_rb g_z212 rfl rfl | exact ⟨by omega, by omega⟩)) ?_)
        rintro s214 v ⟨hG_s214, t_s214, z213, rfl, g_z213⟩
        have q215 : s214 0 10 = x1000 := (t_s214 0 10 (show 11 ∉ [3329, 3334, 3335, 3336, 3392, 3456, 3520, 3584, 3276, 3648, 3712, 3776, 3840, 3904, 3968, 3277, 4032, 1921, 1926, 1927, 1928, 1984, 2048, 2112, 2176] from by decide +kernel)).trans e_x1000.symm
        have q216 : s214 256 0 = x1001 := (t_s214 256 0 (show 4097 ∉ [3329, 3334, 3335, 3336, 3392, 3456, 3520, 3584, 3276, 3648, 3712, 3776, 3840, 3904, 3968, 3277, 4032, 1921, 1926, 1927, 1928, 1984, 2048, 2112, 2176] from by decide +kernel)).trans e_x1001.symm
        have J_s214 : J s214 := J.fl i_J t_s214 (by decide +kernel)
        show xe (some (N, xs)) 231 613 [(0, .ref 2000), (1, .ref 0), (2, .ref 256), (3, vi x3)] [vi z213] s214 295 10442 _
        refine x_A k231_613 (fun _ => rfl) ?_
        refine x_A k231_614 (fun _ => rfl) ?_
        refine x_A k231_615 (fun _ => rfl) ?_
        refine x_A k231_616 (fun _ => rfl) ?_
        refine x_A k231_617 (fun _ => rfl) ?_
        refine x_iadd k231_618 ?_
        refine x_top (fun z217 e_z217 => ?_)
        refine x_scr k231_619 hN ⟨by omega, by omega⟩ (fun z218 g_z218 e_z218 => ?_)
        unfold in32 at g_z218
        have q_z218 : z218 = z212 := by rw [e_z218, e_z212, show z217 = z211 by omega]
        refine x_callV k231_620 (y := 174) (n := 1) (w0 := 0) (w1 := 1) (as := [vi z218]) (rest := []) (by decide +kernel) (q := 256) (nq := 62) (kq := 15) ⟨by decide, rfl⟩ rfl rfl rfl rfl (xe_mono (C_X11_count_256 s214 hG_s214 J_s214 z218 (by first | exact x_rbe e_z218 g_z218 rfl rfl | exact x_rb g_z218 rfl rfl | exact ⟨by omega, by omega⟩)) ?_)
        rintro s220 v ⟨hG_s220, t_s220, z219, rfl, g_z219⟩
        have q221 : s220 0 10 = x1000 := (t_s220 0 10 (show 11 ∉ [5312, 5376, 4123, 5440, 5504, 5568, 5632, 5696, 5760] from by decide +kernel)).trans q215
        have q222 : s220 256 0 = x1001 := (t_s220 256 0 (show 4097 ∉ [5312, 5376, 4123, 5440, 5504, 5568, 5632, 5696, 5760] from by decide +kernel)).trans q216
        have J_s220 : J s220 := J.fl J_s214 t_s220 (by decide +kernel)
        show xe (some (N, xs)) 231 623 [(0, .ref 2000), (1, .ref 0), (2, .ref 256), (3, vi x3)] [vi z219] s220 295 10442 _
        refine x_A k231_623 (fun _ => rfl) ?_
        refine x_goto k231_624 (t := 1300) rfl ?_
        refine x_iinc k231_1300 (ls' := [(3, vi (x3 + 7)), (0, .ref 2000), (1, .ref 0), (2, .ref 256)]) rfl (by decide) rfl ?_
        refine x_goto k231_1303 (t := 18) rfl ?_
        refine x_ls (l := [(0, .ref 2000), (1, .ref 0), (2, .ref 256), (3, vi (x3 + 7))]) (show ([0, 1, 2, 3] : List Nat).Nodup from by decide +kernel) ⟨rfl, rfl, rfl, rfl, trivial⟩ ?_
        exact ih s220 (x3 + 7) x1000 x1001 hG_s220 trivial ⟨by omega, by omega⟩ (by first | exact x_rb b_x1000 rfl rfl | exact ⟨by omega, by omega⟩) (by first | exact x_rb b_x1001 rfl rfl | exact ⟨by omega, by omega⟩) (by omega) (q221).symm (q222).symm J_s220  (by omega)
      · rw [c5]
        refine x_B k231_33 rfl (fun _ => rfl) (fun _ => rfl) (fun _ _ => rfl) ?_
        show xe (some (N, xs)) 231 627 [(0, .ref 2000), (1, .ref 0), (2, .ref 256), (3, vi x3)] [] s 295 10442 _
        refine x_A k231_627 (fun _ => rfl) ?_
        refine x_A k231_628 (fun _ => rfl) ?_
        refine x_A k231_629 (fun _ => rfl) ?_
        refine x_A k231_630 (fun _ => rfl) ?_
        refine x_iadd k231_631 ?_
        refine x_top (fun z223 e_z223 => ?_)
        refine x_scr k231_632 hN ⟨by omega, by omega⟩ (fun z224 g_z224 e_z224 => ?_)
        unfold in32 at g_z224
        refine x_A k231_633 (fun _ => rfl) ?_
        refine x_A k231_634 (fun _ => rfl) ?_
        refine x_A k231_635 (fun _ => rfl) ?_
        refine x_iadd k231_636 ?_
        refine x_top (fun z225 e_z225 => ?_)
        refine x_scr k231_637 hN ⟨by omega, by omega⟩ (fun z226 g_z226 e_z226 => ?_)
        unfold in32 at g_z226
        refine x_i2l k231_638 (by first | exact x_rbe e_z226 g_z226 rfl rfl | exact x_rb g_z226 rfl rfl | exact ⟨by omega, by omega⟩) ?_
        refine x_bipush k231_639 (by decide +kernel) ?_
        refine x_lshl_any k231_641 (fun z227 b_z227 => ?_)
        refine x_A k231_642 (fun _ => rfl) ?_
        refine x_A k231_643 (fun _ => rfl) ?_
        refine x_A k231_644 (fun _ => rfl) ?_
        refine x_iadd k231_645 ?_
        refine x_top (fun z228 e_z228 => ?_)
        refine x_scr k231_646 hN ⟨by omega, by omega⟩ (fun z229 g_z229 e_z229 => ?_)
        unfold in32 at g_z229
        refine x_i2l k231_647 (by first | exact x_rbe e_z229 g_z229 rfl rfl | exact x_rb g_z229 rfl rfl | exact ⟨by omega, by omega⟩) ?_
        refine x_ldc2 k231_648 (z := 4294967295) rfl (by decide +kernel) ?_
        refine x_land_mask k231_651 ⟨by omega, by omega⟩ (fun z230 g_z230 => ?_)
        refine x_lor_any k231_652 (fun z231 b_z231 => ?_)
        refine x_callV k231_653 (y := 104) (n := 2) (w0 := 0) (w1 := 3) (as := [vi z224, vj z231]) (rest := []) (by decide +kernel) (q := 0) (nq := 12) (kq := 3) ⟨by decide, rfl⟩ rfl rfl rfl rfl (xe_mono (C_X10_feed_0 s hG z224 (by first | exact x_rbe e_z224 g_z224 rfl rfl | exact x_rb g_z224 rfl rfl | exact ⟨by omega, by omega⟩) z231 b_z231) ?_)
        rintro s233 v ⟨hG_s233, t_s233, z232, rfl, g_z232⟩
        have q234 : s233 0 10 = x1000 := (t_s233 0 10 (show 11 ∉ [1218, 1280] from by decide +kernel)).trans e_x1000.symm
        have q235 : s233 256 0 = x1001 := (t_s233 256 0 (show 4097 ∉ [1218, 1280] from by decide +kernel)).trans e_x1001.symm
        have J_s233 : J s233 := J.fl i_J t_s233 (by decide +kernel)
        show xe (some (N, xs)) 231 656 [(0, .ref 2000), (1, .ref 0), (2, .ref 256), (3, vi x3)] [vi z232] s233 295 10442 _
        refine x_A k231_656 (fun _ => rfl) ?_
        refine x_A k231_657 (fun _ => rfl) ?_
        refine x_A k231_658 (fun _ => rfl) ?_
        refine x_A k231_659 (fun _ => rfl) ?_
        refine x_A k231_660 (fun _ => rfl) ?_
        refine x_iadd k231_661 ?_
        refine x_top (fun z236 e_z236 => ?_)
        refine x_scr k231_662 hN ⟨by omega, by omega⟩ (fun z237 g_z237 e_z237 => ?_)
        unfold in32 at g_z237
        have q_z237 : z237 = z224 := by rw [e_z237, e_z224, show z236 = z223 by omega]
        refine x_A k231_663 (fun _ => rfl) ?_
        refine x_A k231_664 (fun _ => rfl) ?_
        refine x_A k231_665 (fun _ => rfl) ?_
        refine x_iadd k231_666 ?_
        refine x_top (fun z238 e_z238 => ?_)
        refine x_scr k231_667 hN ⟨by omega, by omega⟩ (fun z239 g_z239 e_z239 => ?_)
        unfold in32 at g_z239
        have q_z239 : z239 = z226 := by rw [e_z239, e_z226, show z238 = z225 by omega]
        refine x_i2l k231_668 (by first | exact x_rbe e_z239 g_z239 rfl rfl | exact x_rb g_z239 rfl rfl | exact ⟨by omega, by omega⟩) ?_
        refine x_bipush k231_669 (by decide +kernel) ?_
        refine x_lshl_any k231_671 (fun z240 b_z240 => ?_)
        refine x_A k231_672 (fun _ => rfl) ?_
        refine x_A k231_673 (fun _ => rfl) ?_
        refine x_A k231_674 (fun _ => rfl) ?_
        refine x_iadd k231_675 ?_
        refine x_top (fun z241 e_z241 => ?_)
        refine x_scr k231_676 hN ⟨by omega, by omega⟩ (fun z242 g_z242 e_z242 => ?_)
        unfold in32 at g_z242
        have q_z242 : z242 = z229 := by rw [e_z242, e_z229, show z241 = z228 by omega]
        refine x_i2l k231_677 (by first | exact x_rbe e_z242 g_z242 rfl rfl | exact x_rb g_z242 rfl rfl | exact ⟨by omega, by omega⟩) ?_
        refine x_ldc2 k231_678 (z := 4294967295) rfl (by decide +kernel) ?_
        refine x_land_mask k231_681 ⟨by omega, by omega⟩ (fun z243 g_z243 => ?_)
        refine x_lor_any k231_682 (fun z244 b_z244 => ?_)
        refine x_callV k231_683 (y := 175) (n := 2) (w0 := 0) (w1 := 3) (as := [vi z237, vj z244]) (rest := []) (by decide +kernel) (q := 256) (nq := 62) (kq := 15) ⟨by decide, rfl⟩ rfl rfl rfl rfl (xe_mono (C_X11_feed_256 s233 hG_s233 z237 (by first | exact x_rbe e_z237 g_z237 rfl rfl | exact x_rb g_z237 rfl rfl | exact ⟨by omega, by omega⟩) z244 b_z244) ?_)
        rintro s246 v ⟨hG_s246, t_s246, z245, rfl, g_z245⟩
        have q247 : s246 0 10 = x1000 := (t_s246 0 10 (show 11 ∉ [4131, 5824] from by decide +kernel)).trans q234
        have q248 : s246 256 0 = x1001 := (t_s246 256 0 (show 4097 ∉ [4131, 5824] from by decide +kernel)).trans q235
        have J_s246 : J s246 := J.fl J_s233 t_s246 (by decide +kernel)
        show xe (some (N, xs)) 231 686 [(0, .ref 2000), (1, .ref 0), (2, .ref 256), (3, vi x3)] [vi z245] s246 295 10442 _
        refine x_A k231_686 (fun _ => rfl) ?_
        refine x_goto k231_687 (t := 1300) rfl ?_
        refine x_iinc k231_1300 (ls' := [(3, vi (x3 + 7)), (0, .ref 2000), (1, .ref 0), (2, .ref 256)]) rfl (by decide) rfl ?_
        refine x_goto k231_1303 (t := 18) rfl ?_
        refine x_ls (l := [(0, .ref 2000), (1, .ref 0), (2, .ref 256), (3, vi (x3 + 7))]) (show ([0, 1, 2, 3] : List Nat).Nodup from by decide +kernel) ⟨rfl, rfl, rfl, rfl, trivial⟩ ?_
        exact ih s246 (x3 + 7) x1000 x1001 hG_s246 trivial ⟨by omega, by omega⟩ (by first | exact x_rb b_x1000 rfl rfl | exact ⟨by omega, by omega⟩) (by first | exact x_rb b_x1001 rfl rfl | exact ⟨by omega, by omega⟩) (by omega) (q247).symm (q248).symm J_s246  (by omega)
      · rw [c5]
        refine x_B k231_33 rfl (fun _ => rfl) (fun _ => rfl) (fun _ _ => rfl) ?_
        show xe (some (N, xs)) 231 690 [(0, .ref 2000), (1, .ref 0), (2, .ref 256), (3, vi x3)] [] s 295 10442 _
        refine x_A k231_690 (fun _ => rfl) ?_
        refine x_A k231_691 (fun _ => rfl) ?_
        refine x_A k231_692 (fun _ => rfl) ?_
        refine x_A k231_693 (fun _ => rfl) ?_
        refine x_iadd k231_694 ?_
        refine x_top (fun z249 e_z249 => ?_)
        refine x_scr k231_695 hN ⟨by omega, by omega⟩ (fun z250 g_z250 e_z250 => ?_)
        unfold in32 at g_z250
        refine x_callV k231_696 (y := 105) (n := 1) (w0 := 0) (w1 := 1) (as := [vi z250]) (rest := []) (by decide +kernel) (q := 0) (nq := 12) (kq := 3) ⟨by decide, rfl⟩ rfl rfl rfl rfl (xe_mono (C_X10_rule_0 s hG z250 (by first | exact x_rbe e_z250 g_z250 rfl rfl | exact x_rb g_z250 rfl rfl | exact ⟨by omega, by omega⟩) i_J) ?_)
        rintro s252 v ⟨hG_s252, t_s252, z251, rfl, g_z251, J_s252⟩
        have q253 : s252 0 10 = x1000 := (t_s252 0 10 (show 11 ∉ [1219, 1220, 1221, 1222, 1223, 1600, 1728, 1856, 1408, 1472, 1350, 3276, 3277, 12, 1218] from by decide +kernel)).trans e_x1000.symm
        have q254 : s252 256 0 = x1001 := (t_s252 256 0 (show 4097 ∉ [1219, 1220, 1221, 1222, 1223, 1600, 1728, 1856, 1408, 1472, 1350, 3276, 3277, 12, 1218] from by decide +kernel)).trans e_x1001.symm
        show xe (some (N, xs)) 231 699 [(0, .ref 2000), (1, .ref 0), (2, .ref 256), (3, vi x3)] [vi z251] s252 295 10442 _
        refine x_A k231_699 (fun _ => rfl) ?_
        refine x_A k231_700 (fun _ => rfl) ?_
        refine x_A k231_701 (fun _ => rfl) ?_
        refine x_A k231_702 (fun _ => rfl) ?_
        refine x_A k231_703 (fun _ => rfl) ?_
        refine x_iadd k231_704 ?_
        refine x_top (fun z255 e_z255 => ?_)
        refine x_scr k231_705 hN ⟨by omega, by omega⟩ (fun z256 g_z256 e_z256 => ?_)
        unfold in32 at g_z256
        have q_z256 : z256 = z250 := by rw [e_z256, e_z250, show z255 = z249 by omega]
        obtain ⟨z257, e_z257⟩ : ∃ z, z = s252 256 20 := ⟨_, rfl⟩
        have g_z257 : (0 : Int) ≤ s252 256 20 ∧ s252 256 20 ≤ 64 := hG_s252 256 20
        obtain ⟨z258, e_z258⟩ : ∃ z, z = s252 256 17 := ⟨_, rfl⟩
        have g_z258 : (0 : Int) ≤ s252 256 17 ∧ s252 256 17 ≤ 8 := hG_s252 256 17
        refine x_callV k231_706 (y := 187) (n := 1) (w0 := 0) (w1 := 1) (as := [vi z256]) (rest := []) (by decide +kernel) (q := 256) (nq := 62) (kq := 15) ⟨by decide, rfl⟩ rfl rfl rfl rfl (xe_mono (C_X11_rule_256 s252 hG_s252 z256 (by first | exact x_rbe e_z256 g_z256 rfl rfl | exact x_rb g_z256 rfl rfl | exact ⟨by omega, by omega⟩) ⟨by omega, by omega⟩ ⟨by omega, by omega⟩ J_s252) ?_)
        rintro s260 v ⟨hG_s260, t_s260, z259, rfl, g_z259, J_s260⟩
        have q261 : s260 0 10 = x1000 := (t_s260 0 10 (show 11 ∉ [4133, 4136, 4132, 4134, 4135, 5120, 5184, 5248, 4131, 4992, 5056, 4117, 4114] from by decide +kernel)).trans q253
        have q262 : s260 256 0 = x1001 := (t_s260 256 0 (show 4097 ∉ [4133, 4136, 4132, 4134, 4135, 5120, 5184, 5248, 4131, 4992, 5056, 4117, 4114] from by decide +kernel)).trans q254
        show xe (some (N, xs)) 231 709 [(0, .ref 2000), (1, .ref 0), (2, .ref 256), (3, vi x3)] [vi z259] s260 295 10442 _
        refine x_A k231_709 (fun _ => rfl) ?_
        refine x_goto k231_710 (t := 1300) rfl ?_
        refine x_iinc k231_1300 (ls' := [(3, vi (x3 + 7)), (0, .ref 2000), (1, .ref 0), (2, .ref 256)]) rfl (by decide) rfl ?_
        refine x_goto k231_1303 (t := 18) rfl ?_
        refine x_ls (l := [(0, .ref 2000), (1, .ref 0), (2, .ref 256), (3, vi (x3 + 7))]) (show ([0, 1, 2, 3] : List Nat).Nodup from by decide +kernel) ⟨rfl, rfl, rfl, rfl, trivial⟩ ?_
        exact ih s260 (x3 + 7) x1000 x1001 hG_s260 trivial ⟨by omega, by omega⟩ (by first | exact x_rb b_x1000 rfl rfl | exact ⟨by omega, by omega⟩) (by first | exact x_rb b_x1001 rfl rfl | exact ⟨by omega, by omega⟩) (by omega) (q261).symm (q262).symm J_s260  (by omega)
      · rw [c5]
        refine x_B k231_33 rfl (fun _ => rfl) (fun _ => rfl) (fun _ _ => rfl) ?_
        show xe (some (N, xs)) 231 713 [(0, .ref 2000), (1, .ref 0), (2, .ref 256), (3, vi x3)] [] s 295 10442 _
        refine x_A k231_713 (fun _ => rfl) ?_
        refine x_callV k231_714 (y := 106) (n := 0) (w0 := 0) (w1 := 0) (as := []) (rest := []) (by decide +kernel) (q := 0) (nq := 12) (kq := 3) ⟨by decide, rfl⟩ rfl rfl rfl rfl (xe_mono (C_X10_fault_0 s hG) ?_)
        rintro s264 v ⟨-, t_s264, z263, rfl, g_z263⟩
        rw [t_s264.nil]
        show xe (some (N, xs)) 231 717 [(0, .ref 2000), (1, .ref 0), (2, .ref 256), (3, vi x3)] [vi z263] s 295 10442 _
        refine x_A k231_717 (fun _ => rfl) ?_
        refine x_A k231_718 (fun _ => rfl) ?_
        refine x_callV k231_719 (y := 188) (n := 0) (w0 := 0) (w1 := 0) (as := []) (rest := []) (by decide +kernel) (q := 256) (nq := 62) (kq := 15) ⟨by decide, rfl⟩ rfl rfl rfl rfl (xe_mono (C_X11_fault_256 s hG) ?_)
        rintro s266 v ⟨-, t_s266, z265, rfl, g_z265⟩
        rw [t_s266.nil]
        show xe (some (N, xs)) 231 722 [(0, .ref 2000), (1, .ref 0), (2, .ref 256), (3, vi x3)] [vi z265] s 295 10442 _
        refine x_A k231_722 (fun _ => rfl) ?_
        refine x_goto k231_723 (t := 1300) rfl ?_
        refine x_iinc k231_1300 (ls' := [(3, vi (x3 + 7)), (0, .ref 2000), (1, .ref 0), (2, .ref 256)]) rfl (by decide) rfl ?_
        refine x_goto k231_1303 (t := 18) rfl ?_
        refine x_ls (l := [(0, .ref 2000), (1, .ref 0), (2, .ref 256), (3, vi (x3 + 7))]) (show ([0, 1, 2, 3] : List Nat).Nodup from by decide +kernel) ⟨rfl, rfl, rfl, rfl, trivial⟩ ?_
        exact ih s (x3 + 7) x1000 x1001 hG f ⟨by omega, by omega⟩ (by first | exact x_rb b_x1000 rfl rfl | exact ⟨by omega, by omega⟩) (by first | exact x_rb b_x1001 rfl rfl | exact ⟨by omega, by omega⟩) (by omega) (e_x1000.symm).symm (e_x1001.symm).symm i_J  (by omega)
      · rw [c5]
        refine x_B k231_33 rfl (fun _ => rfl) (fun _ => rfl) (fun _ _ => rfl) ?_
        show xe (some (N, xs)) 231 726 [(0, .ref 2000), (1, .ref 0), (2, .ref 256), (3, vi x3)] [] s 295 10442 _
        refine x_A k231_726 (fun _ => rfl) ?_
        refine x_A k231_727 (fun _ => rfl) ?_
        refine x_A k231_728 (fun _ => rfl) ?_
        refine x_A k231_729 (fun _ => rfl) ?_
        refine x_iadd k231_730 ?_
        refine x_top (fun z267 e_z267 => ?_)
        refine x_scr k231_731 hN ⟨by omega, by omega⟩ (fun z268 g_z268 e_z268 => ?_)
        unfold in32 at g_z268
        refine x_A k231_732 (fun _ => rfl) ?_
        refine x_A k231_733 (fun _ => rfl) ?_
        refine x_A k231_734 (fun _ => rfl) ?_
        refine x_iadd k231_735 ?_
        refine x_top (fun z269 e_z269 => ?_)
        refine x_scr k231_736 hN ⟨by omega, by omega⟩ (fun z270 g_z270 e_z270 => ?_)
        unfold in32 at g_z270
        refine x_callV k231_737 (y := 107) (n := 2) (w0 := 0) (w1 := 2) (as := [vi z268, vi z270]) (rest := []) (by decide +kernel) (q := 0) (nq := 12) (kq := 3) ⟨by decide, rfl⟩ rfl rfl rfl rfl (xe_mono (C_X10_force_0 s hG i_J z268 (by first | exact x_rbe e_z268 g_z268 rfl rfl | exact x_rb g_z268 rfl rfl | exact ⟨by omega, by omega⟩) z270 (by first | exact x_rbe e_z270 g_z270 rfl rfl | exact x_rb g_z270 rfl rfl | exact ⟨by omega, by omega⟩)) ?_)
        rintro s272 v ⟨hG_s272, t_s272, z271, rfl, g_z271⟩
        have q273 : s272 0 10 = x1000 := (t_s272 0 10 (show 11 ∉ [1921, 1926, 1927, 1928, 1984, 2048, 2112, 2176] from by decide +kernel)).trans e_x1000.symm
        have q274 : s272 256 0 = x1001 := (t_s272 256 0 (show 4097 ∉ [1921, 1926, 1927, 1928, 1984, 2048, 2112, 2176] from by decide +kernel)).trans e_x1001.symm
        have J_s272 : J s272 := J.fl i_J t_s272 (by decide +kernel)
        show xe (some (N, xs)) 231 740 [(0, .ref 2000), (1, .ref 0), (2, .ref 256), (3, vi x3)] [vi z271] s272 295 10442 _
        refine x_A k231_740 (fun _ => rfl) ?_
        refine x_A k231_741 (fun _ => rfl) ?_
        refine x_A k231_742 (fun _ => rfl) ?_
        refine x_A k231_743 (fun _ => rfl) ?_
        refine x_A k231_744 (fun _ => rfl) ?_
        refine x_iadd k231_745 ?_
        refine x_top (fun z275 e_z275 => ?_)
        refine x_scr k231_746 hN ⟨by omega, by omega⟩ (fun z276 g_z276 e_z276 => ?_)
        unfold in32 at g_z276
        have q_z276 : z276 = z268 := by rw [e_z276, e_z268, show z275 = z267 by omega]
        refine x_A k231_747 (fun _ => rfl) ?_
        refine x_A k231_748 (fun _ => rfl) ?_
        refine x_A k231_749 (fun _ => rfl) ?_
        refine x_iadd k231_750 ?_
        refine x_top (fun z277 e_z277 => ?_)
        refine x_scr k231_751 hN ⟨by omega, by omega⟩ (fun z278 g_z278 e_z278 => ?_)
        unfold in32 at g_z278
        have q_z278 : z278 = z270 := by rw [e_z278, e_z270, show z277 = z269 by omega]
        refine x_callV k231_752 (y := 189) (n := 2) (w0 := 0) (w1 := 2) (as := [vi z276, vi z278]) (rest := []) (by decide +kernel) (q := 256) (nq := 62) (kq := 15) ⟨by decide, rfl⟩ rfl rfl rfl rfl (xe_mono (C_X11_force_256 s272 hG_s272 J_s272 z276 (by first | exact x_rbe e_z276 g_z276 rfl rfl | exact x_rb g_z276 rfl rfl | exact ⟨by omega, by omega⟩) z278 (by first | exact x_rbe e_z278 g_z278 rfl rfl | exact x_rb g_z278 rfl rfl | exact ⟨by omega, by omega⟩)) ?_)
        rintro s280 v ⟨hG_s280, t_s280, z279, rfl, g_z279⟩
        have q281 : s280 0 10 = x1000 := (t_s280 0 10 (show 11 ∉ [5312, 5376, 4123] from by decide +kernel)).trans q273
        have q282 : s280 256 0 = x1001 := (t_s280 256 0 (show 4097 ∉ [5312, 5376, 4123] from by decide +kernel)).trans q274
        have J_s280 : J s280 := J.fl J_s272 t_s280 (by decide +kernel)
        show xe (some (N, xs)) 231 755 [(0, .ref 2000), (1, .ref 0), (2, .ref 256), (3, vi x3)] [vi z279] s280 295 10442 _
        refine x_A k231_755 (fun _ => rfl) ?_
        refine x_goto k231_756 (t := 1300) rfl ?_
        refine x_iinc k231_1300 (ls' := [(3, vi (x3 + 7)), (0, .ref 2000), (1, .ref 0), (2, .ref 256)]) rfl (by decide) rfl ?_
        refine x_goto k231_1303 (t := 18) rfl ?_
        refine x_ls (l := [(0, .ref 2000), (1, .ref 0), (2, .ref 256), (3, vi (x3 + 7))]) (show ([0, 1, 2, 3] : List Nat).Nodup from by decide +kernel) ⟨rfl, rfl, rfl, rfl, trivial⟩ ?_
        exact ih s280 (x3 + 7) x1000 x1001 hG_s280 trivial ⟨by omega, by omega⟩ (by first | exact x_rb b_x1000 rfl rfl | exact ⟨by omega, by omega⟩) (by first | exact x_rb b_x1001 rfl rfl | exact ⟨by omega, by omega⟩) (by omega) (q281).symm (q282).symm J_s280  (by omega)
      · rw [c5]
        refine x_B k231_33 rfl (fun _ => rfl) (fun _ => rfl) (fun _ _ => rfl) ?_
        show xe (some (N, xs)) 231 759 [(0, .ref 2000), (1, .ref 0), (2, .ref 256), (3, vi x3)] [] s 295 10442 _
        refine x_A k231_759 (fun _ => rfl) ?_
        refine x_A k231_760 (fun _ => rfl) ?_
        refine x_A k231_761 (fun _ => rfl) ?_
        refine x_A k231_762 (fun _ => rfl) ?_
        refine x_iadd k231_763 ?_
        refine x_top (fun z283 e_z283 => ?_)
        refine x_scr k231_764 hN ⟨by omega, by omega⟩ (fun z284 g_z284 e_z284 => ?_)
        unfold in32 at g_z284
        refine x_A k231_765 (fun _ => rfl) ?_
        refine x_A k231_766 (fun _ => rfl) ?_
        refine x_A k231_767 (fun _ => rfl) ?_
        refine x_iadd k231_768 ?_
        refine x_top (fun z285 e_z285 => ?_)
        refine x_scr k231_769 hN ⟨by omega, by omega⟩ (fun z286 g_z286 e_z286 => ?_)
        unfold in32 at g_z286
        refine x_A k231_770 (fun _ => rfl) ?_
        refine x_A k231_771 (fun _ => rfl) ?_
        refine x_A k231_772 (fun _ => rfl) ?_
        refine x_iadd k231_773 ?_
        refine x_top (fun z287 e_z287 => ?_)
        refine x_scr k231_774 hN ⟨by omega, by omega⟩ (fun z288 g_z288 e_z288 => ?_)
        unfold in32 at g_z288
        refine x_callV k231_775 (y := 108) (n := 3) (w0 := 0) (w1 := 3) (as := [vi z284, vi z286, vi z288]) (rest := []) (by decide +kernel) (q := 0) (nq := 12) (kq := 3) ⟨by decide, rfl⟩ rfl rfl rfl rfl (xe_mono (C_X10_word_0 s hG z284 (by first | exact x_rbe e_z284 g_z284 rfl rfl | exact x_rb g_z284 rfl rfl | exact ⟨by omega, by omega⟩) z286 (by first | exact x_rbe e_z286 g_z286 rfl rfl | exact x_rb g_z286 rfl rfl | exact ⟨by omega, by omega⟩) z288 (by first | exact x_rbe e_z288 g_z288 rfl rfl | exact x_rb g_z288 rfl rfl | exact ⟨by omega, by omega⟩)) ?_)
        rintro s290 v ⟨hG_s290, t_s290, z289, rfl, g_z289⟩
        have q291 : s290 0 10 = x1000 := (t_s290 0 10 (show 11 ∉ [2244, 2304, 2368, 2432] from by decide +kernel)).trans e_x1000.symm
        have q292 : s290 256 0 = x1001 := (t_s290 256 0 (show 4097 ∉ [2244, 2304, 2368, 2432] from by decide +kernel)).trans e_x1001.symm
        have J_s290 : J s290 := J.fl i_J t_s290 (by decide +kernel)
        show xe (some (N, xs)) 231 778 [(0, .ref 2000), (1, .ref 0), (2, .ref 256), (3, vi x3)] [vi z289] s290 295 10442 _
        refine x_A k231_778 (fun _ => rfl) ?_
        refine x_A k231_779 (fun _ => rfl) ?_
        refine x_A k231_780 (fun _ => rfl) ?_
        refine x_A k231_781 (fun _ => rfl) ?_
        refine x_A k231_782 (fun _ => rfl) ?_
        refine x_iadd k231_783 ?_
        refine x_top (fun z293 e_z293 => ?_)
        refine x_scr k231_784 hN ⟨by omega, by omega⟩ (fun z294 g_z294 e_z294 => ?_)
        unfold in32 at g_z294
        have q_z294 : z294 = z284 := by rw [e_z294, e_z284, show z293 = z283 by omega]
        refine x_A k231_785 (fun _ => rfl) ?_
        refine x_A k231_786 (fun _ => rfl) ?_
        refine x_A k231_787 (fun _ => rfl) ?_
        refine x_iadd k231_788 ?_
        refine x_top (fun z295 e_z295 => ?_)
        refine x_scr k231_789 hN ⟨by omega, by omega⟩ (fun z296 g_z296 e_z296 => ?_)
        unfold in32 at g_z296
        have q_z296 : z296 = z286 := by rw [e_z296, e_z286, show z295 = z285 by omega]
        refine x_A k231_790 (fun _ => rfl) ?_
        refine x_A k231_791 (fun _ => rfl) ?_
        refine x_A k231_792 (fun _ => rfl) ?_
        refine x_iadd k231_793 ?_
        refine x_top (fun z297 e_z297 => ?_)
        refine x_scr k231_794 hN ⟨by omega, by omega⟩ (fun z298 g_z298 e_z298 => ?_)
        unfold in32 at g_z298
        have q_z298 : z298 = z288 := by rw [e_z298, e_z288, show z297 = z287 by omega]
        refine x_callV k231_795 (y := 192) (n := 3) (w0 := 0) (w1 := 3) (as := [vi z294, vi z296, vi z298]) (rest := []) (by decide +kernel) (q := 256) (nq := 62) (kq := 15) ⟨by decide, rfl⟩ rfl rfl rfl rfl (xe_mono (C_X11_word_256 s290 hG_s290 z294 (by first | exact x_rbe e_z294 g_z294 rfl rfl | exact x_rb g_z294 rfl rfl | exact ⟨by omega, by omega⟩) z296 (by first | exact x_rbe e_z296 g_z296 rfl rfl | exact x_rb g_z296 rfl rfl | exact ⟨by omega, by omega⟩) z298 (by first | exact x_rbe e_z298 g_z298 rfl rfl | exact x_rb g_z298 rfl rfl | exact ⟨by omega, by omega⟩)) ?_)
        rintro s300 v ⟨hG_s300, t_s300, z299, rfl, g_z299⟩
        have q301 : s300 0 10 = x1000 := (t_s300 0 10 (show 11 ∉ [4137, 5888, 5952] from by decide +kernel)).trans q291
        have q302 : s300 256 0 = x1001 := (t_s300 256 0 (show 4097 ∉ [4137, 5888, 5952] from by decide +kernel)).trans q292
        have J_s300 : J s300 := J.fl J_s290 t_s300 (by decide +kernel)
        show xe (some (N, xs)) 231 798 [(0, .ref 2000), (1, .ref 0), (2, .ref 256), (3, vi x3)] [vi z299] s300 295 10442 _
        refine x_A k231_798 (fun _ => rfl) ?_
        refine x_goto k231_799 (t := 1300) rfl ?_
        refine x_iinc k231_1300 (ls' := [(3, vi (x3 + 7)), (0, .ref 2000), (1, .ref 0), (2, .ref 256)]) rfl (by decide) rfl ?_
        refine x_goto k231_1303 (t := 18) rfl ?_
        refine x_ls (l := [(0, .ref 2000), (1, .ref 0), (2, .ref 256), (3, vi (x3 + 7))]) (show ([0, 1, 2, 3] : List Nat).Nodup from by decide +kernel) ⟨rfl, rfl, rfl, rfl, trivial⟩ ?_
        exact ih s300 (x3 + 7) x1000 x1001 hG_s300 trivial ⟨by omega, by omega⟩ (by first | exact x_rb b_x1000 rfl rfl | exact ⟨by omega, by omega⟩) (by first | exact x_rb b_x1001 rfl rfl | exact ⟨by omega, by omega⟩) (by omega) (q301).symm (q302).symm J_s300  (by omega)
      · rw [c5]
        refine x_B k231_33 rfl (fun _ => rfl) (fun _ => rfl) (fun _ _ => rfl) ?_
        show xe (some (N, xs)) 231 802 [(0, .ref 2000), (1, .ref 0), (2, .ref 256), (3, vi x3)] [] s 295 10442 _
        refine x_A k231_802 (fun _ => rfl) ?_
        refine x_A k231_803 (fun _ => rfl) ?_
        refine x_A k231_804 (fun _ => rfl) ?_
        refine x_A k231_805 (fun _ => rfl) ?_
        refine x_iadd k231_806 ?_
        refine x_top (fun z303 e_z303 => ?_)
        refine x_scr k231_807 hN ⟨by omega, by omega⟩ (fun z304 g_z304 e_z304 => ?_)
        unfold in32 at g_z304
        refine x_A k231_808 (fun _ => rfl) ?_
        refine x_A k231_809 (fun _ => rfl) ?_
        refine x_A k231_810 (fun _ => rfl) ?_
        refine x_iadd k231_811 ?_
        refine x_top (fun z305 e_z305 => ?_)
        refine x_scr k231_812 hN ⟨by omega, by omega⟩ (fun z306 g_z306 e_z306 => ?_)
        unfold in32 at g_z306
        refine x_callV k231_813 (y := 109) (n := 2) (w0 := 0) (w1 := 2) (as := [vi z304, vi z306]) (rest := []) (by decide +kernel) (q := 0) (nq := 12) (kq := 3) ⟨by decide, rfl⟩ rfl rfl rfl rfl (xe_mono (C_X10_leads_0 s hG z304 (by first | exact x_rbe e_z304 g_z304 rfl rfl | exact x_rb g_z304 rfl rfl | exact ⟨by omega, by omega⟩) z306 (by first | exact x_rbe e_z306 g_z306 rfl rfl | exact x_rb g_z306 rfl rfl | exact ⟨by omega, by omega⟩)) ?_)
        rintro s308 v ⟨-, t_s308, z307, rfl, g_z307⟩
        rw [t_s308.nil]
        show xe (some (N, xs)) 231 816 [(0, .ref 2000), (1, .ref 0), (2, .ref 256), (3, vi x3)] [vi z307] s 295 10442 _
        refine x_A k231_816 (fun _ => rfl) ?_
        refine x_A k231_817 (fun _ => rfl) ?_
        refine x_A k231_818 (fun _ => rfl) ?_
        refine x_A k231_819 (fun _ => rfl) ?_
        refine x_A k231_820 (fun _ => rfl) ?_
        refine x_iadd k231_821 ?_
        refine x_top (fun z309 e_z309 => ?_)
        refine x_scr k231_822 hN ⟨by omega, by omega⟩ (fun z310 g_z310 e_z310 => ?_)
        unfold in32 at g_z310
        have q_z310 : z310 = z304 := by rw [e_z310, e_z304, show z309 = z303 by omega]
        refine x_A k231_823 (fun _ => rfl) ?_
        refine x_A k231_824 (fun _ => rfl) ?_
        refine x_A k231_825 (fun _ => rfl) ?_
        refine x_iadd k231_826 ?_
        refine x_top (fun z311 e_z311 => ?_)
        refine x_scr k231_827 hN ⟨by omega, by omega⟩ (fun z312 g_z312 e_z312 => ?_)
        unfold in32 at g_z312
        have q_z312 : z312 = z306 := by rw [e_z312, e_z306, show z311 = z305 by omega]
        refine x_callV k231_828 (y := 193) (n := 2) (w0 := 0) (w1 := 2) (as := [vi z310, vi z312]) (rest := []) (by decide +kernel) (q := 256) (nq := 62) (kq := 15) ⟨by decide, rfl⟩ rfl rfl rfl rfl (xe_mono (C_X11_leads_256 s hG z310 (by first | exact x_rbe e_z310 g_z310 rfl rfl | exact x_rb g_z310 rfl rfl | exact ⟨by omega, by omega⟩) z312 (by first | exact x_rbe e_z312 g_z312 rfl rfl | exact x_rb g_z312 rfl rfl | exact ⟨by omega, by omega⟩)) ?_)
        rintro s314 v ⟨-, t_s314, z313, rfl, g_z313⟩
        rw [t_s314.nil]
        show xe (some (N, xs)) 231 831 [(0, .ref 2000), (1, .ref 0), (2, .ref 256), (3, vi x3)] [vi z313] s 295 10442 _
        refine x_A k231_831 (fun _ => rfl) ?_
        refine x_goto k231_832 (t := 1300) rfl ?_
        refine x_iinc k231_1300 (ls' := [(3, vi (x3 + 7)), (0, .ref 2000), (1, .ref 0), (2, .ref 256)]) rfl (by decide) rfl ?_
        refine x_goto k231_1303 (t := 18) rfl ?_
        refine x_ls (l := [(0, .ref 2000), (1, .ref 0), (2, .ref 256), (3, vi (x3 + 7))]) (show ([0, 1, 2, 3] : List Nat).Nodup from by decide +kernel) ⟨rfl, rfl, rfl, rfl, trivial⟩ ?_
        exact ih s (x3 + 7) x1000 x1001 hG f ⟨by omega, by omega⟩ (by first | exact x_rb b_x1000 rfl rfl | exact ⟨by omega, by omega⟩) (by first | exact x_rb b_x1001 rfl rfl | exact ⟨by omega, by omega⟩) (by omega) (e_x1000.symm).symm (e_x1001.symm).symm i_J  (by omega)
      · rw [c5]
        refine x_B k231_33 rfl (fun _ => rfl) (fun _ => rfl) (fun _ _ => rfl) ?_
        show xe (some (N, xs)) 231 835 [(0, .ref 2000), (1, .ref 0), (2, .ref 256), (3, vi x3)] [] s 295 10442 _
        refine x_A k231_835 (fun _ => rfl) ?_
        refine x_callV k231_836 (y := 110) (n := 0) (w0 := 0) (w1 := 0) (as := []) (rest := []) (by decide +kernel) (q := 0) (nq := 12) (kq := 3) ⟨by decide, rfl⟩ rfl rfl rfl rfl (xe_mono (C_X10_ask_0 s hG) ?_)
        rintro s316 v ⟨hG_s316, t_s316, z315, rfl, g_z315⟩
        have q317 : s316 0 10 = x1000 := (t_s316 0 10 (show 11 ∉ [2501, 2502, 2560, 2688, 2816, 1219, 1220, 1221, 1222, 1223, 2503, 12, 1218] from by decide +kernel)).trans e_x1000.symm
        have q318 : s316 256 0 = x1001 := (t_s316 256 0 (show 4097 ∉ [2501, 2502, 2560, 2688, 2816, 1219, 1220, 1221, 1222, 1223, 2503, 12, 1218] from by decide +kernel)).trans e_x1001.symm
        have J_s316 : J s316 := J.fl i_J t_s316 (by decide +kernel)
        show xe (some (N, xs)) 231 839 [(0, .ref 2000), (1, .ref 0), (2, .ref 256), (3, vi x3)] [vi z315] s316 295 10442 _
        refine x_A k231_839 (fun _ => rfl) ?_
        refine x_A k231_840 (fun _ => rfl) ?_
        obtain ⟨z319, e_z319⟩ : ∃ z, z = s316 256 47 := ⟨_, rfl⟩
        have g_z319 : (0 : Int) ≤ s316 256 47 ∧ s316 256 47 ≤ 110 := hG_s316 256 47
        obtain ⟨z320, e_z320⟩ : ∃ z, z = s316 256 48 := ⟨_, rfl⟩
        have g_z320 : (0 : Int) ≤ s316 256 48 ∧ s316 256 48 ≤ 120 := hG_s316 256 48
        obtain ⟨z321, e_z321⟩ : ∃ z, z = s316 256 36 := ⟨_, rfl⟩
        have g_z321 : (0 : Int) ≤ s316 256 36 ∧ s316 256 36 ≤ 160 := hG_s316 256 36
        obtain ⟨z322, e_z322⟩ : ∃ z, z = s316 256 34 := ⟨_, rfl⟩
        have g_z322 : (0 : Int) ≤ s316 256 34 ∧ s316 256 34 ≤ 160 := hG_s316 256 34
        obtain ⟨z323, e_z323⟩ : ∃ z, z = s316 256 43 := ⟨_, rfl⟩
        have g_z323 : (0 : Int) ≤ s316 256 43 ∧ s316 256 43 ≤ 8 := hG_s316 256 43
        obtain ⟨z324, e_z324⟩ : ∃ z, z = s316 256 50 := ⟨_, rfl⟩
        have g_z324 : (0 : Int) ≤ s316 256 50 ∧ s316 256 50 ≤ 5 := hG_s316 256 50
        obtain ⟨z325, e_z325⟩ : ∃ z, z = s316 256 51 := ⟨_, rfl⟩
        have g_z325 : (0 : Int) ≤ s316 256 51 ∧ s316 256 51 ≤ 1 := hG_s316 256 51
        refine x_callV k231_841 (y := 200) (n := 0) (w0 := 0) (w1 := 0) (as := []) (rest := []) (by decide +kernel) (q := 256) (nq := 62) (kq := 15) ⟨by decide, rfl⟩ rfl rfl rfl rfl (xe_mono (C_X11_ask_256 s316 hG_s316 ⟨by omega, by omega⟩ ⟨by omega, by omega⟩ ⟨by omega, by omega⟩ ⟨by omega, by omega⟩ ⟨by omega, by omega⟩ ⟨by omega, by omega⟩ ⟨by omega, by omega⟩ J_s316) ?_)
        rintro s327 v ⟨hG_s327, t_s327, z326, rfl, g_z326, J_s327⟩
        have q328 : s327 0 10 = x1000 := (t_s327 0 10 (show 11 ∉ [4133, 4136, 4132, 4134, 4135, 6080, 6144, 4144, 4145, 4148, 4147, 6208, 4131, 6016, 4140] from by decide +kernel)).trans q317
        have q329 : s327 256 0 = x1001 := (t_s327 256 0 (show 4097 ∉ [4133, 4136, 4132, 4134, 4135, 6080, 6144, 4144, 4145, 4148, 4147, 6208, 4131, 6016, 4140] from by decide +kernel)).trans q318
        show xe (some (N, xs)) 231 844 [(0, .ref 2000), (1, .ref 0), (2, .ref 256), (3, vi x3)] [vi z326] s327 295 10442 _
        refine x_A k231_844 (fun _ => rfl) ?_
        refine x_goto k231_845 (t := 1300) rfl ?_
        refine x_iinc k231_1300 (ls' := [(3, vi (x3 + 7)), (0, .ref 2000), (1, .ref 0), (2, .ref 256)]) rfl (by decide) rfl ?_
        refine x_goto k231_1303 (t := 18) rfl ?_
        refine x_ls (l := [(0, .ref 2000), (1, .ref 0), (2, .ref 256), (3, vi (x3 + 7))]) (show ([0, 1, 2, 3] : List Nat).Nodup from by decide +kernel) ⟨rfl, rfl, rfl, rfl, trivial⟩ ?_
        exact ih s327 (x3 + 7) x1000 x1001 hG_s327 trivial ⟨by omega, by omega⟩ (by first | exact x_rb b_x1000 rfl rfl | exact ⟨by omega, by omega⟩) (by first | exact x_rb b_x1001 rfl rfl | exact ⟨by omega, by omega⟩) (by omega) (q328).symm (q329).symm J_s327  (by omega)
      · rw [c5]
        refine x_B k231_33 rfl (fun _ => rfl) (fun _ => rfl) (fun _ _ => rfl) ?_
        show xe (some (N, xs)) 231 848 [(0, .ref 2000), (1, .ref 0), (2, .ref 256), (3, vi x3)] [] s 295 10442 _
        refine x_A k231_848 (fun _ => rfl) ?_
        refine x_A k231_849 (fun _ => rfl) ?_
        refine x_A k231_850 (fun _ => rfl) ?_
        refine x_A k231_851 (fun _ => rfl) ?_
        refine x_iadd k231_852 ?_
        refine x_top (fun z330 e_z330 => ?_)
        refine x_scr k231_853 hN ⟨by omega, by omega⟩ (fun z331 g_z331 e_z331 => ?_)
        unfold in32 at g_z331
        refine x_A k231_854 (fun _ => rfl) ?_
        refine x_A k231_855 (fun _ => rfl) ?_
        refine x_A k231_856 (fun _ => rfl) ?_
        refine x_iadd k231_857 ?_
        refine x_top (fun z332 e_z332 => ?_)
        refine x_scr k231_858 hN ⟨by omega, by omega⟩ (fun z333 g_z333 e_z333 => ?_)
        unfold in32 at g_z333
        refine x_A k231_859 (fun _ => rfl) ?_
        refine x_A k231_860 (fun _ => rfl) ?_
        refine x_A k231_861 (fun _ => rfl) ?_
        refine x_iadd k231_862 ?_
        refine x_top (fun z334 e_z334 => ?_)
        refine x_scr k231_863 hN ⟨by omega, by omega⟩ (fun z335 g_z335 e_z335 => ?_)
        unfold in32 at g_z335
        refine x_callV k231_864 (y := 111) (n := 3) (w0 := 0) (w1 := 3) (as := [vi z331, vi z333, vi z335]) (rest := []) (by decide +kernel) (q := 0) (nq := 12) (kq := 3) ⟨by decide, rfl⟩ rfl rfl rfl rfl (xe_mono (C_X10_met_0 s hG i_J z331 (by first | exact x_rbe e_z331 g_z331 rfl rfl | exact x_rb g_z331 rfl rfl | exact ⟨by omega, by omega⟩) z333 (by first | exact x_rbe e_z333 g_z333 rfl rfl | exact x_rb g_z333 rfl rfl | exact ⟨by omega, by omega⟩) z335 (by first | exact x_rbe e_z335 g_z335 rfl rfl | exact x_rb g_z335 rfl rfl | exact ⟨by omega, by omega⟩)) ?_)
        rintro s337 v ⟨hG_s337, t_s337, z336, rfl, g_z336⟩
        have q338 : s337 0 10 = x1000 := (t_s337 0 10 (show 11 ∉ [3329, 3334, 3335, 3336, 3392, 3456, 3520, 3584, 3276, 3648, 3712, 3776, 3840, 3904, 3968, 3277, 4032, 2752] from by decide +kernel)).trans e_x1000.symm
        have q339 : s337 256 0 = x1001 := (t_s337 256 0 (show 4097 ∉ [3329, 3334, 3335, 3336, 3392, 3456, 3520, 3584, 3276, 3648, 3712, 3776, 3840, 3904, 3968, 3277, 4032, 2752] from by decide +kernel)).trans e_x1001.symm
        have J_s337 : J s337 := J.fl i_J t_s337 (by decide +kernel)
        show xe (some (N, xs)) 231 867 [(0, .ref 2000), (1, .ref 0), (2, .ref 256), (3, vi x3)] [vi z336] s337 295 10442 _
        refine x_A k231_867 (fun _ => rfl) ?_
        refine x_A k231_868 (fun _ => rfl) ?_
        refine x_A k231_869 (fun _ => rfl) ?_
        refine x_A k231_870 (fun _ => rfl) ?_
        refine x_A k231_871 (fun _ => rfl) ?_
        refine x_iadd k231_872 ?_
        refine x_top (fun z340 e_z340 => ?_)
        refine x_scr k231_873 hN ⟨by omega, by omega⟩ (fun z341 g_z341 e_z341 => ?_)
        unfold in32 at g_z341
        have q_z341 : z341 = z331 := by rw [e_z341, e_z331, show z340 = z330 by omega]
        refine x_A k231_874 (fun _ => rfl) ?_
        refine x_A k231_875 (fun _ => rfl) ?_
        refine x_A k231_876 (fun _ => rfl) ?_
        refine x_iadd k231_877 ?_
        refine x_top (fun z342 e_z342 => ?_)
        refine x_scr k231_878 hN ⟨by omega, by omega⟩ (fun z343 g_z343 e_z343 => ?_)
        unfold in32 at g_z343
        have q_z343 : z343 = z333 := by rw [e_z343, e_z333, show z342 = z332 by omega]
        refine x_A k231_879 (fun _ => rfl) ?_
        refine x_A k231_880 (fun _ => rfl) ?_
        refine x_A k231_881 (fun _ => rfl) ?_
        refine x_iadd k231_882 ?_
        refine x_top (fun z344 e_z344 => ?_)
        refine x_scr k231_883 hN ⟨by omega, by omega⟩ (fun z345 g_z345 e_z345 => ?_)
        unfold in32 at g_z345
        have q_z345 : z345 = z335 := by rw [e_z345, e_z335, show z344 = z334 by omega]
        refine x_callV k231_884 (y := 204) (n := 3) (w0 := 0) (w1 := 3) (as := [vi z341, vi z343, vi z345]) (rest := []) (by decide +kernel) (q := 256) (nq := 62) (kq := 15) ⟨by decide, rfl⟩ rfl rfl rfl rfl (xe_mono (C_X11_met_256 s337 hG_s337 J_s337 z341 (by first | exact x_rbe e_z341 g_z341 rfl rfl | exact x_rb g_z341 rfl rfl | exact ⟨by omega, by omega⟩) z343 (by first | exact x_rbe e_z343 g_z343 rfl rfl | exact x_rb g_z343 rfl rfl | exact ⟨by omega, by omega⟩) z345 (by first | exact x_rbe e_z345 g_z345 rfl rfl | exact x_rb g_z345 rfl rfl | exact ⟨by omega, by omega⟩)) ?_)
        rintro s347 v ⟨hG_s347, t_s347, z346, rfl, g_z346⟩
        have q348 : s347 0 10 = x1000 := (t_s347 0 10 (show 11 ∉ [5312, 5376, 4123, 5440, 5504, 5568, 5632, 5696, 5760, 6272] from by decide +kernel)).trans q338
        have q349 : s347 256 0 = x1001 := (t_s347 256 0 (show 4097 ∉ [5312, 5376, 4123, 5440, 5504, 5568, 5632, 5696, 5760, 6272] from by decide +kernel)).trans q339
        have J_s347 : J s347 := J.fl J_s337 t_s347 (by decide +kernel)
        show xe (some (N, xs)) 231 887 [(0, .ref 2000), (1, .ref 0), (2, .ref 256), (3, vi x3)] [vi z346] s347 295 10442 _
        refine x_A k231_887 (fun _ => rfl) ?_
        refine x_goto k231_888 (t := 1300) rfl ?_
        refine x_iinc k231_1300 (ls' := [(3, vi (x3 + 7)), (0, .ref 2000), (1, .ref 0), (2, .ref 256)]) rfl (by decide) rfl ?_
        refine x_goto k231_1303 (t := 18) rfl ?_
        refine x_ls (l := [(0, .ref 2000), (1, .ref 0), (2, .ref 256), (3, vi (x3 + 7))]) (show ([0, 1, 2, 3] : List Nat).Nodup from by decide +kernel) ⟨rfl, rfl, rfl, rfl, trivial⟩ ?_
        exact ih s347 (x3 + 7) x1000 x1001 hG_s347 trivial ⟨by omega, by omega⟩ (by first | exact x_rb b_x1000 rfl rfl | exact ⟨by omega, by omega⟩) (by first | exact x_rb b_x1001 rfl rfl | exact ⟨by omega, by omega⟩) (by omega) (q348).symm (q349).symm J_s347  (by omega)
      · rw [c5]
        refine x_B k231_33 rfl (fun _ => rfl) (fun _ => rfl) (fun _ _ => rfl) ?_
        show xe (some (N, xs)) 231 891 [(0, .ref 2000), (1, .ref 0), (2, .ref 256), (3, vi x3)] [] s 295 10442 _
        refine x_A k231_891 (fun _ => rfl) ?_
        refine x_A k231_892 (fun _ => rfl) ?_
        refine x_A k231_893 (fun _ => rfl) ?_
        refine x_A k231_894 (fun _ => rfl) ?_
        refine x_iadd k231_895 ?_
        refine x_top (fun z350 e_z350 => ?_)
        refine x_scr k231_896 hN ⟨by omega, by omega⟩ (fun z351 g_z351 e_z351 => ?_)
        unfold in32 at g_z351
        refine x_A k231_897 (fun _ => rfl) ?_
        refine x_A k231_898 (fun _ => rfl) ?_
        refine x_A k231_899 (fun _ => rfl) ?_
        refine x_iadd k231_900 ?_
        refine x_top (fun z352 e_z352 => ?_)
        refine x_scr k231_901 hN ⟨by omega, by omega⟩ (fun z353 g_z353 e_z353 => ?_)
        unfold in32 at g_z353
        refine x_A k231_902 (fun _ => rfl) ?_
        refine x_A k231_903 (fun _ => rfl) ?_
        refine x_A k231_904 (fun _ => rfl) ?_
        refine x_iadd k231_905 ?_
        refine x_top (fun z354 e_z354 => ?_)
        refine x_scr k231_906 hN ⟨by omega, by omega⟩ (fun z355 g_z355 e_z355 => ?_)
        unfold in32 at g_z355
        refine x_A k231_907 (fun _ => rfl) ?_
        refine x_A k231_908 (fun _ => rfl) ?_
        refine x_A k231_909 (fun _ => rfl) ?_
        refine x_iadd k231_910 ?_
        refine x_top (fun z356 e_z356 => ?_)
        refine x_scr k231_911 hN ⟨by omega, by omega⟩ (fun z357 g_z357 e_z357 => ?_)
        unfold in32 at g_z357
        refine x_A k231_912 (fun _ => rfl) ?_
        refine x_A k231_913 (fun _ => rfl) ?_
        refine x_A k231_914 (fun _ => rfl) ?_
        refine x_iadd k231_915 ?_
        refine x_top (fun z358 e_z358 => ?_)
        refine x_scr k231_916 hN ⟨by omega, by omega⟩ (fun z359 g_z359 e_z359 => ?_)
        unfold in32 at g_z359
        refine x_callV k231_917 (y := 112) (n := 5) (w0 := 0) (w1 := 5) (as := [vi z351, vi z353, vi z355, vi z357, vi z359]) (rest := []) (by decide +kernel) (q := 0) (nq := 12) (kq := 3) ⟨by decide, rfl⟩ rfl rfl rfl rfl (xe_mono (C_X10_hands_0 s hG i_J z351 (by first | exact x_rbe e_z351 g_z351 rfl rfl | exact x_rb g_z351 rfl rfl | exact ⟨by omega, by omega⟩) z353 (by first | exact x_rbe e_z353 g_z353 rfl rfl | exact x_rb g_z353 rfl rfl | exact ⟨by omega, by omega⟩) z355 (by first | exact x_rbe e_z355 g_z355 rfl rfl | exact x_rb g_z355 rfl rfl | exact ⟨by omega, by omega⟩) z357 (by first | exact x_rbe e_z357 g_z357 rfl rfl | exact x_rb g_z357 rfl rfl | exact ⟨by omega, by omega⟩) z359 (by first | exact x_rbe e_z359 g_z359 rfl rfl | exact x_rb g_z359 rfl rfl | exact ⟨by omega, by omega⟩)) ?_)
        rintro s361 v ⟨hG_s361, t_s361, z360, rfl, g_z360⟩
        have q362 : s361 0 10 = x1000 := (t_s361 0 10 (show 11 ∉ [3329, 3334, 3335, 3336, 3392, 3456, 3520, 3584, 3276, 3648, 3712, 3776, 3840, 3904, 3968, 3277, 4032] from by decide +kernel)).trans e_x1000.symm
        have q363 : s361 256 0 = x1001 := (t_s361 256 0 (show 4097 ∉ [3329, 3334, 3335, 3336, 3392, 3456, 3520, 3584, 3276, 3648, 3712, 3776, 3840, 3904, 3968, 3277, 4032] from by decide +kernel)).trans e_x1001.symm
        have J_s361 : J s361 := J.fl i_J t_s361 (by decide +kernel)
        show xe (some (N, xs)) 231 920 [(0, .ref 2000), (1, .ref 0), (2, .ref 256), (3, vi x3)] [vi z360] s361 295 10442 _
        refine x_A k231_920 (fun _ => rfl) ?_
        refine x_A k231_921 (fun _ => rfl) ?_
        refine x_A k231_922 (fun _ => rfl) ?_
        refine x_A k231_923 (fun _ => rfl) ?_
        refine x_A k231_924 (fun _ => rfl) ?_
        refine x_iadd k231_925 ?_
        refine x_top (fun z364 e_z364 => ?_)
        refine x_scr k231_926 hN ⟨by omega, by omega⟩ (fun z365 g_z365 e_z365 => ?_)
        unfold in32 at g_z365
        have q_z365 : z365 = z351 := by rw [e_z365, e_z351, show z364 = z350 by omega]
        refine x_A k231_927 (fun _ => rfl) ?_
        refine x_A k231_928 (fun _ => rfl) ?_
        refine x_A k231_929 (fun _ => rfl) ?_
        refine x_iadd k231_930 ?_
        refine x_top (fun z366 e_z366 => ?_)
        refine x_scr k231_931 hN ⟨by omega, by omega⟩ (fun z367 g_z367 e_z367 => ?_)
        unfold in32 at g_z367
        have q_z367 : z367 = z353 := by rw [e_z367, e_z353, show z366 = z352 by omega]
        refine x_A k231_932 (fun _ => rfl) ?_
        refine x_A k231_933 (fun _ => rfl) ?_
        refine x_A k231_934 (fun _ => rfl) ?_
        refine x_iadd k231_935 ?_
        refine x_top (fun z368 e_z368 => ?_)
        refine x_scr k231_936 hN ⟨by omega, by omega⟩ (fun z369 g_z369 e_z369 => ?_)
        unfold in32 at g_z369
        have q_z369 : z369 = z355 := by rw [e_z369, e_z355, show z368 = z354 by omega]
        refine x_A k231_937 (fun _ => rfl) ?_
        refine x_A k231_938 (fun _ => rfl) ?_
        refine x_A k231_939 (fun _ => rfl) ?_
        refine x_iadd k231_940 ?_
        refine x_top (fun z370 e_z370 => ?_)
        refine x_scr k231_941 hN ⟨by omega, by omega⟩ (fun z371 g_z371 e_z371 => ?_)
        unfold in32 at g_z371
        have q_z371 : z371 = z357 := by rw [e_z371, e_z357, show z370 = z356 by omega]
        refine x_A k231_942 (fun _ => rfl) ?_
        refine x_A k231_943 (fun _ => rfl) ?_
        refine x_A k231_944 (fun _ => rfl) ?_
        refine x_iadd k231_945 ?_
        refine x_top (fun z372 e_z372 => ?_)
        refine x_scr k231_946 hN ⟨by omega, by omega⟩ (fun z373 g_z373 e_z373 => ?_)
        unfold in32 at g_z373
        have q_z373 : z373 = z359 := by rw [e_z373, e_z359, show z372 = z358 by omega]
        refine x_callV k231_947 (y := 206) (n := 5) (w0 := 0) (w1 := 5) (as := [vi z365, vi z367, vi z369, vi z371, vi z373]) (rest := []) (by decide +kernel) (q := 256) (nq := 62) (kq := 15) ⟨by decide, rfl⟩ rfl rfl rfl rfl (xe_mono (C_X11_hands_256 s361 hG_s361 J_s361 z365 (by first | exact x_rbe e_z365 g_z365 rfl rfl | exact x_rb g_z365 rfl rfl | exact ⟨by omega, by omega⟩) z367 (by first | exact x_rbe e_z367 g_z367 rfl rfl | exact x_rb g_z367 rfl rfl | exact ⟨by omega, by omega⟩) z369 (by first | exact x_rbe e_z369 g_z369 rfl rfl | exact x_rb g_z369 rfl rfl | exact ⟨by omega, by omega⟩) z371 (by first | exact x_rbe e_z371 g_z371 rfl rfl | exact x_rb g_z371 rfl rfl | exact ⟨by omega, by omega⟩) z373 (by first | exact x_rbe e_z373 g_z373 rfl rfl | exact x_rb g_z373 rfl rfl | exact ⟨by omega, by omega⟩)) ?_)
        rintro s375 v ⟨hG_s375, t_s375, z374, rfl, g_z374⟩
        have q376 : s375 0 10 = x1000 := (t_s375 0 10 (show 11 ∉ [5312, 5376, 4123, 5440, 5504, 5568, 5632, 5696, 5760] from by decide +kernel)).trans q362
        have q377 : s375 256 0 = x1001 := (t_s375 256 0 (show 4097 ∉ [5312, 5376, 4123, 5440, 5504, 5568, 5632, 5696, 5760] from by decide +kernel)).trans q363
        have J_s375 : J s375 := J.fl J_s361 t_s375 (by decide +kernel)
        show xe (some (N, xs)) 231 950 [(0, .ref 2000), (1, .ref 0), (2, .ref 256), (3, vi x3)] [vi z374] s375 295 10442 _
        refine x_A k231_950 (fun _ => rfl) ?_
        refine x_goto k231_951 (t := 1300) rfl ?_
        refine x_iinc k231_1300 (ls' := [(3, vi (x3 + 7)), (0, .ref 2000), (1, .ref 0), (2, .ref 256)]) rfl (by decide) rfl ?_
        refine x_goto k231_1303 (t := 18) rfl ?_
        refine x_ls (l := [(0, .ref 2000), (1, .ref 0), (2, .ref 256), (3, vi (x3 + 7))]) (show ([0, 1, 2, 3] : List Nat).Nodup from by decide +kernel) ⟨rfl, rfl, rfl, rfl, trivial⟩ ?_
        exact ih s375 (x3 + 7) x1000 x1001 hG_s375 trivial ⟨by omega, by omega⟩ (by first | exact x_rb b_x1000 rfl rfl | exact ⟨by omega, by omega⟩) (by first | exact x_rb b_x1001 rfl rfl | exact ⟨by omega, by omega⟩) (by omega) (q376).symm (q377).symm J_s375  (by omega)
      · rw [c5]
        refine x_B k231_33 rfl (fun _ => rfl) (fun _ => rfl) (fun _ _ => rfl) ?_
        show xe (some (N, xs)) 231 954 [(0, .ref 2000), (1, .ref 0), (2, .ref 256), (3, vi x3)] [] s 295 10442 _
        refine x_A k231_954 (fun _ => rfl) ?_
        refine x_A k231_955 (fun _ => rfl) ?_
        refine x_A k231_956 (fun _ => rfl) ?_
        refine x_A k231_957 (fun _ => rfl) ?_
        refine x_iadd k231_958 ?_
        refine x_top (fun z378 e_z378 => ?_)
        refine x_scr k231_959 hN ⟨by omega, by omega⟩ (fun z379 g_z379 e_z379 => ?_)
        unfold in32 at g_z379
        refine x_A k231_960 (fun _ => rfl) ?_
        refine x_A k231_961 (fun _ => rfl) ?_
        refine x_A k231_962 (fun _ => rfl) ?_
        refine x_iadd k231_963 ?_
        refine x_top (fun z380 e_z380 => ?_)
        refine x_scr k231_964 hN ⟨by omega, by omega⟩ (fun z381 g_z381 e_z381 => ?_)
        unfold in32 at g_z381
        refine x_A k231_965 (fun _ => rfl) ?_
        refine x_A k231_966 (fun _ => rfl) ?_
        refine x_A k231_967 (fun _ => rfl) ?_
        refine x_iadd k231_968 ?_
        refine x_top (fun z382 e_z382 => ?_)
        refine x_scr k231_969 hN ⟨by omega, by omega⟩ (fun z383 g_z383 e_z383 => ?_)
        unfold in32 at g_z383
        refine x_A k231_970 (fun _ => rfl) ?_
        refine x_A k231_971 (fun _ => rfl) ?_
        refine x_A k231_972 (fun _ => rfl) ?_
        refine x_iadd k231_973 ?_
        refine x_top (fun z384 e_z384 => ?_)
        refine x_scr k231_974 hN ⟨by omega, by omega⟩ (fun z385 g_z385 e_z385 => ?_)
        unfold in32 at g_z385
        refine x_A k231_975 (fun _ => rfl) ?_
        refine x_A k231_976 (fun _ => rfl) ?_
        refine x_A k231_977 (fun _ => rfl) ?_
        refine x_iadd k231_978 ?_
        refine x_top (fun z386 e_z386 => ?_)
        refine x_scr k231_979 hN ⟨by omega, by omega⟩ (fun z387 g_z387 e_z387 => ?_)
        unfold in32 at g_z387
        refine x_A k231_980 (fun _ => rfl) ?_
        refine x_A k231_981 (fun _ => rfl) ?_
        refine x_bipush k231_982 (by decide +kernel) ?_
        refine x_iadd k231_984 ?_
        refine x_top (fun z388 e_z388 => ?_)
        refine x_scr k231_985 hN ⟨by omega, by omega⟩ (fun z389 g_z389 e_z389 => ?_)
        unfold in32 at g_z389
        refine x_callV k231_986 (y := 113) (n := 6) (w0 := 0) (w1 := 6) (as := [vi z379, vi z381, vi z383, vi z385, vi z387, vi z389]) (rest := []) (by decide +kernel) (q := 0) (nq := 12) (kq := 3) ⟨by decide, rfl⟩ rfl rfl rfl rfl (xe_mono (C_X10_together_0 s hG i_J z379 (by first | exact x_rbe e_z379 g_z379 rfl rfl | exact x_rb g_z379 rfl rfl | exact ⟨by omega, by omega⟩) z381 (by first | exact x_rbe e_z381 g_z381 rfl rfl | exact x_rb g_z381 rfl rfl | exact ⟨by omega, by omega⟩) z383 (by first | exact x_rbe e_z383 g_z383 rfl rfl | exact x_rb g_z383 rfl rfl | exact ⟨by omega, by omega⟩) z385 (by first | exact x_rbe e_z385 g_z385 rfl rfl | exact x_rb g_z385 rfl rfl | exact ⟨by omega, by omega⟩) z387 (by first | exact x_rbe e_z387 g_z387 rfl rfl | exact x_rb g_z387 rfl rfl | exact ⟨by omega, by omega⟩) z389 (by first | exact x_rbe e_z389 g_z389 rfl rfl | exact x_rb g_z389 rfl rfl | exact ⟨by omega, by omega⟩)) ?_)
        rintro s391 v ⟨hG_s391, t_s391, z390, rfl, g_z390⟩
        have q392 : s391 0 10 = x1000 := (t_s391 0 10 (show 11 ∉ [3329, 3334, 3335, 3336, 3392, 3456, 3520, 3584, 3276, 3648, 3712, 3776, 3840, 3904, 3968, 3277, 4032] from by decide +kernel)).trans e_x1000.symm
        have q393 : s391 256 0 = x1001 := (t_s391 256 0 (show 4097 ∉ [3329, 3334, 3335, 3336, 3392, 3456, 3520, 3584, 3276, 3648, 3712, 3776, 3840, 3904, 3968, 3277, 4032] from by decide +kernel)).trans e_x1001.symm
        have J_s391 : J s391 := J.fl i_J t_s391 (by decide +kernel)
        show xe (some (N, xs)) 231 989 [(0, .ref 2000), (1, .ref 0), (2, .ref 256), (3, vi x3)] [vi z390] s391 295 10442 _
        refine x_A k231_989 (fun _ => rfl) ?_
        refine x_A k231_990 (fun _ => rfl) ?_
        refine x_A k231_991 (fun _ => rfl) ?_
        refine x_A k231_992 (fun _ => rfl) ?_
        refine x_A k231_993 (fun _ => rfl) ?_
        refine x_iadd k231_994 ?_
        refine x_top (fun z394 e_z394 => ?_)
        refine x_scr k231_995 hN ⟨by omega, by omega⟩ (fun z395 g_z395 e_z395 => ?_)
        unfold in32 at g_z395
        have q_z395 : z395 = z379 := by rw [e_z395, e_z379, show z394 = z378 by omega]
        refine x_A k231_996 (fun _ => rfl) ?_
        refine x_A k231_997 (fun _ => rfl) ?_
        refine x_A k231_998 (fun _ => rfl) ?_
        refine x_iadd k231_999 ?_
        refine x_top (fun z396 e_z396 => ?_)
        refine x_scr k231_1000 hN ⟨by omega, by omega⟩ (fun z397 g_z397 e_z397 => ?_)
        unfold in32 at g_z397
        have q_z397 : z397 = z381 := by rw [e_z397, e_z381, show z396 = z380 by omega]
        refine x_A k231_1001 (fun _ => rfl) ?_
        refine x_A k231_1002 (fun _ => rfl) ?_
        refine x_A k231_1003 (fun _ => rfl) ?_
        refine x_iadd k231_1004 ?_
        refine x_top (fun z398 e_z398 => ?_)
        refine x_scr k231_1005 hN ⟨by omega, by omega⟩ (fun z399 g_z399 e_z399 => ?_)
        unfold in32 at g_z399
        have q_z399 : z399 = z383 := by rw [e_z399, e_z383, show z398 = z382 by omega]
        refine x_A k231_1006 (fun _ => rfl) ?_
        refine x_A k231_1007 (fun _ => rfl) ?_
        refine x_A k231_1008 (fun _ => rfl) ?_
        refine x_iadd k231_1009 ?_
        refine x_top (fun z400 e_z400 => ?_)
        refine x_scr k231_1010 hN ⟨by omega, by omega⟩ (fun z401 g_z401 e_z401 => ?_)
        unfold in32 at g_z401
        have q_z401 : z401 = z385 := by rw [e_z401, e_z385, show z400 = z384 by omega]
        refine x_A k231_1011 (fun _ => rfl) ?_
        refine x_A k231_1012 (fun _ => rfl) ?_
        refine x_A k231_1013 (fun _ => rfl) ?_
        refine x_iadd k231_1014 ?_
        refine x_top (fun z402 e_z402 => ?_)
        refine x_scr k231_1015 hN ⟨by omega, by omega⟩ (fun z403 g_z403 e_z403 => ?_)
        unfold in32 at g_z403
        have q_z403 : z403 = z387 := by rw [e_z403, e_z387, show z402 = z386 by omega]
        refine x_A k231_1016 (fun _ => rfl) ?_
        refine x_A k231_1017 (fun _ => rfl) ?_
        refine x_bipush k231_1018 (by decide +kernel) ?_
        refine x_iadd k231_1020 ?_
        refine x_top (fun z404 e_z404 => ?_)
        refine x_scr k231_1021 hN ⟨by omega, by omega⟩ (fun z405 g_z405 e_z405 => ?_)
        unfold in32 at g_z405
        have q_z405 : z405 = z389 := by rw [e_z405, e_z389, show z404 = z388 by omega]
        refine x_callV k231_1022 (y := 208) (n := 6) (w0 := 0) (w1 := 6) (as := [vi z395, vi z397, vi z399, vi z401, vi z403, vi z405]) (rest := []) (by decide +kernel) (q := 256) (nq := 62) (kq := 15) ⟨by decide, rfl⟩ rfl rfl rfl rfl (xe_mono (C_X11_together_256 s391 hG_s391 J_s391 z395 (by first | exact x_rbe e_z395 g_z395 rfl rfl | exact x_rb g_z395 rfl rfl | exact ⟨by omega, by omega⟩) z397 (by first | exact x_rbe e_z397 g_z397 rfl rfl | exact x_rb g_z397 rfl rfl | exact ⟨by omega, by omega⟩) z399 (by first | exact x_rbe e_z399 g_z399 rfl rfl | exact x_rb g_z399 rfl rfl | exact ⟨by omega, by omega⟩) z401 (by first | exact x_rbe e_z401 g_z401 rfl rfl | exact x_rb g_z401 rfl rfl | exact ⟨by omega, by omega⟩) z403 (by first | exact x_rbe e_z403 g_z403 rfl rfl | exact x_rb g_z403 rfl rfl | exact ⟨by omega, by omega⟩) z405 (by first | exact x_rbe e_z405 g_z405 rfl rfl | exact x_rb g_z405 rfl rfl | exact ⟨by omega, by omega⟩)) ?_)
        rintro s407 v ⟨hG_s407, t_s407, z406, rfl, g_z406⟩
        have q408 : s407 0 10 = x1000 := (t_s407 0 10 (show 11 ∉ [5312, 5376, 4123, 5440, 5504, 5568, 5632, 5696, 5760, 4150, 4151, 4152, 4153] from by decide +kernel)).trans q392
        have q409 : s407 256 0 = x1001 := (t_s407 256 0 (show 4097 ∉ [5312, 5376, 4123, 5440, 5504, 5568, 5632, 5696, 5760, 4150, 4151, 4152, 4153] from by decide +kernel)).trans q393
        have J_s407 : J s407 := J.fl J_s391 t_s407 (by decide +kernel)
        show xe (some (N, xs)) 231 1025 [(0, .ref 2000), (1, .ref 0), (2, .ref 256), (3, vi x3)] [vi z406] s407 295 10442 _
        refine x_A k231_1025 (fun _ => rfl) ?_
        refine x_goto k231_1026 (t := 1300) rfl ?_
        refine x_iinc k231_1300 (ls' := [(3, vi (x3 + 7)), (0, .ref 2000), (1, .ref 0), (2, .ref 256)]) rfl (by decide) rfl ?_
        refine x_goto k231_1303 (t := 18) rfl ?_
        refine x_ls (l := [(0, .ref 2000), (1, .ref 0), (2, .ref 256), (3, vi (x3 + 7))]) (show ([0, 1, 2, 3] : List Nat).Nodup from by decide +kernel) ⟨rfl, rfl, rfl, rfl, trivial⟩ ?_
        exact ih s407 (x3 + 7) x1000 x1001 hG_s407 trivial ⟨by omega, by omega⟩ (by first | exact x_rb b_x1000 rfl rfl | exact ⟨by omega, by omega⟩) (by first | exact x_rb b_x1001 rfl rfl | exact ⟨by omega, by omega⟩) (by omega) (q408).symm (q409).symm J_s407  (by omega)
      · rw [c5]
        refine x_B k231_33 rfl (fun _ => rfl) (fun _ => rfl) (fun _ _ => rfl) ?_
        show xe (some (N, xs)) 231 1029 [(0, .ref 2000), (1, .ref 0), (2, .ref 256), (3, vi x3)] [] s 295 10442 _
        refine x_A k231_1029 (fun _ => rfl) ?_
        refine x_A k231_1030 (fun _ => rfl) ?_
        refine x_A k231_1031 (fun _ => rfl) ?_
        refine x_A k231_1032 (fun _ => rfl) ?_
        refine x_iadd k231_1033 ?_
        refine x_top (fun z410 e_z410 => ?_)
        refine x_scr k231_1034 hN ⟨by omega, by omega⟩ (fun z411 g_z411 e_z411 => ?_)
        unfold in32 at g_z411
        refine x_A k231_1035 (fun _ => rfl) ?_
        refine x_A k231_1036 (fun _ => rfl) ?_
        refine x_A k231_1037 (fun _ => rfl) ?_
        refine x_iadd k231_1038 ?_
        refine x_top (fun z412 e_z412 => ?_)
        refine x_scr k231_1039 hN ⟨by omega, by omega⟩ (fun z413 g_z413 e_z413 => ?_)
        unfold in32 at g_z413
        refine x_A k231_1040 (fun _ => rfl) ?_
        refine x_A k231_1041 (fun _ => rfl) ?_
        refine x_A k231_1042 (fun _ => rfl) ?_
        refine x_iadd k231_1043 ?_
        refine x_top (fun z414 e_z414 => ?_)
        refine x_scr k231_1044 hN ⟨by omega, by omega⟩ (fun z415 g_z415 e_z415 => ?_)
        unfold in32 at g_z415
        refine x_callV k231_1045 (y := 114) (n := 3) (w0 := 0) (w1 := 3) (as := [vi z411, vi z413, vi z415]) (rest := []) (by decide +kernel) (q := 0) (nq := 12) (kq := 3) ⟨by decide, rfl⟩ rfl rfl rfl rfl (xe_mono (C_X10_along_0 s hG i_J z411 (by first | exact x_rbe e_z411 g_z411 rfl rfl | exact x_rb g_z411 rfl rfl | exact ⟨by omega, by omega⟩) z413 (by first | exact x_rbe e_z413 g_z413 rfl rfl | exact x_rb g_z413 rfl rfl | exact ⟨by omega, by omega⟩) z415 (by first | exact x_rbe e_z415 g_z415 rfl rfl | exact x_rb g_z415 rfl rfl | exact ⟨by omega, by omega⟩)) ?_)
        rintro s417 v ⟨hG_s417, t_s417, z416, rfl, g_z416⟩
        have q418 : s417 0 10 = x1000 := (t_s417 0 10 (show 11 ∉ [3329, 3334, 3335, 3336, 3392, 3456, 3520, 3584, 3276, 3648, 3712, 3776, 3840, 3904, 3968, 3277, 4032] from by decide +kernel)).trans e_x1000.symm
        have q419 : s417 256 0 = x1001 := (t_s417 256 0 (show 4097 ∉ [3329, 3334, 3335, 3336, 3392, 3456, 3520, 3584, 3276, 3648, 3712, 3776, 3840, 3904, 3968, 3277, 4032] from by decide +kernel)).trans e_x1001.symm
        have J_s417 : J s417 := J.fl i_J t_s417 (by decide +kernel)
        show xe (some (N, xs)) 231 1048 [(0, .ref 2000), (1, .ref 0), (2, .ref 256), (3, vi x3)] [vi z416] s417 295 10442 _
        refine x_A k231_1048 (fun _ => rfl) ?_
        refine x_A k231_1049 (fun _ => rfl) ?_
        refine x_A k231_1050 (fun _ => rfl) ?_
        refine x_A k231_1051 (fun _ => rfl) ?_
        refine x_A k231_1052 (fun _ => rfl) ?_
        refine x_iadd k231_1053 ?_
        refine x_top (fun z420 e_z420 => ?_)
        refine x_scr k231_1054 hN ⟨by omega, by omega⟩ (fun z421 g_z421 e_z421 => ?_)
        unfold in32 at g_z421
        have q_z421 : z421 = z411 := by rw [e_z421, e_z411, show z420 = z410 by omega]
        refine x_A k231_1055 (fun _ => rfl) ?_
        refine x_A k231_1056 (fun _ => rfl) ?_
        refine x_A k231_1057 (fun _ => rfl) ?_
        refine x_iadd k231_1058 ?_
        refine x_top (fun z422 e_z422 => ?_)
        refine x_scr k231_1059 hN ⟨by omega, by omega⟩ (fun z423 g_z423 e_z423 => ?_)
        unfold in32 at g_z423
        have q_z423 : z423 = z413 := by rw [e_z423, e_z413, show z422 = z412 by omega]
        refine x_A k231_1060 (fun _ => rfl) ?_
        refine x_A k231_1061 (fun _ => rfl) ?_
        refine x_A k231_1062 (fun _ => rfl) ?_
        refine x_iadd k231_1063 ?_
        refine x_top (fun z424 e_z424 => ?_)
        refine x_scr k231_1064 hN ⟨by omega, by omega⟩ (fun z425 g_z425 e_z425 => ?_)
        unfold in32 at g_z425
        have q_z425 : z425 = z415 := by rw [e_z425, e_z415, show z424 = z414 by omega]
        refine x_callV k231_1065 (y := 211) (n := 3) (w0 := 0) (w1 := 3) (as := [vi z421, vi z423, vi z425]) (rest := []) (by decide +kernel) (q := 256) (nq := 62) (kq := 15) ⟨by decide, rfl⟩ rfl rfl rfl rfl (xe_mono (C_X11_along_256 s417 hG_s417 J_s417 z421 (by first | exact x_rbe e_z421 g_z421 rfl rfl | exact x_rb g_z421 rfl rfl | exact ⟨by omega, by omega⟩) z423 (by first | exact x_rbe e_z423 g_z423 rfl rfl | exact x_rb g_z423 rfl rfl | exact ⟨by omega, by omega⟩) z425 (by first | exact x_rbe e_z425 g_z425 rfl rfl | exact x_rb g_z425 rfl rfl | exact ⟨by omega, by omega⟩)) ?_)
        rintro s427 v ⟨hG_s427, t_s427, z426, rfl, g_z426⟩
        have q428 : s427 0 10 = x1000 := (t_s427 0 10 (show 11 ∉ [5312, 5376, 4123, 5440, 5504, 5568, 5632, 5696, 5760, 4150, 4151, 4152, 4153] from by decide +kernel)).trans q418
        have q429 : s427 256 0 = x1001 := (t_s427 256 0 (show 4097 ∉ [5312, 5376, 4123, 5440, 5504, 5568, 5632, 5696, 5760, 4150, 4151, 4152, 4153] from by decide +kernel)).trans q419
        have J_s427 : J s427 := J.fl J_s417 t_s427 (by decide +kernel)
        show xe (some (N, xs)) 231 1068 [(0, .ref 2000), (1, .ref 0), (2, .ref 256), (3, vi x3)] [vi z426] s427 295 10442 _
        refine x_A k231_1068 (fun _ => rfl) ?_
        refine x_goto k231_1069 (t := 1300) rfl ?_
        refine x_iinc k231_1300 (ls' := [(3, vi (x3 + 7)), (0, .ref 2000), (1, .ref 0), (2, .ref 256)]) rfl (by decide) rfl ?_
        refine x_goto k231_1303 (t := 18) rfl ?_
        refine x_ls (l := [(0, .ref 2000), (1, .ref 0), (2, .ref 256), (3, vi (x3 + 7))]) (show ([0, 1, 2, 3] : List Nat).Nodup from by decide +kernel) ⟨rfl, rfl, rfl, rfl, trivial⟩ ?_
        exact ih s427 (x3 + 7) x1000 x1001 hG_s427 trivial ⟨by omega, by omega⟩ (by first | exact x_rb b_x1000 rfl rfl | exact ⟨by omega, by omega⟩) (by first | exact x_rb b_x1001 rfl rfl | exact ⟨by omega, by omega⟩) (by omega) (q428).symm (q429).symm J_s427  (by omega)
      · rw [c5]
        refine x_B k231_33 rfl (fun _ => rfl) (fun _ => rfl) (fun _ _ => rfl) ?_
        show xe (some (N, xs)) 231 1072 [(0, .ref 2000), (1, .ref 0), (2, .ref 256), (3, vi x3)] [] s 295 10442 _
        refine x_A k231_1072 (fun _ => rfl) ?_
        refine x_A k231_1073 (fun _ => rfl) ?_
        refine x_A k231_1074 (fun _ => rfl) ?_
        refine x_A k231_1075 (fun _ => rfl) ?_
        refine x_iadd k231_1076 ?_
        refine x_top (fun z430 e_z430 => ?_)
        refine x_scr k231_1077 hN ⟨by omega, by omega⟩ (fun z431 g_z431 e_z431 => ?_)
        unfold in32 at g_z431
        refine x_A k231_1078 (fun _ => rfl) ?_
        refine x_A k231_1079 (fun _ => rfl) ?_
        refine x_A k231_1080 (fun _ => rfl) ?_
        refine x_iadd k231_1081 ?_
        refine x_top (fun z432 e_z432 => ?_)
        refine x_scr k231_1082 hN ⟨by omega, by omega⟩ (fun z433 g_z433 e_z433 => ?_)
        unfold in32 at g_z433
        refine x_A k231_1083 (fun _ => rfl) ?_
        refine x_A k231_1084 (fun _ => rfl) ?_
        refine x_A k231_1085 (fun _ => rfl) ?_
        refine x_iadd k231_1086 ?_
        refine x_top (fun z434 e_z434 => ?_)
        refine x_scr k231_1087 hN ⟨by omega, by omega⟩ (fun z435 g_z435 e_z435 => ?_)
        unfold in32 at g_z435
        refine x_callV k231_1088 (y := 115) (n := 3) (w0 := 0) (w1 := 3) (as := [vi z431, vi z433, vi z435]) (rest := []) (by decide +kernel) (q := 0) (nq := 12) (kq := 3) ⟨by decide, rfl⟩ rfl rfl rfl rfl (xe_mono (C_X10_likely_0 s hG i_J z431 (by first | exact x_rbe e_z431 g_z431 rfl rfl | exact x_rb g_z431 rfl rfl | exact ⟨by omega, by omega⟩) z433 (by first | exact x_rbe e_z433 g_z433 rfl rfl | exact x_rb g_z433 rfl rfl | exact ⟨by omega, by omega⟩) z435 (by first | exact x_rbe e_z435 g_z435 rfl rfl | exact x_rb g_z435 rfl rfl | exact ⟨by omega, by omega⟩)) ?_)
        rintro s437 v ⟨hG_s437, t_s437, z436, rfl, g_z436⟩
        have q438 : s437 0 10 = x1000 := (t_s437 0 10 (show 11 ∉ [3329, 3334, 3335, 3336, 3392, 3456, 3520, 3584, 3276, 3648, 3712, 3776, 3840, 3904, 3968, 3277, 4032] from by decide +kernel)).trans e_x1000.symm
        have q439 : s437 256 0 = x1001 := (t_s437 256 0 (show 4097 ∉ [3329, 3334, 3335, 3336, 3392, 3456, 3520, 3584, 3276, 3648, 3712, 3776, 3840, 3904, 3968, 3277, 4032] from by decide +kernel)).trans e_x1001.symm
        have J_s437 : J s437 := J.fl i_J t_s437 (by decide +kernel)
        show xe (some (N, xs)) 231 1091 [(0, .ref 2000), (1, .ref 0), (2, .ref 256), (3, vi x3)] [vi z436] s437 295 10442 _
        refine x_A k231_1091 (fun _ => rfl) ?_
        refine x_A k231_1092 (fun _ => rfl) ?_
        refine x_A k231_1093 (fun _ => rfl) ?_
        refine x_A k231_1094 (fun _ => rfl) ?_
        refine x_A k231_1095 (fun _ => rfl) ?_
        refine x_iadd k231_1096 ?_
        refine x_top (fun z440 e_z440 => ?_)
        refine x_scr k231_1097 hN ⟨by omega, by omega⟩ (fun z441 g_z441 e_z441 => ?_)
        unfold in32 at g_z441
        have q_z441 : z441 = z431 := by rw [e_z441, e_z431, show z440 = z430 by omega]
        refine x_A k231_1098 (fun _ => rfl) ?_
        refine x_A k231_1099 (fun _ => rfl) ?_
        refine x_A k231_1100 (fun _ => rfl) ?_
        refine x_iadd k231_1101 ?_
        refine x_top (fun z442 e_z442 => ?_)
        refine x_scr k231_1102 hN ⟨by omega, by omega⟩ (fun z443 g_z443 e_z443 => ?_)
        unfold in32 at g_z443
        have q_z443 : z443 = z433 := by rw [e_z443, e_z433, show z442 = z432 by omega]
        refine x_A k231_1103 (fun _ => rfl) ?_
        refine x_A k231_1104 (fun _ => rfl) ?_
        refine x_A k231_1105 (fun _ => rfl) ?_
        refine x_iadd k231_1106 ?_
        refine x_top (fun z444 e_z444 => ?_)
        refine x_scr k231_1107 hN ⟨by omega, by omega⟩ (fun z445 g_z445 e_z445 => ?_)
        unfold in32 at g_z445
        have q_z445 : z445 = z435 := by rw [e_z445, e_z435, show z444 = z434 by omega]
        refine x_callV k231_1108 (y := 212) (n := 3) (w0 := 0) (w1 := 3) (as := [vi z441, vi z443, vi z445]) (rest := []) (by decide +kernel) (q := 256) (nq := 62) (kq := 15) ⟨by decide, rfl⟩ rfl rfl rfl rfl (xe_mono (C_X11_likely_256 s437 hG_s437 J_s437 z441 (by first | exact x_rbe e_z441 g_z441 rfl rfl | exact x_rb g_z441 rfl rfl | exact ⟨by omega, by omega⟩) z443 (by first | exact x_rbe e_z443 g_z443 rfl rfl | exact x_rb g_z443 rfl rfl | exact ⟨by omega, by omega⟩) z445 (by first | exact x_rbe e_z445 g_z445 rfl rfl | exact x_rb g_z445 rfl rfl | exact ⟨by omega, by omega⟩)) ?_)
        rintro s447 v ⟨hG_s447, t_s447, z446, rfl, g_z446⟩
        have q448 : s447 0 10 = x1000 := (t_s447 0 10 (show 11 ∉ [5312, 5376, 4123, 5440, 5504, 5568, 5632, 5696, 5760, 4150, 4151, 4152, 4153, 6336] from by decide +kernel)).trans q438
        have q449 : s447 256 0 = x1001 := (t_s447 256 0 (show 4097 ∉ [5312, 5376, 4123, 5440, 5504, 5568, 5632, 5696, 5760, 4150, 4151, 4152, 4153, 6336] from by decide +kernel)).trans q439
        have J_s447 : J s447 := J.fl J_s437 t_s447 (by decide +kernel)
        show xe (some (N, xs)) 231 1111 [(0, .ref 2000), (1, .ref 0), (2, .ref 256), (3, vi x3)] [vi z446] s447 295 10442 _
        refine x_A k231_1111 (fun _ => rfl) ?_
        refine x_goto k231_1112 (t := 1300) rfl ?_
        refine x_iinc k231_1300 (ls' := [(3, vi (x3 + 7)), (0, .ref 2000), (1, .ref 0), (2, .ref 256)]) rfl (by decide) rfl ?_
        refine x_goto k231_1303 (t := 18) rfl ?_
        refine x_ls (l := [(0, .ref 2000), (1, .ref 0), (2, .ref 256), (3, vi (x3 + 7))]) (show ([0, 1, 2, 3] : List Nat).Nodup from by decide +kernel) ⟨rfl, rfl, rfl, rfl, trivial⟩ ?_
        exact ih s447 (x3 + 7) x1000 x1001 hG_s447 trivial ⟨by omega, by omega⟩ (by first | exact x_rb b_x1000 rfl rfl | exact ⟨by omega, by omega⟩) (by first | exact x_rb b_x1001 rfl rfl | exact ⟨by omega, by omega⟩) (by omega) (q448).symm (q449).symm J_s447  (by omega)
      · rw [c5]
        refine x_B k231_33 rfl (fun _ => rfl) (fun _ => rfl) (fun _ _ => rfl) ?_
        show xe (some (N, xs)) 231 1115 [(0, .ref 2000), (1, .ref 0), (2, .ref 256), (3, vi x3)] [] s 295 10442 _
        refine x_A k231_1115 (fun _ => rfl) ?_
        refine x_A k231_1116 (fun _ => rfl) ?_
        refine x_A k231_1117 (fun _ => rfl) ?_
        refine x_A k231_1118 (fun _ => rfl) ?_
        refine x_iadd k231_1119 ?_
        refine x_top (fun z450 e_z450 => ?_)
        refine x_scr k231_1120 hN ⟨by omega, by omega⟩ (fun z451 g_z451 e_z451 => ?_)
        unfold in32 at g_z451
        refine x_A k231_1121 (fun _ => rfl) ?_
        refine x_A k231_1122 (fun _ => rfl) ?_
        refine x_A k231_1123 (fun _ => rfl) ?_
        refine x_iadd k231_1124 ?_
        refine x_top (fun z452 e_z452 => ?_)
        refine x_scr k231_1125 hN ⟨by omega, by omega⟩ (fun z453 g_z453 e_z453 => ?_)
        unfold in32 at g_z453
        refine x_callV k231_1126 (y := 116) (n := 2) (w0 := 0) (w1 := 2) (as := [vi z451, vi z453]) (rest := []) (by decide +kernel) (q := 0) (nq := 12) (kq := 3) ⟨by decide, rfl⟩ rfl rfl rfl rfl (xe_mono (C_X10_lacking_0 s hG i_J z451 (by first | exact x_rbe e_z451 g_z451 rfl rfl | exact x_rb g_z451 rfl rfl | exact ⟨by omega, by omega⟩) z453 (by first | exact x_rbe e_z453 g_z453 rfl rfl | exact x_rb g_z453 rfl rfl | exact ⟨by omega, by omega⟩)) ?_)
        rintro s455 v ⟨hG_s455, t_s455, z454, rfl, b_z454⟩
        have q456 : s455 0 10 = x1000 := (t_s455 0 10 (show 11 ∉ [3329, 3334, 3335, 3336, 3392, 3456, 3520, 3584, 3276, 3648, 3712, 3776, 3840, 3904, 3968, 3277, 4032] from by decide +kernel)).trans e_x1000.symm
        have q457 : s455 256 0 = x1001 := (t_s455 256 0 (show 4097 ∉ [3329, 3334, 3335, 3336, 3392, 3456, 3520, 3584, 3276, 3648, 3712, 3776, 3840, 3904, 3968, 3277, 4032] from by decide +kernel)).trans e_x1001.symm
        have J_s455 : J s455 := J.fl i_J t_s455 (by decide +kernel)
        show xe (some (N, xs)) 231 1129 [(0, .ref 2000), (1, .ref 0), (2, .ref 256), (3, vi x3)] [vj z454] s455 295 10442 _
        refine x_A k231_1129 (fun _ => rfl) ?_
        refine x_A k231_1130 (fun _ => rfl) ?_
        refine x_A k231_1131 (fun _ => rfl) ?_
        refine x_A k231_1132 (fun _ => rfl) ?_
        refine x_A k231_1133 (fun _ => rfl) ?_
        refine x_iadd k231_1134 ?_
        refine x_top (fun z458 e_z458 => ?_)
        refine x_scr k231_1135 hN ⟨by omega, by omega⟩ (fun z459 g_z459 e_z459 => ?_)
        unfold in32 at g_z459
        have q_z459 : z459 = z451 := by rw [e_z459, e_z451, show z458 = z450 by omega]
        refine x_A k231_1136 (fun _ => rfl) ?_
        refine x_A k231_1137 (fun _ => rfl) ?_
        refine x_A k231_1138 (fun _ => rfl) ?_
        refine x_iadd k231_1139 ?_
        refine x_top (fun z460 e_z460 => ?_)
        refine x_scr k231_1140 hN ⟨by omega, by omega⟩ (fun z461 g_z461 e_z461 => ?_)
        unfold in32 at g_z461
        have q_z461 : z461 = z453 := by rw [e_z461, e_z453, show z460 = z452 by omega]
        refine x_callV k231_1141 (y := 214) (n := 2) (w0 := 0) (w1 := 2) (as := [vi z459, vi z461]) (rest := []) (by decide +kernel) (q := 256) (nq := 62) (kq := 15) ⟨by decide, rfl⟩ rfl rfl rfl rfl (xe_mono (C_X11_lacking_256 s455 hG_s455 J_s455 z459 (by first | exact x_rbe e_z459 g_z459 rfl rfl | exact x_rb g_z459 rfl rfl | exact ⟨by omega, by omega⟩) z461 (by first | exact x_rbe e_z461 g_z461 rfl rfl | exact x_rb g_z461 rfl rfl | exact ⟨by omega, by omega⟩)) ?_)
        rintro s463 v ⟨hG_s463, t_s463, z462, rfl, b_z462⟩
        have q464 : s463 0 10 = x1000 := (t_s463 0 10 (show 11 ∉ [5312, 5376, 4123, 5440, 5504, 5568, 5632, 5696, 5760] from by decide +kernel)).trans q456
        have q465 : s463 256 0 = x1001 := (t_s463 256 0 (show 4097 ∉ [5312, 5376, 4123, 5440, 5504, 5568, 5632, 5696, 5760] from by decide +kernel)).trans q457
        have J_s463 : J s463 := J.fl J_s455 t_s463 (by decide +kernel)
        show xe (some (N, xs)) 231 1144 [(0, .ref 2000), (1, .ref 0), (2, .ref 256), (3, vi x3)] [vj z462] s463 295 10442 _
        refine x_A k231_1144 (fun _ => rfl) ?_
        refine x_goto k231_1145 (t := 1300) rfl ?_
        refine x_iinc k231_1300 (ls' := [(3, vi (x3 + 7)), (0, .ref 2000), (1, .ref 0), (2, .ref 256)]) rfl (by decide) rfl ?_
        refine x_goto k231_1303 (t := 18) rfl ?_
        refine x_ls (l := [(0, .ref 2000), (1, .ref 0), (2, .ref 256), (3, vi (x3 + 7))]) (show ([0, 1, 2, 3] : List Nat).Nodup from by decide +kernel) ⟨rfl, rfl, rfl, rfl, trivial⟩ ?_
        exact ih s463 (x3 + 7) x1000 x1001 hG_s463 trivial ⟨by omega, by omega⟩ (by first | exact x_rb b_x1000 rfl rfl | exact ⟨by omega, by omega⟩) (by first | exact x_rb b_x1001 rfl rfl | exact ⟨by omega, by omega⟩) (by omega) (q464).symm (q465).symm J_s463  (by omega)
      · rw [c5]
        refine x_B k231_33 rfl (fun _ => rfl) (fun _ => rfl) (fun _ _ => rfl) ?_
        show xe (some (N, xs)) 231 1148 [(0, .ref 2000), (1, .ref 0), (2, .ref 256), (3, vi x3)] [] s 295 10442 _
        refine x_A k231_1148 (fun _ => rfl) ?_
        refine x_callV k231_1149 (y := 117) (n := 0) (w0 := 0) (w1 := 0) (as := []) (rest := []) (by decide +kernel) (q := 0) (nq := 12) (kq := 3) ⟨by decide, rfl⟩ rfl rfl rfl rfl (xe_mono (C_X10_story_0 s hG) ?_)
        rintro s467 v ⟨hG_s467, t_s467, z466, rfl, g_z466⟩
        have q468 : s467 0 10 = x1000 := (t_s467 0 10 (show 11 ∉ [2884] from by decide +kernel)).trans e_x1000.symm
        have q469 : s467 256 0 = x1001 := (t_s467 256 0 (show 4097 ∉ [2884] from by decide +kernel)).trans e_x1001.symm
        have J_s467 : J s467 := J.fl i_J t_s467 (by decide +kernel)
        show xe (some (N, xs)) 231 1152 [(0, .ref 2000), (1, .ref 0), (2, .ref 256), (3, vi x3)] [vi z466] s467 295 10442 _
        refine x_A k231_1152 (fun _ => rfl) ?_
        refine x_A k231_1153 (fun _ => rfl) ?_
        refine x_callV k231_1154 (y := 215) (n := 0) (w0 := 0) (w1 := 0) (as := []) (rest := []) (by decide +kernel) (q := 256) (nq := 62) (kq := 15) ⟨by decide, rfl⟩ rfl rfl rfl rfl (xe_mono (C_X11_story_256 s467 hG_s467) ?_)
        rintro s471 v ⟨hG_s471, t_s471, z470, rfl, g_z470⟩
        have q472 : s471 0 10 = x1000 := (t_s471 0 10 (show 11 ∉ [4155, 6400] from by decide +kernel)).trans q468
        have q473 : s471 256 0 = x1001 := (t_s471 256 0 (show 4097 ∉ [4155, 6400] from by decide +kernel)).trans q469
        have J_s471 : J s471 := J.fl J_s467 t_s471 (by decide +kernel)
        show xe (some (N, xs)) 231 1157 [(0, .ref 2000), (1, .ref 0), (2, .ref 256), (3, vi x3)] [vi z470] s471 295 10442 _
        refine x_A k231_1157 (fun _ => rfl) ?_
        refine x_goto k231_1158 (t := 1300) rfl ?_
        refine x_iinc k231_1300 (ls' := [(3, vi (x3 + 7)), (0, .ref 2000), (1, .ref 0), (2, .ref 256)]) rfl (by decide) rfl ?_
        refine x_goto k231_1303 (t := 18) rfl ?_
        refine x_ls (l := [(0, .ref 2000), (1, .ref 0), (2, .ref 256), (3, vi (x3 + 7))]) (show ([0, 1, 2, 3] : List Nat).Nodup from by decide +kernel) ⟨rfl, rfl, rfl, rfl, trivial⟩ ?_
        exact ih s471 (x3 + 7) x1000 x1001 hG_s471 trivial ⟨by omega, by omega⟩ (by first | exact x_rb b_x1000 rfl rfl | exact ⟨by omega, by omega⟩) (by first | exact x_rb b_x1001 rfl rfl | exact ⟨by omega, by omega⟩) (by omega) (q472).symm (q473).symm J_s471  (by omega)
      · rw [c5]
        refine x_B k231_33 rfl (fun _ => rfl) (fun _ => rfl) (fun _ _ => rfl) ?_
        show xe (some (N, xs)) 231 1161 [(0, .ref 2000), (1, .ref 0), (2, .ref 256), (3, vi x3)] [] s 295 10442 _
        refine x_A k231_1161 (fun _ => rfl) ?_
        refine x_A k231_1162 (fun _ => rfl) ?_
        refine x_A k231_1163 (fun _ => rfl) ?_
        refine x_A k231_1164 (fun _ => rfl) ?_
        refine x_iadd k231_1165 ?_
        refine x_top (fun z474 e_z474 => ?_)
        refine x_scr k231_1166 hN ⟨by omega, by omega⟩ (fun z475 g_z475 e_z475 => ?_)
        unfold in32 at g_z475
        refine x_A k231_1167 (fun _ => rfl) ?_
        refine x_A k231_1168 (fun _ => rfl) ?_
        refine x_A k231_1169 (fun _ => rfl) ?_
        refine x_iadd k231_1170 ?_
        refine x_top (fun z476 e_z476 => ?_)
        refine x_scr k231_1171 hN ⟨by omega, by omega⟩ (fun z477 g_z477 e_z477 => ?_)
        unfold in32 at g_z477
        refine x_A k231_1172 (fun _ => rfl) ?_
        refine x_A k231_1173 (fun _ => rfl) ?_
        refine x_A k231_1174 (fun _ => rfl) ?_
        refine x_iadd k231_1175 ?_
        refine x_top (fun z478 e_z478 => ?_)
        refine x_scr k231_1176 hN ⟨by omega, by omega⟩ (fun z479 g_z479 e_z479 => ?_)
        unfold in32 at g_z479
        refine x_callV k231_1177 (y := 118) (n := 3) (w0 := 0) (w1 := 3) (as := [vi z475, vi z477, vi z479]) (rest := []) (by decide +kernel) (q := 0) (nq := 12) (kq := 3) ⟨by decide, rfl⟩ rfl rfl rfl rfl (xe_mono (C_X10_moment_0 s hG z475 (by first | exact x_rbe e_z475 g_z475 rfl rfl | exact x_rb g_z475 rfl rfl | exact ⟨by omega, by omega⟩) z477 (by first | exact x_rbe e_z477 g_z477 rfl rfl | exact x_rb g_z477 rfl rfl | exact ⟨by omega, by omega⟩) z479 (by first | exact x_rbe e_z479 g_z479 rfl rfl | exact x_rb g_z479 rfl rfl | exact ⟨by omega, by omega⟩)) ?_)
        rintro s481 v ⟨hG_s481, t_s481, z480, rfl, g_z480⟩
        have q482 : s481 0 10 = x1000 := (t_s481 0 10 (show 11 ∉ [2944, 3072, 3200] from by decide +kernel)).trans e_x1000.symm
        have q483 : s481 256 0 = x1001 := (t_s481 256 0 (show 4097 ∉ [2944, 3072, 3200] from by decide +kernel)).trans e_x1001.symm
        have J_s481 : J s481 := J.fl i_J t_s481 (by decide +kernel)
        show xe (some (N, xs)) 231 1180 [(0, .ref 2000), (1, .ref 0), (2, .ref 256), (3, vi x3)] [vi z480] s481 295 10442 _
        refine x_A k231_1180 (fun _ => rfl) ?_
        refine x_A k231_1181 (fun _ => rfl) ?_
        refine x_A k231_1182 (fun _ => rfl) ?_
        refine x_A k231_1183 (fun _ => rfl) ?_
        refine x_A k231_1184 (fun _ => rfl) ?_
        refine x_iadd k231_1185 ?_
        refine x_top (fun z484 e_z484 => ?_)
        refine x_scr k231_1186 hN ⟨by omega, by omega⟩ (fun z485 g_z485 e_z485 => ?_)
        unfold in32 at g_z485
        have q_z485 : z485 = z475 := by rw [e_z485, e_z475, show z484 = z474 by omega]
        refine x_A k231_1187 (fun _ => rfl) ?_
        refine x_A k231_1188 (fun _ => rfl) ?_
        refine x_A k231_1189 (fun _ => rfl) ?_
        refine x_iadd k231_1190 ?_
        refine x_top (fun z486 e_z486 => ?_)
        refine x_scr k231_1191 hN ⟨by omega, by omega⟩ (fun z487 g_z487 e_z487 => ?_)
        unfold in32 at g_z487
        have q_z487 : z487 = z477 := by rw [e_z487, e_z477, show z486 = z476 by omega]
        refine x_A k231_1192 (fun _ => rfl) ?_
        refine x_A k231_1193 (fun _ => rfl) ?_
        refine x_A k231_1194 (fun _ => rfl) ?_
        refine x_iadd k231_1195 ?_
        refine x_top (fun z488 e_z488 => ?_)
        refine x_scr k231_1196 hN ⟨by omega, by omega⟩ (fun z489 g_z489 e_z489 => ?_)
        unfold in32 at g_z489
        have q_z489 : z489 = z479 := by rw [e_z489, e_z479, show z488 = z478 by omega]
        refine x_callV k231_1197 (y := 216) (n := 3) (w0 := 0) (w1 := 3) (as := [vi z485, vi z487, vi z489]) (rest := []) (by decide +kernel) (q := 256) (nq := 62) (kq := 15) ⟨by decide, rfl⟩ rfl rfl rfl rfl (xe_mono (C_X11_moment_256 s481 hG_s481 z485 (by first | exact x_rbe e_z485 g_z485 rfl rfl | exact x_rb g_z485 rfl rfl | exact ⟨by omega, by omega⟩) z487 (by first | exact x_rbe e_z487 g_z487 rfl rfl | exact x_rb g_z487 rfl rfl | exact ⟨by omega, by omega⟩) z489 (by first | exact x_rbe e_z489 g_z489 rfl rfl | exact x_rb g_z489 rfl rfl | exact ⟨by omega, by omega⟩)) ?_)
        rintro s491 v ⟨hG_s491, t_s491, z490, rfl, g_z490⟩
        have q492 : s491 0 10 = x1000 := (t_s491 0 10 (show 11 ∉ [6400, 6464, 6528] from by decide +kernel)).trans q482
        have q493 : s491 256 0 = x1001 := (t_s491 256 0 (show 4097 ∉ [6400, 6464, 6528] from by decide +kernel)).trans q483
        have J_s491 : J s491 := J.fl J_s481 t_s491 (by decide +kernel)
        show xe (some (N, xs)) 231 1200 [(0, .ref 2000), (1, .ref 0), (2, .ref 256), (3, vi x3)] [vi z490] s491 295 10442 _
        refine x_A k231_1200 (fun _ => rfl) ?_
        refine x_goto k231_1201 (t := 1300) rfl ?_
        refine x_iinc k231_1300 (ls' := [(3, vi (x3 + 7)), (0, .ref 2000), (1, .ref 0), (2, .ref 256)]) rfl (by decide) rfl ?_
        refine x_goto k231_1303 (t := 18) rfl ?_
        refine x_ls (l := [(0, .ref 2000), (1, .ref 0), (2, .ref 256), (3, vi (x3 + 7))]) (show ([0, 1, 2, 3] : List Nat).Nodup from by decide +kernel) ⟨rfl, rfl, rfl, rfl, trivial⟩ ?_
        exact ih s491 (x3 + 7) x1000 x1001 hG_s491 trivial ⟨by omega, by omega⟩ (by first | exact x_rb b_x1000 rfl rfl | exact ⟨by omega, by omega⟩) (by first | exact x_rb b_x1001 rfl rfl | exact ⟨by omega, by omega⟩) (by omega) (q492).symm (q493).symm J_s491  (by omega)
      · rw [c5]
        refine x_B k231_33 rfl (fun _ => rfl) (fun _ => rfl) (fun _ _ => rfl) ?_
        show xe (some (N, xs)) 231 1204 [(0, .ref 2000), (1, .ref 0), (2, .ref 256), (3, vi x3)] [] s 295 10442 _
        refine x_A k231_1204 (fun _ => rfl) ?_
        refine x_A k231_1205 (fun _ => rfl) ?_
        refine x_A k231_1206 (fun _ => rfl) ?_
        refine x_A k231_1207 (fun _ => rfl) ?_
        refine x_iadd k231_1208 ?_
        refine x_top (fun z494 e_z494 => ?_)
        refine x_scr k231_1209 hN ⟨by omega, by omega⟩ (fun z495 g_z495 e_z495 => ?_)
        unfold in32 at g_z495
        refine x_A k231_1210 (fun _ => rfl) ?_
        refine x_A k231_1211 (fun _ => rfl) ?_
        refine x_A k231_1212 (fun _ => rfl) ?_
        refine x_iadd k231_1213 ?_
        refine x_top (fun z496 e_z496 => ?_)
        refine x_scr k231_1214 hN ⟨by omega, by omega⟩ (fun z497 g_z497 e_z497 => ?_)
        unfold in32 at g_z497
        refine x_A k231_1215 (fun _ => rfl) ?_
        refine x_A k231_1216 (fun _ => rfl) ?_
        refine x_A k231_1217 (fun _ => rfl) ?_
        refine x_iadd k231_1218 ?_
        refine x_top (fun z498 e_z498 => ?_)
        refine x_scr k231_1219 hN ⟨by omega, by omega⟩ (fun z499 g_z499 e_z499 => ?_)
        unfold in32 at g_z499
        refine x_A k231_1220 (fun _ => rfl) ?_
        refine x_A k231_1221 (fun _ => rfl) ?_
        refine x_A k231_1222 (fun _ => rfl) ?_
        refine x_iadd k231_1223 ?_
        refine x_top (fun z500 e_z500 => ?_)
        refine x_scr k231_1224 hN ⟨by omega, by omega⟩ (fun z501 g_z501 e_z501 => ?_)
        unfold in32 at g_z501
        refine x_callV k231_1225 (y := 119) (n := 4) (w0 := 0) (w1 := 4) (as := [vi z495, vi z497, vi z499, vi z501]) (rest := []) (by decide +kernel) (q := 0) (nq := 12) (kq := 3) ⟨by decide, rfl⟩ rfl rfl rfl rfl (xe_mono (C_X10_of_0 s hG i_J z495 (by first | exact x_rbe e_z495 g_z495 rfl rfl | exact x_rb g_z495 rfl rfl | exact ⟨by omega, by omega⟩) z497 (by first | exact x_rbe e_z497 g_z497 rfl rfl | exact x_rb g_z497 rfl rfl | exact ⟨by omega, by omega⟩) z499 (by first | exact x_rbe e_z499 g_z499 rfl rfl | exact x_rb g_z499 rfl rfl | exact ⟨by omega, by omega⟩) z501 (by first | exact x_rbe e_z501 g_z501 rfl rfl | exact x_rb g_z501 rfl rfl | exact ⟨by omega, by omega⟩)) ?_)
        rintro s503 v ⟨hG_s503, t_s503, z502, rfl, g_z502⟩
        have q504 : s503 0 10 = x1000 := (t_s503 0 10 (show 11 ∉ [3329, 3334, 3335, 3336, 3392, 3456, 3520, 3584, 3276, 3648, 3712, 3776, 3840, 3904, 3968, 3277, 4032] from by decide +kernel)).trans e_x1000.symm
        have q505 : s503 256 0 = x1001 := (t_s503 256 0 (show 4097 ∉ [3329, 3334, 3335, 3336, 3392, 3456, 3520, 3584, 3276, 3648, 3712, 3776, 3840, 3904, 3968, 3277, 4032] from by decide +kernel)).trans e_x1001.symm
        have J_s503 : J s503 := J.fl i_J t_s503 (by decide +kernel)
        show xe (some (N, xs)) 231 1228 [(0, .ref 2000), (1, .ref 0), (2, .ref 256), (3, vi x3)] [vi z502] s503 295 10442 _
        refine x_A k231_1228 (fun _ => rfl) ?_
        refine x_A k231_1229 (fun _ => rfl) ?_
        refine x_A k231_1230 (fun _ => rfl) ?_
        refine x_A k231_1231 (fun _ => rfl) ?_
        refine x_A k231_1232 (fun _ => rfl) ?_
        refine x_iadd k231_1233 ?_
        refine x_top (fun z506 e_z506 => ?_)
        refine x_scr k231_1234 hN ⟨by omega, by omega⟩ (fun z507 g_z507 e_z507 => ?_)
        unfold in32 at g_z507
        have q_z507 : z507 = z495 := by rw [e_z507, e_z495, show z506 = z494 by omega]
        refine x_A k231_1235 (fun _ => rfl) ?_
        refine x_A k231_1236 (fun _ => rfl) ?_
        refine x_A k231_1237 (fun _ => rfl) ?_
        refine x_iadd k231_1238 ?_
        refine x_top (fun z508 e_z508 => ?_)
        refine x_scr k231_1239 hN ⟨by omega, by omega⟩ (fun z509 g_z509 e_z509 => ?_)
        unfold in32 at g_z509
        have q_z509 : z509 = z497 := by rw [e_z509, e_z497, show z508 = z496 by omega]
        refine x_A k231_1240 (fun _ => rfl) ?_
        refine x_A k231_1241 (fun _ => rfl) ?_
        refine x_A k231_1242 (fun _ => rfl) ?_
        refine x_iadd k231_1243 ?_
        refine x_top (fun z510 e_z510 => ?_)
        refine x_scr k231_1244 hN ⟨by omega, by omega⟩ (fun z511 g_z511 e_z511 => ?_)
        unfold in32 at g_z511
        have q_z511 : z511 = z499 := by rw [e_z511, e_z499, show z510 = z498 by omega]
        refine x_A k231_1245 (fun _ => rfl) ?_
        refine x_A k231_1246 (fun _ => rfl) ?_
        refine x_A k231_1247 (fun _ => rfl) ?_
        refine x_iadd k231_1248 ?_
        refine x_top (fun z512 e_z512 => ?_)
        refine x_scr k231_1249 hN ⟨by omega, by omega⟩ (fun z513 g_z513 e_z513 => ?_)
        unfold in32 at g_z513
        have q_z513 : z513 = z501 := by rw [e_z513, e_z501, show z512 = z500 by omega]
        refine x_callV k231_1250 (y := 217) (n := 4) (w0 := 0) (w1 := 4) (as := [vi z507, vi z509, vi z511, vi z513]) (rest := []) (by decide +kernel) (q := 256) (nq := 62) (kq := 15) ⟨by decide, rfl⟩ rfl rfl rfl rfl (xe_mono (C_X11_of_256 s503 hG_s503 J_s503 z507 (by first | exact x_rbe e_z507 g_z507 rfl rfl | exact x_rb g_z507 rfl rfl | exact ⟨by omega, by omega⟩) z509 (by first | exact x_rbe e_z509 g_z509 rfl rfl | exact x_rb g_z509 rfl rfl | exact ⟨by omega, by omega⟩) z511 (by first | exact x_rbe e_z511 g_z511 rfl rfl | exact x_rb g_z511 rfl rfl | exact ⟨by omega, by omega⟩) z513 (by first | exact x_rbe e_z513 g_z513 rfl rfl | exact x_rb g_z513 rfl rfl | exact ⟨by omega, by omega⟩)) ?_)
        rintro s515 v ⟨hG_s515, t_s515, z514, rfl, g_z514⟩
        have q516 : s515 0 10 = x1000 := (t_s515 0 10 (show 11 ∉ [5312, 5376, 4123, 5440, 5504, 5568, 5632, 5696, 5760] from by decide +kernel)).trans q504
        have q517 : s515 256 0 = x1001 := (t_s515 256 0 (show 4097 ∉ [5312, 5376, 4123, 5440, 5504, 5568, 5632, 5696, 5760] from by decide +kernel)).trans q505
        have J_s515 : J s515 := J.fl J_s503 t_s515 (by decide +kernel)
        show xe (some (N, xs)) 231 1253 [(0, .ref 2000), (1, .ref 0), (2, .ref 256), (3, vi x3)] [vi z514] s515 295 10442 _
        refine x_A k231_1253 (fun _ => rfl) ?_
        refine x_goto k231_1254 (t := 1300) rfl ?_
        refine x_iinc k231_1300 (ls' := [(3, vi (x3 + 7)), (0, .ref 2000), (1, .ref 0), (2, .ref 256)]) rfl (by decide) rfl ?_
        refine x_goto k231_1303 (t := 18) rfl ?_
        refine x_ls (l := [(0, .ref 2000), (1, .ref 0), (2, .ref 256), (3, vi (x3 + 7))]) (show ([0, 1, 2, 3] : List Nat).Nodup from by decide +kernel) ⟨rfl, rfl, rfl, rfl, trivial⟩ ?_
        exact ih s515 (x3 + 7) x1000 x1001 hG_s515 trivial ⟨by omega, by omega⟩ (by first | exact x_rb b_x1000 rfl rfl | exact ⟨by omega, by omega⟩) (by first | exact x_rb b_x1001 rfl rfl | exact ⟨by omega, by omega⟩) (by omega) (q516).symm (q517).symm J_s515  (by omega)
      · rw [c5]
        refine x_B k231_33 rfl (fun _ => rfl) (fun _ => rfl) (fun _ _ => rfl) ?_
        show xe (some (N, xs)) 231 1257 [(0, .ref 2000), (1, .ref 0), (2, .ref 256), (3, vi x3)] [] s 295 10442 _
        refine x_A k231_1257 (fun _ => rfl) ?_
        refine x_A k231_1258 (fun _ => rfl) ?_
        refine x_A k231_1259 (fun _ => rfl) ?_
        refine x_A k231_1260 (fun _ => rfl) ?_
        refine x_iadd k231_1261 ?_
        refine x_top (fun z518 e_z518 => ?_)
        refine x_scr k231_1262 hN ⟨by omega, by omega⟩ (fun z519 g_z519 e_z519 => ?_)
        unfold in32 at g_z519
        refine x_A k231_1263 (fun _ => rfl) ?_
        refine x_A k231_1264 (fun _ => rfl) ?_
        refine x_A k231_1265 (fun _ => rfl) ?_
        refine x_iadd k231_1266 ?_
        refine x_top (fun z520 e_z520 => ?_)
        refine x_scr k231_1267 hN ⟨by omega, by omega⟩ (fun z521 g_z521 e_z521 => ?_)
        unfold in32 at g_z521
        refine x_A k231_1268 (fun _ => rfl) ?_
        refine x_A k231_1269 (fun _ => rfl) ?_
        refine x_A k231_1270 (fun _ => rfl) ?_
        refine x_iadd k231_1271 ?_
        refine x_top (fun z522 e_z522 => ?_)
        refine x_scr k231_1272 hN ⟨by omega, by omega⟩ (fun z523 g_z523 e_z523 => ?_)
        unfold in32 at g_z523
        refine x_callV k231_1273 (y := 120) (n := 3) (w0 := 0) (w1 := 3) (as := [vi z519, vi z521, vi z523]) (rest := []) (by decide +kernel) (q := 0) (nq := 12) (kq := 3) ⟨by decide, rfl⟩ rfl rfl rfl rfl (xe_mono (C_X10_split_0 s hG i_J z519 (by first | exact x_rbe e_z519 g_z519 rfl rfl | exact x_rb g_z519 rfl rfl | exact ⟨by omega, by omega⟩) z521 (by first | exact x_rbe e_z521 g_z521 rfl rfl | exact x_rb g_z521 rfl rfl | exact ⟨by omega, by omega⟩) z523 (by first | exact x_rbe e_z523 g_z523 rfl rfl | exact x_rb g_z523 rfl rfl | exact ⟨by omega, by omega⟩)) ?_)
        rintro s525 v ⟨hG_s525, t_s525, z524, rfl, g_z524⟩
        have q526 : s525 0 10 = x1000 := (t_s525 0 10 (show 11 ∉ [3329, 3334, 3335, 3336, 3392, 3456, 3520, 3584, 3276, 3648, 3712, 3776, 3840, 3904, 3968, 3277, 4032] from by decide +kernel)).trans e_x1000.symm
        have q527 : s525 256 0 = x1001 := (t_s525 256 0 (show 4097 ∉ [3329, 3334, 3335, 3336, 3392, 3456, 3520, 3584, 3276, 3648, 3712, 3776, 3840, 3904, 3968, 3277, 4032] from by decide +kernel)).trans e_x1001.symm
        have J_s525 : J s525 := J.fl i_J t_s525 (by decide +kernel)
        show xe (some (N, xs)) 231 1276 [(0, .ref 2000), (1, .ref 0), (2, .ref 256), (3, vi x3)] [vi z524] s525 295 10442 _
        refine x_A k231_1276 (fun _ => rfl) ?_
        refine x_A k231_1277 (fun _ => rfl) ?_
        refine x_A k231_1278 (fun _ => rfl) ?_
        refine x_A k231_1279 (fun _ => rfl) ?_
        refine x_A k231_1280 (fun _ => rfl) ?_
        refine x_iadd k231_1281 ?_
        refine x_top (fun z528 e_z528 => ?_)
        refine x_scr k231_1282 hN ⟨by omega, by omega⟩ (fun z529 g_z529 e_z529 => ?_)
        unfold in32 at g_z529
        have q_z529 : z529 = z519 := by rw [e_z529, e_z519, show z528 = z518 by omega]
        refine x_A k231_1283 (fun _ => rfl) ?_
        refine x_A k231_1284 (fun _ => rfl) ?_
        refine x_A k231_1285 (fun _ => rfl) ?_
        refine x_iadd k231_1286 ?_
        refine x_top (fun z530 e_z530 => ?_)
        refine x_scr k231_1287 hN ⟨by omega, by omega⟩ (fun z531 g_z531 e_z531 => ?_)
        unfold in32 at g_z531
        have q_z531 : z531 = z521 := by rw [e_z531, e_z521, show z530 = z520 by omega]
        refine x_A k231_1288 (fun _ => rfl) ?_
        refine x_A k231_1289 (fun _ => rfl) ?_
        refine x_A k231_1290 (fun _ => rfl) ?_
        refine x_iadd k231_1291 ?_
        refine x_top (fun z532 e_z532 => ?_)
        refine x_scr k231_1292 hN ⟨by omega, by omega⟩ (fun z533 g_z533 e_z533 => ?_)
        unfold in32 at g_z533
        have q_z533 : z533 = z523 := by rw [e_z533, e_z523, show z532 = z522 by omega]
        refine x_callV k231_1293 (y := 218) (n := 3) (w0 := 0) (w1 := 3) (as := [vi z529, vi z531, vi z533]) (rest := []) (by decide +kernel) (q := 256) (nq := 62) (kq := 15) ⟨by decide, rfl⟩ rfl rfl rfl rfl (xe_mono (C_X11_split_256 s525 hG_s525 J_s525 z529 (by first | exact x_rbe e_z529 g_z529 rfl rfl | exact x_rb g_z529 rfl rfl | exact ⟨by omega, by omega⟩) z531 (by first | exact x_rbe e_z531 g_z531 rfl rfl | exact x_rb g_z531 rfl rfl | exact ⟨by omega, by omega⟩) z533 (by first | exact x_rbe e_z533 g_z533 rfl rfl | exact x_rb g_z533 rfl rfl | exact ⟨by omega, by omega⟩)) ?_)
        rintro s535 v ⟨hG_s535, t_s535, z534, rfl, g_z534⟩
        have q536 : s535 0 10 = x1000 := (t_s535 0 10 (show 11 ∉ [5312, 5376, 4123, 5440, 5504, 5568, 5632, 5696, 5760] from by decide +kernel)).trans q526
        have q537 : s535 256 0 = x1001 := (t_s535 256 0 (show 4097 ∉ [5312, 5376, 4123, 5440, 5504, 5568, 5632, 5696, 5760] from by decide +kernel)).trans q527
        have J_s535 : J s535 := J.fl J_s525 t_s535 (by decide +kernel)
        show xe (some (N, xs)) 231 1296 [(0, .ref 2000), (1, .ref 0), (2, .ref 256), (3, vi x3)] [vi z534] s535 295 10442 _
        refine x_A k231_1296 (fun _ => rfl) ?_
        refine x_goto k231_1297 (t := 1300) rfl ?_
        refine x_iinc k231_1300 (ls' := [(3, vi (x3 + 7)), (0, .ref 2000), (1, .ref 0), (2, .ref 256)]) rfl (by decide) rfl ?_
        refine x_goto k231_1303 (t := 18) rfl ?_
        refine x_ls (l := [(0, .ref 2000), (1, .ref 0), (2, .ref 256), (3, vi (x3 + 7))]) (show ([0, 1, 2, 3] : List Nat).Nodup from by decide +kernel) ⟨rfl, rfl, rfl, rfl, trivial⟩ ?_
        exact ih s535 (x3 + 7) x1000 x1001 hG_s535 trivial ⟨by omega, by omega⟩ (by first | exact x_rb b_x1000 rfl rfl | exact ⟨by omega, by omega⟩) (by first | exact x_rb b_x1001 rfl rfl | exact ⟨by omega, by omega⟩) (by omega) (q536).symm (q537).symm J_s535  (by omega)
      · refine x_tabD k231_33 ⟨by omega, by omega⟩ c5 (t0 := 1300) rfl ?_
        refine x_iinc k231_1300 (ls' := [(3, vi (x3 + 7)), (0, .ref 2000), (1, .ref 0), (2, .ref 256)]) rfl (by decide) rfl ?_
        refine x_goto k231_1303 (t := 18) rfl ?_
        refine x_ls (l := [(0, .ref 2000), (1, .ref 0), (2, .ref 256), (3, vi (x3 + 7))]) (show ([0, 1, 2, 3] : List Nat).Nodup from by decide +kernel) ⟨rfl, rfl, rfl, rfl, trivial⟩ ?_
        exact ih s (x3 + 7) x1000 x1001 hG f ⟨by omega, by omega⟩ (by first | exact x_rb b_x1000 rfl rfl | exact ⟨by omega, by omega⟩) (by first | exact x_rb b_x1001 rfl rfl | exact ⟨by omega, by omega⟩) (by omega) (e_x1000.symm).symm (e_x1001.symm).symm i_J  (by omega)
