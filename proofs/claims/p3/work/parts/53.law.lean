set_option maxHeartbeats 8000000 in
theorem law_loop (N : Nat) (xs : Nat → Int32) (hN : N ≤ 3584)  : ∀ (n : Nat) (s : xS) (x3 : Int) (hG : GI s) (f : True) (b_x3 : 0 ≤ x3 ∧ x3 ≤ 3584) (i_J : J s) (i_T0 : T0 s)  (hm : (3584 - x3) < (n : Int)), xe (some (N, xs)) 231 18 [(0, .ref 2000), (1, .ref 0), (2, .ref 256), (3, vi x3)] [] s 295 10442 (fun _ v => v = some (vi 1)) := by
  intro n
  induction n with
  | zero => intro s x3 hG f b_x3 i_J i_T0  hm; exfalso; omega
  | succ n ih =>
    intro s x3 hG f b_x3 i_J i_T0  hm
    refine x_A k231_18 (fun _ => rfl) ?_
    refine x_A k231_19 (fun _ => rfl) ?_
    refine x_slen k231_20 ?_
    refine x_bipush k231_21 (by decide +kernel) ?_
    refine x_isub k231_23 ?_
    refine x_top (fun z1 e_z1 => ?_)
    refine x_ic_gt k231_24 (t := 1306) rfl (by first | exact x_rb b_x3 rfl rfl | exact ⟨by omega, by omega⟩) (by first | exact x_rbe e_z1 g_z1 rfl rfl | exact x_rb g_z1 rfl rfl | exact ⟨by omega, by omega⟩) (fun c2 => ?_) (fun c2 => ?_)
    · skip
      refine x_A k231_1306 (fun _ => rfl) ?_
      exact x_zret k231_1307 rfl ⟨by omega, by omega⟩ rfl
    · skip
      refine x_A k231_27 (fun _ => rfl) ?_
      refine x_A k231_28 (fun _ => rfl) ?_
      refine x_scr k231_29 hN ⟨by omega, by omega⟩ (fun z3 g_z3 e_z3 => ?_)
      unfold in32 at g_z3
      refine x_bipush k231_30 (by decide +kernel) ?_
      refine x_and_mask k231_32 ⟨by omega, by omega⟩ (fun z4 g_z4 => ?_)
      have c5 : z4 = 0 ∨ z4 = 1 ∨ z4 = 2 ∨ z4 = 3 ∨ z4 = 4 ∨ z4 = 5 ∨ z4 = 6 ∨ z4 = 7 ∨ z4 = 8 ∨ z4 = 9 ∨ z4 = 10 ∨ z4 = 11 ∨ z4 = 12 ∨ z4 = 13 ∨ z4 = 14 ∨ z4 = 15 ∨ z4 = 16 ∨ z4 = 17 ∨ z4 = 18 ∨ z4 = 19 ∨ z4 = 20 ∨ z4 = 21 ∨ z4 = 22 ∨ z4 = 23 ∨ z4 = 24 ∨ z4 = 25 ∨ z4 = 26 ∨ z4 = 27 ∨ z4 = 28 ∨ z4 = 29 ∨ ¬ (0 ≤ z4 ∧ z4 ≤ 29) := by omega
      rcases c5 with c5 | c5 | c5 | c5 | c5 | c5 | c5 | c5 | c5 | c5 | c5 | c5 | c5 | c5 | c5 | c5 | c5 | c5 | c5 | c5 | c5 | c5 | c5 | c5 | c5 | c5 | c5 | c5 | c5 | c5 | c5
      · rw [c5]
        refine x_B k231_33 rfl (fun _ => rfl) (fun _ => rfl) (fun _ _ => rfl) ?_
        show xe (some (N, xs)) 231 168 [(0, .ref 2000), (1, .ref 0), (2, .ref 256), (3, vi x3)] [] s 295 10442 _
        refine x_A k231_168 (fun _ => rfl) ?_
        refine x_callV k231_169 (y := 91) (n := 0) (w0 := 0) (w1 := 0) (as := []) (rest := []) (by decide +kernel) (q := 0) (nq := 12) (kq := 3) ⟨by decide, rfl⟩ rfl rfl rfl rfl (xe_mono (C_X10_edition_0 s hG) ?_)
        rintro s7 v ⟨hG_s7, t_s7, z6, rfl, g_z6, xp_z6⟩
        have J_s7 : J s7 := J.fl i_J t_s7 (by decide +kernel)
        obtain ⟨z8, e_z8⟩ : ∃ z, z = s7 0 10 := ⟨_, rfl⟩
        have g_z8 : (0 : Int) ≤ s7 0 10 ∧ s7 0 10 ≤ 9 := hG_s7 0 10
        show xe (some (N, xs)) 231 172 [(0, .ref 2000), (1, .ref 0), (2, .ref 256), (3, vi x3)] [vi z6] s7 295 10442 _
        refine x_A k231_172 (fun _ => rfl) ?_
        refine x_A k231_173 (fun _ => rfl) ?_
        refine x_callV k231_174 (y := 145) (n := 0) (w0 := 0) (w1 := 0) (as := []) (rest := []) (by decide +kernel) (q := 256) (nq := 62) (kq := 15) ⟨by decide, rfl⟩ rfl rfl rfl rfl (xe_mono (D_X11_edition_256 s7 hG_s7 J_s7) ?_)
        rintro s10 v ⟨hG_s10, t_s10, z9, rfl, g_z9, xp_z9, J_s10⟩
        have q11 : s10 0 10 = z8 := (t_s10 0 10 (show 11 ∉ [4097] from by decide +kernel)).trans e_z8.symm
        obtain ⟨z12, e_z12⟩ : ∃ z, z = s10 256 0 := ⟨_, rfl⟩
        have g_z12 : (0 : Int) ≤ s10 256 0 ∧ s10 256 0 ≤ 9 := hG_s10 256 0
        show xe (some (N, xs)) 231 177 [(0, .ref 2000), (1, .ref 0), (2, .ref 256), (3, vi x3)] [vi z9] s10 295 10442 _
        obtain ⟨ez_s10, T0_s10⟩ := T0.ed i_T0 t_s7 t_s10 (by decide) (by decide) xp_z6 xp_z9
        refine x_A k231_177 (fun _ => rfl) ?_
        refine x_goto k231_178 (t := 1300) rfl ?_
        refine x_iinc k231_1300 (ls' := [(3, vi (x3 + 7)), (0, .ref 2000), (1, .ref 0), (2, .ref 256)]) rfl (by decide) rfl ?_
        refine x_goto k231_1303 (t := 18) rfl ?_
        refine x_ls (l := [(0, .ref 2000), (1, .ref 0), (2, .ref 256), (3, vi (x3 + 7))]) (show ([0, 1, 2, 3] : List Nat).Nodup from by decide +kernel) ⟨rfl, rfl, rfl, rfl, trivial⟩ ?_
        exact ih s10 (x3 + 7) hG_s10 trivial ⟨by omega, by omega⟩ J_s10 T0_s10  (by omega)
      · rw [c5]
        refine x_B k231_33 rfl (fun _ => rfl) (fun _ => rfl) (fun _ _ => rfl) ?_
        show xe (some (N, xs)) 231 181 [(0, .ref 2000), (1, .ref 0), (2, .ref 256), (3, vi x3)] [] s 295 10442 _
        refine x_A k231_181 (fun _ => rfl) ?_
        refine x_A k231_182 (fun _ => rfl) ?_
        refine x_A k231_183 (fun _ => rfl) ?_
        refine x_A k231_184 (fun _ => rfl) ?_
        refine x_iadd k231_185 ?_
        refine x_top (fun z13 e_z13 => ?_)
        refine x_scr k231_186 hN ⟨by omega, by omega⟩ (fun z14 g_z14 e_z14 => ?_)
        unfold in32 at g_z14
        obtain ⟨z15, e_z15⟩ : ∃ z, z = s 1 4 := ⟨_, rfl⟩
        have g_z15 : (1 : Int) ≤ s 1 4 ∧ s 1 4 ≤ 40 := hG 1 4
        obtain ⟨z16, e_z16⟩ : ∃ z, z = s 0 10 := ⟨_, rfl⟩
        have g_z16 : (0 : Int) ≤ s 0 10 ∧ s 0 10 ≤ 9 := hG 0 10
        refine x_callV k231_187 (y := 92) (n := 1) (w0 := 0) (w1 := 1) (as := [vi z14]) (rest := []) (by decide +kernel) (q := 0) (nq := 12) (kq := 3) ⟨by decide, rfl⟩ rfl rfl rfl rfl (xe_mono (E_X10_mark_0 s hG z14 (by first | exact x_rbe e_z14 g_z14 rfl rfl | exact x_rb g_z14 rfl rfl | exact ⟨by omega, by omega⟩) ⟨by omega, by omega⟩ ⟨by omega, by omega⟩) ?_)
        rintro s18 v ⟨hG_s18, t_s18, z17, rfl, g_z17, xp_z17⟩
        have q19 : s18 0 10 = z16 := (t_s18 0 10 (show 11 ∉ [69, 128, 384, 3276, 3277] from by decide +kernel)).trans e_z16.symm
        have J_s18 : J s18 := J.fl i_J t_s18 (by decide +kernel)
        obtain ⟨z20, e_z20⟩ : ∃ z, z = s18 1 4 := ⟨_, rfl⟩
        have g_z20 : (1 : Int) ≤ s18 1 4 ∧ s18 1 4 ≤ 40 := hG_s18 1 4
        show xe (some (N, xs)) 231 190 [(0, .ref 2000), (1, .ref 0), (2, .ref 256), (3, vi x3)] [vi z17] s18 295 10442 _
        refine x_A k231_190 (fun _ => rfl) ?_
        refine x_A k231_191 (fun _ => rfl) ?_
        refine x_A k231_192 (fun _ => rfl) ?_
        refine x_A k231_193 (fun _ => rfl) ?_
        refine x_iadd k231_194 ?_
        refine x_top (fun z21 e_z21 => ?_)
        refine x_scr k231_195 hN ⟨by omega, by omega⟩ (fun z22 g_z22 e_z22 => ?_)
        unfold in32 at g_z22
        have q_z22 : z22 = z14 := by rw [e_z22, e_z14, show z21 = z13 by omega]
        obtain ⟨z23, e_z23⟩ : ∃ z, z = s18 256 1 := ⟨_, rfl⟩
        have g_z23 : (1 : Int) ≤ s18 256 1 ∧ s18 256 1 ≤ 40 := hG_s18 256 1
        obtain ⟨z24, e_z24⟩ : ∃ z, z = s18 256 0 := ⟨_, rfl⟩
        have g_z24 : (0 : Int) ≤ s18 256 0 ∧ s18 256 0 ≤ 9 := hG_s18 256 0
        refine x_callV k231_196 (y := 146) (n := 1) (w0 := 1) (w1 := 1) (as := [vi z22]) (rest := [vi z17]) (by decide +kernel) (q := 256) (nq := 62) (kq := 15) ⟨by decide, rfl⟩ rfl rfl rfl rfl (xe_mono (E_X11_mark_256 s18 hG_s18 z22 (by first | exact x_rbe e_z22 g_z22 rfl rfl | exact x_rb g_z22 rfl rfl | exact ⟨by omega, by omega⟩) ⟨by omega, by omega⟩ ⟨by omega, by omega⟩ J_s18) ?_)
        rintro s26 v ⟨hG_s26, t_s26, z25, rfl, g_z25, xp_z25, J_s26⟩
        have q27 : s26 0 10 = z16 := (t_s26 0 10 (show 11 ∉ [4098, 4160, 4224, 4288, 4352] from by decide +kernel)).trans q19
        have q28 : s26 1 4 = z20 := (t_s26 1 4 (show 69 ∉ [4098, 4160, 4224, 4288, 4352] from by decide +kernel)).trans e_z20.symm
        have q29 : s26 256 0 = z24 := (t_s26 256 0 (show 4097 ∉ [4098, 4160, 4224, 4288, 4352] from by decide +kernel)).trans e_z24.symm
        obtain ⟨z30, e_z30⟩ : ∃ z, z = s26 256 1 := ⟨_, rfl⟩
        have g_z30 : (1 : Int) ≤ s26 256 1 ∧ s26 256 1 ≤ 40 := hG_s26 256 1
        show xe (some (N, xs)) 231 199 [(0, .ref 2000), (1, .ref 0), (2, .ref 256), (3, vi x3)] [vi z25, vi z17] s26 295 10442 _
        obtain ⟨ez_s26, T0_s26⟩ := T0.mark i_T0 hG t_s18 t_s26 (by decide) (by decide) xp_z17 (by rw [← q_z22]; exact xp_z25)
        refine x_ic_eq k231_199 (t := 1300) rfl (by first | exact x_rbe e_z17 g_z17 rfl rfl | exact x_rb g_z17 rfl rfl | exact ⟨by omega, by omega⟩) (by first | exact x_rbe e_z25 g_z25 rfl rfl | exact x_rb g_z25 rfl rfl | exact ⟨by omega, by omega⟩) (fun c31 => ?_) (fun c31 => ?_)
        · skip
          refine x_iinc k231_1300 (ls' := [(3, vi (x3 + 7)), (0, .ref 2000), (1, .ref 0), (2, .ref 256)]) rfl (by decide) rfl ?_
          refine x_goto k231_1303 (t := 18) rfl ?_
          refine x_ls (l := [(0, .ref 2000), (1, .ref 0), (2, .ref 256), (3, vi (x3 + 7))]) (show ([0, 1, 2, 3] : List Nat).Nodup from by decide +kernel) ⟨rfl, rfl, rfl, rfl, trivial⟩ ?_
          exact ih s26 (x3 + 7) hG_s26 trivial ⟨by omega, by omega⟩ J_s26 T0_s26  (by omega)
        · skip
          refine x_A k231_202 (fun _ => rfl) ?_
          exfalso; omega
      · rw [c5]
        refine x_B k231_33 rfl (fun _ => rfl) (fun _ => rfl) (fun _ _ => rfl) ?_
        show xe (some (N, xs)) 231 204 [(0, .ref 2000), (1, .ref 0), (2, .ref 256), (3, vi x3)] [] s 295 10442 _
        refine x_A k231_204 (fun _ => rfl) ?_
        refine x_A k231_205 (fun _ => rfl) ?_
        refine x_A k231_206 (fun _ => rfl) ?_
        refine x_A k231_207 (fun _ => rfl) ?_
        refine x_iadd k231_208 ?_
        refine x_top (fun z32 e_z32 => ?_)
        refine x_scr k231_209 hN ⟨by omega, by omega⟩ (fun z33 g_z33 e_z33 => ?_)
        unfold in32 at g_z33
        refine x_A k231_210 (fun _ => rfl) ?_
        refine x_A k231_211 (fun _ => rfl) ?_
        refine x_A k231_212 (fun _ => rfl) ?_
        refine x_iadd k231_213 ?_
        refine x_top (fun z34 e_z34 => ?_)
        refine x_scr k231_214 hN ⟨by omega, by omega⟩ (fun z35 g_z35 e_z35 => ?_)
        unfold in32 at g_z35
        refine x_callV k231_215 (y := 93) (n := 2) (w0 := 0) (w1 := 2) (as := [vi z33, vi z35]) (rest := []) (by decide +kernel) (q := 0) (nq := 12) (kq := 3) ⟨by decide, rfl⟩ rfl rfl rfl rfl (xe_mono (C_X10_move_0 s hG z33 (by first | exact x_rbe e_z33 g_z33 rfl rfl | exact x_rb g_z33 rfl rfl | exact ⟨by omega, by omega⟩) z35 (by first | exact x_rbe e_z35 g_z35 rfl rfl | exact x_rb g_z35 rfl rfl | exact ⟨by omega, by omega⟩)) ?_)
        rintro s37 v ⟨hG_s37, t_s37, z36, rfl, g_z36⟩
        have J_s37 : J s37 := J.fl i_J t_s37 (by decide +kernel)
        have T0_s37 : T0 s37 := T0.fl i_T0 t_s37 (by decide +kernel)
        show xe (some (N, xs)) 231 218 [(0, .ref 2000), (1, .ref 0), (2, .ref 256), (3, vi x3)] [vi z36] s37 295 10442 _
        refine x_A k231_218 (fun _ => rfl) ?_
        refine x_A k231_219 (fun _ => rfl) ?_
        refine x_A k231_220 (fun _ => rfl) ?_
        refine x_A k231_221 (fun _ => rfl) ?_
        refine x_A k231_222 (fun _ => rfl) ?_
        refine x_iadd k231_223 ?_
        refine x_top (fun z38 e_z38 => ?_)
        refine x_scr k231_224 hN ⟨by omega, by omega⟩ (fun z39 g_z39 e_z39 => ?_)
        unfold in32 at g_z39
        have q_z39 : z39 = z33 := by rw [e_z39, e_z33, show z38 = z32 by omega]
        refine x_A k231_225 (fun _ => rfl) ?_
        refine x_A k231_226 (fun _ => rfl) ?_
        refine x_A k231_227 (fun _ => rfl) ?_
        refine x_iadd k231_228 ?_
        refine x_top (fun z40 e_z40 => ?_)
        refine x_scr k231_229 hN ⟨by omega, by omega⟩ (fun z41 g_z41 e_z41 => ?_)
        unfold in32 at g_z41
        have q_z41 : z41 = z35 := by rw [e_z41, e_z35, show z40 = z34 by omega]
        refine x_callV k231_230 (y := 147) (n := 2) (w0 := 0) (w1 := 2) (as := [vi z39, vi z41]) (rest := []) (by decide +kernel) (q := 256) (nq := 62) (kq := 15) ⟨by decide, rfl⟩ rfl rfl rfl rfl (xe_mono (D_X11_move_256 s37 hG_s37 z39 (by first | exact x_rbe e_z39 g_z39 rfl rfl | exact x_rb g_z39 rfl rfl | exact ⟨by omega, by omega⟩) z41 (by first | exact x_rbe e_z41 g_z41 rfl rfl | exact x_rb g_z41 rfl rfl | exact ⟨by omega, by omega⟩) J_s37) ?_)
        rintro s43 v ⟨hG_s43, t_s43, z42, rfl, g_z42, J_s43⟩
        have T0_s43 : T0 s43 := T0.fl T0_s37 t_s43 (by decide +kernel)
        show xe (some (N, xs)) 231 233 [(0, .ref 2000), (1, .ref 0), (2, .ref 256), (3, vi x3)] [vi z42] s43 295 10442 _
        refine x_A k231_233 (fun _ => rfl) ?_
        refine x_goto k231_234 (t := 1300) rfl ?_
        refine x_iinc k231_1300 (ls' := [(3, vi (x3 + 7)), (0, .ref 2000), (1, .ref 0), (2, .ref 256)]) rfl (by decide) rfl ?_
        refine x_goto k231_1303 (t := 18) rfl ?_
        refine x_ls (l := [(0, .ref 2000), (1, .ref 0), (2, .ref 256), (3, vi (x3 + 7))]) (show ([0, 1, 2, 3] : List Nat).Nodup from by decide +kernel) ⟨rfl, rfl, rfl, rfl, trivial⟩ ?_
        exact ih s43 (x3 + 7) hG_s43 trivial ⟨by omega, by omega⟩ J_s43 T0_s43  (by omega)
      · rw [c5]
        refine x_B k231_33 rfl (fun _ => rfl) (fun _ => rfl) (fun _ _ => rfl) ?_
        show xe (some (N, xs)) 231 237 [(0, .ref 2000), (1, .ref 0), (2, .ref 256), (3, vi x3)] [] s 295 10442 _
        refine x_A k231_237 (fun _ => rfl) ?_
        refine x_A k231_238 (fun _ => rfl) ?_
        refine x_A k231_239 (fun _ => rfl) ?_
        refine x_A k231_240 (fun _ => rfl) ?_
        refine x_iadd k231_241 ?_
        refine x_top (fun z44 e_z44 => ?_)
        refine x_scr k231_242 hN ⟨by omega, by omega⟩ (fun z45 g_z45 e_z45 => ?_)
        unfold in32 at g_z45
        refine x_A k231_243 (fun _ => rfl) ?_
        refine x_A k231_244 (fun _ => rfl) ?_
        refine x_A k231_245 (fun _ => rfl) ?_
        refine x_iadd k231_246 ?_
        refine x_top (fun z46 e_z46 => ?_)
        refine x_scr k231_247 hN ⟨by omega, by omega⟩ (fun z47 g_z47 e_z47 => ?_)
        unfold in32 at g_z47
        obtain ⟨z48, e_z48⟩ : ∃ z, z = s 1 4 := ⟨_, rfl⟩
        have g_z48 : (1 : Int) ≤ s 1 4 ∧ s 1 4 ≤ 40 := hG 1 4
        obtain ⟨z49, e_z49⟩ : ∃ z, z = s 0 10 := ⟨_, rfl⟩
        have g_z49 : (0 : Int) ≤ s 0 10 ∧ s 0 10 ≤ 9 := hG 0 10
        refine x_callV k231_248 (y := 94) (n := 2) (w0 := 0) (w1 := 2) (as := [vi z45, vi z47]) (rest := []) (by decide +kernel) (q := 0) (nq := 12) (kq := 3) ⟨by decide, rfl⟩ rfl rfl rfl rfl (xe_mono (E_X10_end_0 s hG z45 (by first | exact x_rbe e_z45 g_z45 rfl rfl | exact x_rb g_z45 rfl rfl | exact ⟨by omega, by omega⟩) z47 (by first | exact x_rbe e_z47 g_z47 rfl rfl | exact x_rb g_z47 rfl rfl | exact ⟨by omega, by omega⟩) ⟨by omega, by omega⟩ ⟨by omega, by omega⟩) ?_)
        rintro s51 v ⟨hG_s51, t_s51, z50, rfl, g_z50, xp_z50⟩
        have q52 : s51 1 4 = z48 := (t_s51 1 4 (show 69 ∉ [192, 256, 3276, 3277] from by decide +kernel)).trans e_z48.symm
        have q53 : s51 0 10 = z49 := (t_s51 0 10 (show 11 ∉ [192, 256, 3276, 3277] from by decide +kernel)).trans e_z49.symm
        have J_s51 : J s51 := J.fl i_J t_s51 (by decide +kernel)
        show xe (some (N, xs)) 231 251 [(0, .ref 2000), (1, .ref 0), (2, .ref 256), (3, vi x3)] [vi z50] s51 295 10442 _
        refine x_A k231_251 (fun _ => rfl) ?_
        refine x_A k231_252 (fun _ => rfl) ?_
        refine x_A k231_253 (fun _ => rfl) ?_
        refine x_A k231_254 (fun _ => rfl) ?_
        refine x_A k231_255 (fun _ => rfl) ?_
        refine x_iadd k231_256 ?_
        refine x_top (fun z54 e_z54 => ?_)
        refine x_scr k231_257 hN ⟨by omega, by omega⟩ (fun z55 g_z55 e_z55 => ?_)
        unfold in32 at g_z55
        have q_z55 : z55 = z45 := by rw [e_z55, e_z45, show z54 = z44 by omega]
        refine x_A k231_258 (fun _ => rfl) ?_
        refine x_A k231_259 (fun _ => rfl) ?_
        refine x_A k231_260 (fun _ => rfl) ?_
        refine x_iadd k231_261 ?_
        refine x_top (fun z56 e_z56 => ?_)
        refine x_scr k231_262 hN ⟨by omega, by omega⟩ (fun z57 g_z57 e_z57 => ?_)
        unfold in32 at g_z57
        have q_z57 : z57 = z47 := by rw [e_z57, e_z47, show z56 = z46 by omega]
        obtain ⟨z58, e_z58⟩ : ∃ z, z = s51 256 1 := ⟨_, rfl⟩
        have g_z58 : (1 : Int) ≤ s51 256 1 ∧ s51 256 1 ≤ 40 := hG_s51 256 1
        obtain ⟨z59, e_z59⟩ : ∃ z, z = s51 256 0 := ⟨_, rfl⟩
        have g_z59 : (0 : Int) ≤ s51 256 0 ∧ s51 256 0 ≤ 9 := hG_s51 256 0
        refine x_callV k231_263 (y := 148) (n := 2) (w0 := 0) (w1 := 2) (as := [vi z55, vi z57]) (rest := []) (by decide +kernel) (q := 256) (nq := 62) (kq := 15) ⟨by decide, rfl⟩ rfl rfl rfl rfl (xe_mono (E_X11_end_256 s51 hG_s51 z55 (by first | exact x_rbe e_z55 g_z55 rfl rfl | exact x_rb g_z55 rfl rfl | exact ⟨by omega, by omega⟩) z57 (by first | exact x_rbe e_z57 g_z57 rfl rfl | exact x_rb g_z57 rfl rfl | exact ⟨by omega, by omega⟩) ⟨by omega, by omega⟩ ⟨by omega, by omega⟩ J_s51) ?_)
        rintro s61 v ⟨hG_s61, t_s61, z60, rfl, g_z60, xp_z60, J_s61⟩
        have q62 : s61 1 4 = z48 := (t_s61 1 4 (show 69 ∉ [4224, 4288] from by decide +kernel)).trans q52
        have q63 : s61 0 10 = z49 := (t_s61 0 10 (show 11 ∉ [4224, 4288] from by decide +kernel)).trans q53
        have q64 : s61 256 1 = z58 := (t_s61 256 1 (show 4098 ∉ [4224, 4288] from by decide +kernel)).trans e_z58.symm
        have q65 : s61 256 0 = z59 := (t_s61 256 0 (show 4097 ∉ [4224, 4288] from by decide +kernel)).trans e_z59.symm
        show xe (some (N, xs)) 231 266 [(0, .ref 2000), (1, .ref 0), (2, .ref 256), (3, vi x3)] [vi z60] s61 295 10442 _
        have T0_s61 := T0.end i_T0 hG t_s51 t_s61 (by decide) (by decide) xp_z50 (by rw [← q_z55, ← q_z57]; exact xp_z60)
        refine x_A k231_266 (fun _ => rfl) ?_
        refine x_goto k231_267 (t := 1300) rfl ?_
        refine x_iinc k231_1300 (ls' := [(3, vi (x3 + 7)), (0, .ref 2000), (1, .ref 0), (2, .ref 256)]) rfl (by decide) rfl ?_
        refine x_goto k231_1303 (t := 18) rfl ?_
        refine x_ls (l := [(0, .ref 2000), (1, .ref 0), (2, .ref 256), (3, vi (x3 + 7))]) (show ([0, 1, 2, 3] : List Nat).Nodup from by decide +kernel) ⟨rfl, rfl, rfl, rfl, trivial⟩ ?_
        exact ih s61 (x3 + 7) hG_s61 trivial ⟨by omega, by omega⟩ J_s61 T0_s61  (by omega)
      · rw [c5]
        refine x_B k231_33 rfl (fun _ => rfl) (fun _ => rfl) (fun _ _ => rfl) ?_
        show xe (some (N, xs)) 231 270 [(0, .ref 2000), (1, .ref 0), (2, .ref 256), (3, vi x3)] [] s 295 10442 _
        refine x_A k231_270 (fun _ => rfl) ?_
        refine x_A k231_271 (fun _ => rfl) ?_
        refine x_A k231_272 (fun _ => rfl) ?_
        refine x_A k231_273 (fun _ => rfl) ?_
        refine x_iadd k231_274 ?_
        refine x_top (fun z66 e_z66 => ?_)
        refine x_scr k231_275 hN ⟨by omega, by omega⟩ (fun z67 g_z67 e_z67 => ?_)
        unfold in32 at g_z67
        refine x_A k231_276 (fun _ => rfl) ?_
        refine x_A k231_277 (fun _ => rfl) ?_
        refine x_A k231_278 (fun _ => rfl) ?_
        refine x_iadd k231_279 ?_
        refine x_top (fun z68 e_z68 => ?_)
        refine x_scr k231_280 hN ⟨by omega, by omega⟩ (fun z69 g_z69 e_z69 => ?_)
        unfold in32 at g_z69
        refine x_A k231_281 (fun _ => rfl) ?_
        refine x_A k231_282 (fun _ => rfl) ?_
        refine x_A k231_283 (fun _ => rfl) ?_
        refine x_iadd k231_284 ?_
        refine x_top (fun z70 e_z70 => ?_)
        refine x_scr k231_285 hN ⟨by omega, by omega⟩ (fun z71 g_z71 e_z71 => ?_)
        unfold in32 at g_z71
        refine x_callV k231_286 (y := 95) (n := 3) (w0 := 0) (w1 := 3) (as := [vi z67, vi z69, vi z71]) (rest := []) (by decide +kernel) (q := 0) (nq := 12) (kq := 3) ⟨by decide, rfl⟩ rfl rfl rfl rfl (xe_mono (C_X10_tree_0 s hG i_J z67 (by first | exact x_rbe e_z67 g_z67 rfl rfl | exact x_rb g_z67 rfl rfl | exact ⟨by omega, by omega⟩) z69 (by first | exact x_rbe e_z69 g_z69 rfl rfl | exact x_rb g_z69 rfl rfl | exact ⟨by omega, by omega⟩) z71 (by first | exact x_rbe e_z71 g_z71 rfl rfl | exact x_rb g_z71 rfl rfl | exact ⟨by omega, by omega⟩)) ?_)
        rintro s73 v ⟨hG_s73, t_s73, z72, rfl, g_z72⟩
        have J_s73 : J s73 := J.fl i_J t_s73 (by decide +kernel)
        have T0_s73 : T0 s73 := T0.fl i_T0 t_s73 (by decide +kernel)
        show xe (some (N, xs)) 231 289 [(0, .ref 2000), (1, .ref 0), (2, .ref 256), (3, vi x3)] [vi z72] s73 295 10442 _
        refine x_A k231_289 (fun _ => rfl) ?_
        refine x_A k231_290 (fun _ => rfl) ?_
        refine x_A k231_291 (fun _ => rfl) ?_
        refine x_A k231_292 (fun _ => rfl) ?_
        refine x_A k231_293 (fun _ => rfl) ?_
        refine x_iadd k231_294 ?_
        refine x_top (fun z74 e_z74 => ?_)
        refine x_scr k231_295 hN ⟨by omega, by omega⟩ (fun z75 g_z75 e_z75 => ?_)
        unfold in32 at g_z75
        have q_z75 : z75 = z67 := by rw [e_z75, e_z67, show z74 = z66 by omega]
        refine x_A k231_296 (fun _ => rfl) ?_
        refine x_A k231_297 (fun _ => rfl) ?_
        refine x_A k231_298 (fun _ => rfl) ?_
        refine x_iadd k231_299 ?_
        refine x_top (fun z76 e_z76 => ?_)
        refine x_scr k231_300 hN ⟨by omega, by omega⟩ (fun z77 g_z77 e_z77 => ?_)
        unfold in32 at g_z77
        have q_z77 : z77 = z69 := by rw [e_z77, e_z69, show z76 = z68 by omega]
        refine x_A k231_301 (fun _ => rfl) ?_
        refine x_A k231_302 (fun _ => rfl) ?_
        refine x_A k231_303 (fun _ => rfl) ?_
        refine x_iadd k231_304 ?_
        refine x_top (fun z78 e_z78 => ?_)
        refine x_scr k231_305 hN ⟨by omega, by omega⟩ (fun z79 g_z79 e_z79 => ?_)
        unfold in32 at g_z79
        have q_z79 : z79 = z71 := by rw [e_z79, e_z71, show z78 = z70 by omega]
        refine x_callV k231_306 (y := 149) (n := 3) (w0 := 0) (w1 := 3) (as := [vi z75, vi z77, vi z79]) (rest := []) (by decide +kernel) (q := 256) (nq := 62) (kq := 15) ⟨by decide, rfl⟩ rfl rfl rfl rfl (xe_mono (C_X11_tree_256 s73 hG_s73 J_s73 z75 (by first | exact x_rbe e_z75 g_z75 rfl rfl | exact x_rb g_z75 rfl rfl | exact ⟨by omega, by omega⟩) z77 (by first | exact x_rbe e_z77 g_z77 rfl rfl | exact x_rb g_z77 rfl rfl | exact ⟨by omega, by omega⟩) z79 (by first | exact x_rbe e_z79 g_z79 rfl rfl | exact x_rb g_z79 rfl rfl | exact ⟨by omega, by omega⟩)) ?_)
        rintro s81 v ⟨hG_s81, t_s81, z80, rfl, g_z80⟩
        have J_s81 : J s81 := J.fl J_s73 t_s81 (by decide +kernel)
        have T0_s81 : T0 s81 := T0.fl T0_s73 t_s81 (by decide +kernel)
        show xe (some (N, xs)) 231 309 [(0, .ref 2000), (1, .ref 0), (2, .ref 256), (3, vi x3)] [vi z80] s81 295 10442 _
        refine x_A k231_309 (fun _ => rfl) ?_
        refine x_goto k231_310 (t := 1300) rfl ?_
        refine x_iinc k231_1300 (ls' := [(3, vi (x3 + 7)), (0, .ref 2000), (1, .ref 0), (2, .ref 256)]) rfl (by decide) rfl ?_
        refine x_goto k231_1303 (t := 18) rfl ?_
        refine x_ls (l := [(0, .ref 2000), (1, .ref 0), (2, .ref 256), (3, vi (x3 + 7))]) (show ([0, 1, 2, 3] : List Nat).Nodup from by decide +kernel) ⟨rfl, rfl, rfl, rfl, trivial⟩ ?_
        exact ih s81 (x3 + 7) hG_s81 trivial ⟨by omega, by omega⟩ J_s81 T0_s81  (by omega)
      · rw [c5]
        refine x_B k231_33 rfl (fun _ => rfl) (fun _ => rfl) (fun _ _ => rfl) ?_
        show xe (some (N, xs)) 231 313 [(0, .ref 2000), (1, .ref 0), (2, .ref 256), (3, vi x3)] [] s 295 10442 _
        refine x_A k231_313 (fun _ => rfl) ?_
        refine x_A k231_314 (fun _ => rfl) ?_
        refine x_A k231_315 (fun _ => rfl) ?_
        refine x_A k231_316 (fun _ => rfl) ?_
        refine x_iadd k231_317 ?_
        refine x_top (fun z82 e_z82 => ?_)
        refine x_scr k231_318 hN ⟨by omega, by omega⟩ (fun z83 g_z83 e_z83 => ?_)
        unfold in32 at g_z83
        refine x_A k231_319 (fun _ => rfl) ?_
        refine x_A k231_320 (fun _ => rfl) ?_
        refine x_A k231_321 (fun _ => rfl) ?_
        refine x_iadd k231_322 ?_
        refine x_top (fun z84 e_z84 => ?_)
        refine x_scr k231_323 hN ⟨by omega, by omega⟩ (fun z85 g_z85 e_z85 => ?_)
        unfold in32 at g_z85
        refine x_A k231_324 (fun _ => rfl) ?_
        refine x_A k231_325 (fun _ => rfl) ?_
        refine x_A k231_326 (fun _ => rfl) ?_
        refine x_iadd k231_327 ?_
        refine x_top (fun z86 e_z86 => ?_)
        refine x_scr k231_328 hN ⟨by omega, by omega⟩ (fun z87 g_z87 e_z87 => ?_)
        unfold in32 at g_z87
        refine x_callV k231_329 (y := 96) (n := 3) (w0 := 0) (w1 := 3) (as := [vi z83, vi z85, vi z87]) (rest := []) (by decide +kernel) (q := 0) (nq := 12) (kq := 3) ⟨by decide, rfl⟩ rfl rfl rfl rfl (xe_mono (C_X10_below_0 s hG z83 (by first | exact x_rbe e_z83 g_z83 rfl rfl | exact x_rb g_z83 rfl rfl | exact ⟨by omega, by omega⟩) z85 (by first | exact x_rbe e_z85 g_z85 rfl rfl | exact x_rb g_z85 rfl rfl | exact ⟨by omega, by omega⟩) z87 (by first | exact x_rbe e_z87 g_z87 rfl rfl | exact x_rb g_z87 rfl rfl | exact ⟨by omega, by omega⟩)) ?_)
        rintro s89 v ⟨-, t_s89, z88, rfl, g_z88⟩
        rw [t_s89.nil]
        show xe (some (N, xs)) 231 332 [(0, .ref 2000), (1, .ref 0), (2, .ref 256), (3, vi x3)] [vi z88] s 295 10442 _
        refine x_A k231_332 (fun _ => rfl) ?_
        refine x_A k231_333 (fun _ => rfl) ?_
        refine x_A k231_334 (fun _ => rfl) ?_
        refine x_A k231_335 (fun _ => rfl) ?_
        refine x_A k231_336 (fun _ => rfl) ?_
        refine x_iadd k231_337 ?_
        refine x_top (fun z90 e_z90 => ?_)
        refine x_scr k231_338 hN ⟨by omega, by omega⟩ (fun z91 g_z91 e_z91 => ?_)
        unfold in32 at g_z91
        have q_z91 : z91 = z83 := by rw [e_z91, e_z83, show z90 = z82 by omega]
        refine x_A k231_339 (fun _ => rfl) ?_
        refine x_A k231_340 (fun _ => rfl) ?_
        refine x_A k231_341 (fun _ => rfl) ?_
        refine x_iadd k231_342 ?_
        refine x_top (fun z92 e_z92 => ?_)
        refine x_scr k231_343 hN ⟨by omega, by omega⟩ (fun z93 g_z93 e_z93 => ?_)
        unfold in32 at g_z93
        have q_z93 : z93 = z85 := by rw [e_z93, e_z85, show z92 = z84 by omega]
        refine x_A k231_344 (fun _ => rfl) ?_
        refine x_A k231_345 (fun _ => rfl) ?_
        refine x_A k231_346 (fun _ => rfl) ?_
        refine x_iadd k231_347 ?_
        refine x_top (fun z94 e_z94 => ?_)
        refine x_scr k231_348 hN ⟨by omega, by omega⟩ (fun z95 g_z95 e_z95 => ?_)
        unfold in32 at g_z95
        have q_z95 : z95 = z87 := by rw [e_z95, e_z87, show z94 = z86 by omega]
        refine x_callV k231_349 (y := 150) (n := 3) (w0 := 0) (w1 := 3) (as := [vi z91, vi z93, vi z95]) (rest := []) (by decide +kernel) (q := 256) (nq := 62) (kq := 15) ⟨by decide, rfl⟩ rfl rfl rfl rfl (xe_mono (C_X11_below_256 s hG i_J z91 (by first | exact x_rbe e_z91 g_z91 rfl rfl | exact x_rb g_z91 rfl rfl | exact ⟨by omega, by omega⟩) z93 (by first | exact x_rbe e_z93 g_z93 rfl rfl | exact x_rb g_z93 rfl rfl | exact ⟨by omega, by omega⟩) z95 (by first | exact x_rbe e_z95 g_z95 rfl rfl | exact x_rb g_z95 rfl rfl | exact ⟨by omega, by omega⟩)) ?_)
        rintro s97 v ⟨-, t_s97, z96, rfl, g_z96⟩
        rw [t_s97.nil]
        show xe (some (N, xs)) 231 352 [(0, .ref 2000), (1, .ref 0), (2, .ref 256), (3, vi x3)] [vi z96] s 295 10442 _
        refine x_A k231_352 (fun _ => rfl) ?_
        refine x_goto k231_353 (t := 1300) rfl ?_
        refine x_iinc k231_1300 (ls' := [(3, vi (x3 + 7)), (0, .ref 2000), (1, .ref 0), (2, .ref 256)]) rfl (by decide) rfl ?_
        refine x_goto k231_1303 (t := 18) rfl ?_
        refine x_ls (l := [(0, .ref 2000), (1, .ref 0), (2, .ref 256), (3, vi (x3 + 7))]) (show ([0, 1, 2, 3] : List Nat).Nodup from by decide +kernel) ⟨rfl, rfl, rfl, rfl, trivial⟩ ?_
        exact ih s (x3 + 7) hG f ⟨by omega, by omega⟩ i_J i_T0  (by omega)
      · rw [c5]
        refine x_B k231_33 rfl (fun _ => rfl) (fun _ => rfl) (fun _ _ => rfl) ?_
        show xe (some (N, xs)) 231 356 [(0, .ref 2000), (1, .ref 0), (2, .ref 256), (3, vi x3)] [] s 295 10442 _
        refine x_A k231_356 (fun _ => rfl) ?_
        refine x_A k231_357 (fun _ => rfl) ?_
        refine x_A k231_358 (fun _ => rfl) ?_
        refine x_A k231_359 (fun _ => rfl) ?_
        refine x_iadd k231_360 ?_
        refine x_top (fun z98 e_z98 => ?_)
        refine x_scr k231_361 hN ⟨by omega, by omega⟩ (fun z99 g_z99 e_z99 => ?_)
        unfold in32 at g_z99
        refine x_A k231_362 (fun _ => rfl) ?_
        refine x_A k231_363 (fun _ => rfl) ?_
        refine x_A k231_364 (fun _ => rfl) ?_
        refine x_iadd k231_365 ?_
        refine x_top (fun z100 e_z100 => ?_)
        refine x_scr k231_366 hN ⟨by omega, by omega⟩ (fun z101 g_z101 e_z101 => ?_)
        unfold in32 at g_z101
        refine x_A k231_367 (fun _ => rfl) ?_
        refine x_A k231_368 (fun _ => rfl) ?_
        refine x_A k231_369 (fun _ => rfl) ?_
        refine x_iadd k231_370 ?_
        refine x_top (fun z102 e_z102 => ?_)
        refine x_scr k231_371 hN ⟨by omega, by omega⟩ (fun z103 g_z103 e_z103 => ?_)
        unfold in32 at g_z103
        refine x_callV k231_372 (y := 97) (n := 3) (w0 := 0) (w1 := 3) (as := [vi z99, vi z101, vi z103]) (rest := []) (by decide +kernel) (q := 0) (nq := 12) (kq := 3) ⟨by decide, rfl⟩ rfl rfl rfl rfl (xe_mono (C_X10_picture_0 s hG z99 (by first | exact x_rbe e_z99 g_z99 rfl rfl | exact x_rb g_z99 rfl rfl | exact ⟨by omega, by omega⟩) z101 (by first | exact x_rbe e_z101 g_z101 rfl rfl | exact x_rb g_z101 rfl rfl | exact ⟨by omega, by omega⟩) z103 (by first | exact x_rbe e_z103 g_z103 rfl rfl | exact x_rb g_z103 rfl rfl | exact ⟨by omega, by omega⟩)) ?_)
        rintro s105 v ⟨hG_s105, t_s105, z104, rfl, g_z104⟩
        have J_s105 : J s105 := J.fl i_J t_s105 (by decide +kernel)
        have T0_s105 : T0 s105 := T0.fl i_T0 t_s105 (by decide +kernel)
        show xe (some (N, xs)) 231 375 [(0, .ref 2000), (1, .ref 0), (2, .ref 256), (3, vi x3)] [vi z104] s105 295 10442 _
        refine x_A k231_375 (fun _ => rfl) ?_
        refine x_A k231_376 (fun _ => rfl) ?_
        refine x_A k231_377 (fun _ => rfl) ?_
        refine x_A k231_378 (fun _ => rfl) ?_
        refine x_A k231_379 (fun _ => rfl) ?_
        refine x_iadd k231_380 ?_
        refine x_top (fun z106 e_z106 => ?_)
        refine x_scr k231_381 hN ⟨by omega, by omega⟩ (fun z107 g_z107 e_z107 => ?_)
        unfold in32 at g_z107
        have q_z107 : z107 = z99 := by rw [e_z107, e_z99, show z106 = z98 by omega]
        refine x_A k231_382 (fun _ => rfl) ?_
        refine x_A k231_383 (fun _ => rfl) ?_
        refine x_A k231_384 (fun _ => rfl) ?_
        refine x_iadd k231_385 ?_
        refine x_top (fun z108 e_z108 => ?_)
        refine x_scr k231_386 hN ⟨by omega, by omega⟩ (fun z109 g_z109 e_z109 => ?_)
        unfold in32 at g_z109
        have q_z109 : z109 = z101 := by rw [e_z109, e_z101, show z108 = z100 by omega]
        refine x_A k231_387 (fun _ => rfl) ?_
        refine x_A k231_388 (fun _ => rfl) ?_
        refine x_A k231_389 (fun _ => rfl) ?_
        refine x_iadd k231_390 ?_
        refine x_top (fun z110 e_z110 => ?_)
        refine x_scr k231_391 hN ⟨by omega, by omega⟩ (fun z111 g_z111 e_z111 => ?_)
        unfold in32 at g_z111
        have q_z111 : z111 = z103 := by rw [e_z111, e_z103, show z110 = z102 by omega]
        refine x_callV k231_392 (y := 154) (n := 3) (w0 := 0) (w1 := 3) (as := [vi z107, vi z109, vi z111]) (rest := []) (by decide +kernel) (q := 256) (nq := 62) (kq := 15) ⟨by decide, rfl⟩ rfl rfl rfl rfl (xe_mono (D_X11_picture_256 s105 hG_s105 z107 (by first | exact x_rbe e_z107 g_z107 rfl rfl | exact x_rb g_z107 rfl rfl | exact ⟨by omega, by omega⟩) z109 (by first | exact x_rbe e_z109 g_z109 rfl rfl | exact x_rb g_z109 rfl rfl | exact ⟨by omega, by omega⟩) z111 (by first | exact x_rbe e_z111 g_z111 rfl rfl | exact x_rb g_z111 rfl rfl | exact ⟨by omega, by omega⟩) J_s105) ?_)
        rintro s113 v ⟨hG_s113, t_s113, z112, rfl, g_z112, J_s113⟩
        have T0_s113 : T0 s113 := T0.fl T0_s105 t_s113 (by decide +kernel)
        show xe (some (N, xs)) 231 395 [(0, .ref 2000), (1, .ref 0), (2, .ref 256), (3, vi x3)] [vi z112] s113 295 10442 _
        refine x_A k231_395 (fun _ => rfl) ?_
        refine x_goto k231_396 (t := 1300) rfl ?_
        refine x_iinc k231_1300 (ls' := [(3, vi (x3 + 7)), (0, .ref 2000), (1, .ref 0), (2, .ref 256)]) rfl (by decide) rfl ?_
        refine x_goto k231_1303 (t := 18) rfl ?_
        refine x_ls (l := [(0, .ref 2000), (1, .ref 0), (2, .ref 256), (3, vi (x3 + 7))]) (show ([0, 1, 2, 3] : List Nat).Nodup from by decide +kernel) ⟨rfl, rfl, rfl, rfl, trivial⟩ ?_
        exact ih s113 (x3 + 7) hG_s113 trivial ⟨by omega, by omega⟩ J_s113 T0_s113  (by omega)
      · rw [c5]
        refine x_B k231_33 rfl (fun _ => rfl) (fun _ => rfl) (fun _ _ => rfl) ?_
        show xe (some (N, xs)) 231 399 [(0, .ref 2000), (1, .ref 0), (2, .ref 256), (3, vi x3)] [] s 295 10442 _
        refine x_A k231_399 (fun _ => rfl) ?_
        refine x_A k231_400 (fun _ => rfl) ?_
        refine x_A k231_401 (fun _ => rfl) ?_
        refine x_A k231_402 (fun _ => rfl) ?_
        refine x_iadd k231_403 ?_
        refine x_top (fun z114 e_z114 => ?_)
        refine x_scr k231_404 hN ⟨by omega, by omega⟩ (fun z115 g_z115 e_z115 => ?_)
        unfold in32 at g_z115
        refine x_A k231_405 (fun _ => rfl) ?_
        refine x_A k231_406 (fun _ => rfl) ?_
        refine x_A k231_407 (fun _ => rfl) ?_
        refine x_iadd k231_408 ?_
        refine x_top (fun z116 e_z116 => ?_)
        refine x_scr k231_409 hN ⟨by omega, by omega⟩ (fun z117 g_z117 e_z117 => ?_)
        unfold in32 at g_z117
        refine x_A k231_410 (fun _ => rfl) ?_
        refine x_A k231_411 (fun _ => rfl) ?_
        refine x_A k231_412 (fun _ => rfl) ?_
        refine x_iadd k231_413 ?_
        refine x_top (fun z118 e_z118 => ?_)
        refine x_scr k231_414 hN ⟨by omega, by omega⟩ (fun z119 g_z119 e_z119 => ?_)
        unfold in32 at g_z119
        refine x_A k231_415 (fun _ => rfl) ?_
        refine x_A k231_416 (fun _ => rfl) ?_
        refine x_A k231_417 (fun _ => rfl) ?_
        refine x_iadd k231_418 ?_
        refine x_top (fun z120 e_z120 => ?_)
        refine x_scr k231_419 hN ⟨by omega, by omega⟩ (fun z121 g_z121 e_z121 => ?_)
        unfold in32 at g_z121
        refine x_callV k231_420 (y := 98) (n := 4) (w0 := 0) (w1 := 4) (as := [vi z115, vi z117, vi z119, vi z121]) (rest := []) (by decide +kernel) (q := 0) (nq := 12) (kq := 3) ⟨by decide, rfl⟩ rfl rfl rfl rfl (xe_mono (C_X10_give_0 s hG z115 (by first | exact x_rbe e_z115 g_z115 rfl rfl | exact x_rb g_z115 rfl rfl | exact ⟨by omega, by omega⟩) z117 (by first | exact x_rbe e_z117 g_z117 rfl rfl | exact x_rb g_z117 rfl rfl | exact ⟨by omega, by omega⟩) z119 (by first | exact x_rbe e_z119 g_z119 rfl rfl | exact x_rb g_z119 rfl rfl | exact ⟨by omega, by omega⟩) z121 (by first | exact x_rbe e_z121 g_z121 rfl rfl | exact x_rb g_z121 rfl rfl | exact ⟨by omega, by omega⟩)) ?_)
        rintro s123 v ⟨hG_s123, t_s123, z122, rfl, g_z122⟩
        have J_s123 : J s123 := J.fl i_J t_s123 (by decide +kernel)
        have T0_s123 : T0 s123 := T0.fl i_T0 t_s123 (by decide +kernel)
        show xe (some (N, xs)) 231 423 [(0, .ref 2000), (1, .ref 0), (2, .ref 256), (3, vi x3)] [vi z122] s123 295 10442 _
        refine x_A k231_423 (fun _ => rfl) ?_
        refine x_A k231_424 (fun _ => rfl) ?_
        refine x_A k231_425 (fun _ => rfl) ?_
        refine x_A k231_426 (fun _ => rfl) ?_
        refine x_A k231_427 (fun _ => rfl) ?_
        refine x_iadd k231_428 ?_
        refine x_top (fun z124 e_z124 => ?_)
        refine x_scr k231_429 hN ⟨by omega, by omega⟩ (fun z125 g_z125 e_z125 => ?_)
        unfold in32 at g_z125
        have q_z125 : z125 = z115 := by rw [e_z125, e_z115, show z124 = z114 by omega]
        refine x_A k231_430 (fun _ => rfl) ?_
        refine x_A k231_431 (fun _ => rfl) ?_
        refine x_A k231_432 (fun _ => rfl) ?_
        refine x_iadd k231_433 ?_
        refine x_top (fun z126 e_z126 => ?_)
        refine x_scr k231_434 hN ⟨by omega, by omega⟩ (fun z127 g_z127 e_z127 => ?_)
        unfold in32 at g_z127
        have q_z127 : z127 = z117 := by rw [e_z127, e_z117, show z126 = z116 by omega]
        refine x_A k231_435 (fun _ => rfl) ?_
        refine x_A k231_436 (fun _ => rfl) ?_
        refine x_A k231_437 (fun _ => rfl) ?_
        refine x_iadd k231_438 ?_
        refine x_top (fun z128 e_z128 => ?_)
        refine x_scr k231_439 hN ⟨by omega, by omega⟩ (fun z129 g_z129 e_z129 => ?_)
        unfold in32 at g_z129
        have q_z129 : z129 = z119 := by rw [e_z129, e_z119, show z128 = z118 by omega]
        refine x_A k231_440 (fun _ => rfl) ?_
        refine x_A k231_441 (fun _ => rfl) ?_
        refine x_A k231_442 (fun _ => rfl) ?_
        refine x_iadd k231_443 ?_
        refine x_top (fun z130 e_z130 => ?_)
        refine x_scr k231_444 hN ⟨by omega, by omega⟩ (fun z131 g_z131 e_z131 => ?_)
        unfold in32 at g_z131
        have q_z131 : z131 = z121 := by rw [e_z131, e_z121, show z130 = z120 by omega]
        refine x_callV k231_445 (y := 155) (n := 4) (w0 := 0) (w1 := 4) (as := [vi z125, vi z127, vi z129, vi z131]) (rest := []) (by decide +kernel) (q := 256) (nq := 62) (kq := 15) ⟨by decide, rfl⟩ rfl rfl rfl rfl (xe_mono (C_X11_give_256 s123 hG_s123 z125 (by first | exact x_rbe e_z125 g_z125 rfl rfl | exact x_rb g_z125 rfl rfl | exact ⟨by omega, by omega⟩) z127 (by first | exact x_rbe e_z127 g_z127 rfl rfl | exact x_rb g_z127 rfl rfl | exact ⟨by omega, by omega⟩) z129 (by first | exact x_rbe e_z129 g_z129 rfl rfl | exact x_rb g_z129 rfl rfl | exact ⟨by omega, by omega⟩) z131 (by first | exact x_rbe e_z131 g_z131 rfl rfl | exact x_rb g_z131 rfl rfl | exact ⟨by omega, by omega⟩)) ?_)
        rintro s133 v ⟨hG_s133, t_s133, z132, rfl, g_z132⟩
        have J_s133 : J s133 := J.fl J_s123 t_s133 (by decide +kernel)
        have T0_s133 : T0 s133 := T0.fl T0_s123 t_s133 (by decide +kernel)
        show xe (some (N, xs)) 231 448 [(0, .ref 2000), (1, .ref 0), (2, .ref 256), (3, vi x3)] [vi z132] s133 295 10442 _
        refine x_A k231_448 (fun _ => rfl) ?_
        refine x_goto k231_449 (t := 1300) rfl ?_
        refine x_iinc k231_1300 (ls' := [(3, vi (x3 + 7)), (0, .ref 2000), (1, .ref 0), (2, .ref 256)]) rfl (by decide) rfl ?_
        refine x_goto k231_1303 (t := 18) rfl ?_
        refine x_ls (l := [(0, .ref 2000), (1, .ref 0), (2, .ref 256), (3, vi (x3 + 7))]) (show ([0, 1, 2, 3] : List Nat).Nodup from by decide +kernel) ⟨rfl, rfl, rfl, rfl, trivial⟩ ?_
        exact ih s133 (x3 + 7) hG_s133 trivial ⟨by omega, by omega⟩ J_s133 T0_s133  (by omega)
      · rw [c5]
        refine x_B k231_33 rfl (fun _ => rfl) (fun _ => rfl) (fun _ _ => rfl) ?_
        show xe (some (N, xs)) 231 452 [(0, .ref 2000), (1, .ref 0), (2, .ref 256), (3, vi x3)] [] s 295 10442 _
        refine x_A k231_452 (fun _ => rfl) ?_
        refine x_A k231_453 (fun _ => rfl) ?_
        refine x_A k231_454 (fun _ => rfl) ?_
        refine x_A k231_455 (fun _ => rfl) ?_
        refine x_iadd k231_456 ?_
        refine x_top (fun z134 e_z134 => ?_)
        refine x_scr k231_457 hN ⟨by omega, by omega⟩ (fun z135 g_z135 e_z135 => ?_)
        unfold in32 at g_z135
        refine x_A k231_458 (fun _ => rfl) ?_
        refine x_A k231_459 (fun _ => rfl) ?_
        refine x_A k231_460 (fun _ => rfl) ?_
        refine x_iadd k231_461 ?_
        refine x_top (fun z136 e_z136 => ?_)
        refine x_scr k231_462 hN ⟨by omega, by omega⟩ (fun z137 g_z137 e_z137 => ?_)
        unfold in32 at g_z137
        refine x_callV k231_463 (y := 99) (n := 2) (w0 := 0) (w1 := 2) (as := [vi z135, vi z137]) (rest := []) (by decide +kernel) (q := 0) (nq := 12) (kq := 3) ⟨by decide, rfl⟩ rfl rfl rfl rfl (xe_mono (C_X10_doubt_0 s hG z135 (by first | exact x_rbe e_z135 g_z135 rfl rfl | exact x_rb g_z135 rfl rfl | exact ⟨by omega, by omega⟩) z137 (by first | exact x_rbe e_z137 g_z137 rfl rfl | exact x_rb g_z137 rfl rfl | exact ⟨by omega, by omega⟩)) ?_)
        rintro s139 v ⟨hG_s139, t_s139, z138, rfl, g_z138⟩
        have J_s139 : J s139 := J.fl i_J t_s139 (by decide +kernel)
        have T0_s139 : T0 s139 := T0.fl i_T0 t_s139 (by decide +kernel)
        show xe (some (N, xs)) 231 466 [(0, .ref 2000), (1, .ref 0), (2, .ref 256), (3, vi x3)] [vi z138] s139 295 10442 _
        refine x_A k231_466 (fun _ => rfl) ?_
        refine x_A k231_467 (fun _ => rfl) ?_
        refine x_A k231_468 (fun _ => rfl) ?_
        refine x_A k231_469 (fun _ => rfl) ?_
        refine x_A k231_470 (fun _ => rfl) ?_
        refine x_iadd k231_471 ?_
        refine x_top (fun z140 e_z140 => ?_)
        refine x_scr k231_472 hN ⟨by omega, by omega⟩ (fun z141 g_z141 e_z141 => ?_)
        unfold in32 at g_z141
        have q_z141 : z141 = z135 := by rw [e_z141, e_z135, show z140 = z134 by omega]
        refine x_A k231_473 (fun _ => rfl) ?_
        refine x_A k231_474 (fun _ => rfl) ?_
        refine x_A k231_475 (fun _ => rfl) ?_
        refine x_iadd k231_476 ?_
        refine x_top (fun z142 e_z142 => ?_)
        refine x_scr k231_477 hN ⟨by omega, by omega⟩ (fun z143 g_z143 e_z143 => ?_)
        unfold in32 at g_z143
        have q_z143 : z143 = z137 := by rw [e_z143, e_z137, show z142 = z136 by omega]
        refine x_callV k231_478 (y := 157) (n := 2) (w0 := 0) (w1 := 2) (as := [vi z141, vi z143]) (rest := []) (by decide +kernel) (q := 256) (nq := 62) (kq := 15) ⟨by decide, rfl⟩ rfl rfl rfl rfl (xe_mono (C_X11_doubt_256 s139 hG_s139 z141 (by first | exact x_rbe e_z141 g_z141 rfl rfl | exact x_rb g_z141 rfl rfl | exact ⟨by omega, by omega⟩) z143 (by first | exact x_rbe e_z143 g_z143 rfl rfl | exact x_rb g_z143 rfl rfl | exact ⟨by omega, by omega⟩)) ?_)
        rintro s145 v ⟨hG_s145, t_s145, z144, rfl, g_z144⟩
        have J_s145 : J s145 := J.fl J_s139 t_s145 (by decide +kernel)
        have T0_s145 : T0 s145 := T0.fl T0_s139 t_s145 (by decide +kernel)
        show xe (some (N, xs)) 231 481 [(0, .ref 2000), (1, .ref 0), (2, .ref 256), (3, vi x3)] [vi z144] s145 295 10442 _
        refine x_A k231_481 (fun _ => rfl) ?_
        refine x_goto k231_482 (t := 1300) rfl ?_
        refine x_iinc k231_1300 (ls' := [(3, vi (x3 + 7)), (0, .ref 2000), (1, .ref 0), (2, .ref 256)]) rfl (by decide) rfl ?_
        refine x_goto k231_1303 (t := 18) rfl ?_
        refine x_ls (l := [(0, .ref 2000), (1, .ref 0), (2, .ref 256), (3, vi (x3 + 7))]) (show ([0, 1, 2, 3] : List Nat).Nodup from by decide +kernel) ⟨rfl, rfl, rfl, rfl, trivial⟩ ?_
        exact ih s145 (x3 + 7) hG_s145 trivial ⟨by omega, by omega⟩ J_s145 T0_s145  (by omega)
      · rw [c5]
        refine x_B k231_33 rfl (fun _ => rfl) (fun _ => rfl) (fun _ _ => rfl) ?_
        show xe (some (N, xs)) 231 485 [(0, .ref 2000), (1, .ref 0), (2, .ref 256), (3, vi x3)] [] s 295 10442 _
        refine x_A k231_485 (fun _ => rfl) ?_
        refine x_A k231_486 (fun _ => rfl) ?_
        refine x_A k231_487 (fun _ => rfl) ?_
        refine x_A k231_488 (fun _ => rfl) ?_
        refine x_iadd k231_489 ?_
        refine x_top (fun z146 e_z146 => ?_)
        refine x_scr k231_490 hN ⟨by omega, by omega⟩ (fun z147 g_z147 e_z147 => ?_)
        unfold in32 at g_z147
        refine x_A k231_491 (fun _ => rfl) ?_
        refine x_A k231_492 (fun _ => rfl) ?_
        refine x_A k231_493 (fun _ => rfl) ?_
        refine x_iadd k231_494 ?_
        refine x_top (fun z148 e_z148 => ?_)
        refine x_scr k231_495 hN ⟨by omega, by omega⟩ (fun z149 g_z149 e_z149 => ?_)
        unfold in32 at g_z149
        refine x_callV k231_496 (y := 100) (n := 2) (w0 := 0) (w1 := 2) (as := [vi z147, vi z149]) (rest := []) (by decide +kernel) (q := 0) (nq := 12) (kq := 3) ⟨by decide, rfl⟩ rfl rfl rfl rfl (xe_mono (C_X10_told_0 s hG i_J z147 (by first | exact x_rbe e_z147 g_z147 rfl rfl | exact x_rb g_z147 rfl rfl | exact ⟨by omega, by omega⟩) z149 (by first | exact x_rbe e_z149 g_z149 rfl rfl | exact x_rb g_z149 rfl rfl | exact ⟨by omega, by omega⟩)) ?_)
        rintro s151 v ⟨hG_s151, t_s151, z150, rfl, g_z150⟩
        have J_s151 : J s151 := J.fl i_J t_s151 (by decide +kernel)
        have T0_s151 : T0 s151 := T0.fl i_T0 t_s151 (by decide +kernel)
        show xe (some (N, xs)) 231 499 [(0, .ref 2000), (1, .ref 0), (2, .ref 256), (3, vi x3)] [vi z150] s151 295 10442 _
        refine x_A k231_499 (fun _ => rfl) ?_
        refine x_A k231_500 (fun _ => rfl) ?_
        refine x_A k231_501 (fun _ => rfl) ?_
        refine x_A k231_502 (fun _ => rfl) ?_
        refine x_A k231_503 (fun _ => rfl) ?_
        refine x_iadd k231_504 ?_
        refine x_top (fun z152 e_z152 => ?_)
        refine x_scr k231_505 hN ⟨by omega, by omega⟩ (fun z153 g_z153 e_z153 => ?_)
        unfold in32 at g_z153
        have q_z153 : z153 = z147 := by rw [e_z153, e_z147, show z152 = z146 by omega]
        refine x_A k231_506 (fun _ => rfl) ?_
        refine x_A k231_507 (fun _ => rfl) ?_
        refine x_A k231_508 (fun _ => rfl) ?_
        refine x_iadd k231_509 ?_
        refine x_top (fun z154 e_z154 => ?_)
        refine x_scr k231_510 hN ⟨by omega, by omega⟩ (fun z155 g_z155 e_z155 => ?_)
        unfold in32 at g_z155
        have q_z155 : z155 = z149 := by rw [e_z155, e_z149, show z154 = z148 by omega]
        refine x_callV k231_511 (y := 158) (n := 2) (w0 := 0) (w1 := 2) (as := [vi z153, vi z155]) (rest := []) (by decide +kernel) (q := 256) (nq := 62) (kq := 15) ⟨by decide, rfl⟩ rfl rfl rfl rfl (xe_mono (C_X11_told_256 s151 hG_s151 J_s151 z153 (by first | exact x_rbe e_z153 g_z153 rfl rfl | exact x_rb g_z153 rfl rfl | exact ⟨by omega, by omega⟩) z155 (by first | exact x_rbe e_z155 g_z155 rfl rfl | exact x_rb g_z155 rfl rfl | exact ⟨by omega, by omega⟩)) ?_)
        rintro s157 v ⟨hG_s157, t_s157, z156, rfl, g_z156⟩
        have J_s157 : J s157 := J.fl J_s151 t_s157 (by decide +kernel)
        have T0_s157 : T0 s157 := T0.fl T0_s151 t_s157 (by decide +kernel)
        show xe (some (N, xs)) 231 514 [(0, .ref 2000), (1, .ref 0), (2, .ref 256), (3, vi x3)] [vi z156] s157 295 10442 _
        refine x_A k231_514 (fun _ => rfl) ?_
        refine x_goto k231_515 (t := 1300) rfl ?_
        refine x_iinc k231_1300 (ls' := [(3, vi (x3 + 7)), (0, .ref 2000), (1, .ref 0), (2, .ref 256)]) rfl (by decide) rfl ?_
        refine x_goto k231_1303 (t := 18) rfl ?_
        refine x_ls (l := [(0, .ref 2000), (1, .ref 0), (2, .ref 256), (3, vi (x3 + 7))]) (show ([0, 1, 2, 3] : List Nat).Nodup from by decide +kernel) ⟨rfl, rfl, rfl, rfl, trivial⟩ ?_
        exact ih s157 (x3 + 7) hG_s157 trivial ⟨by omega, by omega⟩ J_s157 T0_s157  (by omega)
      · rw [c5]
        refine x_B k231_33 rfl (fun _ => rfl) (fun _ => rfl) (fun _ _ => rfl) ?_
        show xe (some (N, xs)) 231 518 [(0, .ref 2000), (1, .ref 0), (2, .ref 256), (3, vi x3)] [] s 295 10442 _
        refine x_A k231_518 (fun _ => rfl) ?_
        refine x_A k231_519 (fun _ => rfl) ?_
        refine x_A k231_520 (fun _ => rfl) ?_
        refine x_A k231_521 (fun _ => rfl) ?_
        refine x_iadd k231_522 ?_
        refine x_top (fun z158 e_z158 => ?_)
        refine x_scr k231_523 hN ⟨by omega, by omega⟩ (fun z159 g_z159 e_z159 => ?_)
        unfold in32 at g_z159
        refine x_A k231_524 (fun _ => rfl) ?_
        refine x_A k231_525 (fun _ => rfl) ?_
        refine x_A k231_526 (fun _ => rfl) ?_
        refine x_iadd k231_527 ?_
        refine x_top (fun z160 e_z160 => ?_)
        refine x_scr k231_528 hN ⟨by omega, by omega⟩ (fun z161 g_z161 e_z161 => ?_)
        unfold in32 at g_z161
        refine x_A k231_529 (fun _ => rfl) ?_
        refine x_A k231_530 (fun _ => rfl) ?_
        refine x_A k231_531 (fun _ => rfl) ?_
        refine x_iadd k231_532 ?_
        refine x_top (fun z162 e_z162 => ?_)
        refine x_scr k231_533 hN ⟨by omega, by omega⟩ (fun z163 g_z163 e_z163 => ?_)
        unfold in32 at g_z163
        refine x_callV k231_534 (y := 101) (n := 3) (w0 := 0) (w1 := 3) (as := [vi z159, vi z161, vi z163]) (rest := []) (by decide +kernel) (q := 0) (nq := 12) (kq := 3) ⟨by decide, rfl⟩ rfl rfl rfl rfl (xe_mono (C_X10_means_0 s hG i_J z159 (by first | exact x_rbe e_z159 g_z159 rfl rfl | exact x_rb g_z159 rfl rfl | exact ⟨by omega, by omega⟩) z161 (by first | exact x_rbe e_z161 g_z161 rfl rfl | exact x_rb g_z161 rfl rfl | exact ⟨by omega, by omega⟩) z163 (by first | exact x_rbe e_z163 g_z163 rfl rfl | exact x_rb g_z163 rfl rfl | exact ⟨by omega, by omega⟩)) ?_)
        rintro s165 v ⟨hG_s165, t_s165, z164, rfl, g_z164⟩
        have J_s165 : J s165 := J.fl i_J t_s165 (by decide +kernel)
        have T0_s165 : T0 s165 := T0.fl i_T0 t_s165 (by decide +kernel)
        show xe (some (N, xs)) 231 537 [(0, .ref 2000), (1, .ref 0), (2, .ref 256), (3, vi x3)] [vi z164] s165 295 10442 _
        refine x_A k231_537 (fun _ => rfl) ?_
        refine x_A k231_538 (fun _ => rfl) ?_
        refine x_A k231_539 (fun _ => rfl) ?_
        refine x_A k231_540 (fun _ => rfl) ?_
        refine x_A k231_541 (fun _ => rfl) ?_
        refine x_iadd k231_542 ?_
        refine x_top (fun z166 e_z166 => ?_)
        refine x_scr k231_543 hN ⟨by omega, by omega⟩ (fun z167 g_z167 e_z167 => ?_)
        unfold in32 at g_z167
        have q_z167 : z167 = z159 := by rw [e_z167, e_z159, show z166 = z158 by omega]
        refine x_A k231_544 (fun _ => rfl) ?_
        refine x_A k231_545 (fun _ => rfl) ?_
        refine x_A k231_546 (fun _ => rfl) ?_
        refine x_iadd k231_547 ?_
        refine x_top (fun z168 e_z168 => ?_)
        refine x_scr k231_548 hN ⟨by omega, by omega⟩ (fun z169 g_z169 e_z169 => ?_)
        unfold in32 at g_z169
        have q_z169 : z169 = z161 := by rw [e_z169, e_z161, show z168 = z160 by omega]
        refine x_A k231_549 (fun _ => rfl) ?_
        refine x_A k231_550 (fun _ => rfl) ?_
        refine x_A k231_551 (fun _ => rfl) ?_
        refine x_iadd k231_552 ?_
        refine x_top (fun z170 e_z170 => ?_)
        refine x_scr k231_553 hN ⟨by omega, by omega⟩ (fun z171 g_z171 e_z171 => ?_)
        unfold in32 at g_z171
        have q_z171 : z171 = z163 := by rw [e_z171, e_z163, show z170 = z162 by omega]
        refine x_callV k231_554 (y := 172) (n := 3) (w0 := 0) (w1 := 3) (as := [vi z167, vi z169, vi z171]) (rest := []) (by decide +kernel) (q := 256) (nq := 62) (kq := 15) ⟨by decide, rfl⟩ rfl rfl rfl rfl (xe_mono (C_X11_means_256 s165 hG_s165 J_s165 z167 (by first | exact x_rbe e_z167 g_z167 rfl rfl | exact x_rb g_z167 rfl rfl | exact ⟨by omega, by omega⟩) z169 (by first | exact x_rbe e_z169 g_z169 rfl rfl | exact x_rb g_z169 rfl rfl | exact ⟨by omega, by omega⟩) z171 (by first | exact x_rbe e_z171 g_z171 rfl rfl | exact x_rb g_z171 rfl rfl | exact ⟨by omega, by omega⟩)) ?_)
        rintro s173 v ⟨hG_s173, t_s173, z172, rfl, g_z172⟩
        have J_s173 : J s173 := J.fl J_s165 t_s173 (by decide +kernel)
        have T0_s173 : T0 s173 := T0.fl T0_s165 t_s173 (by decide +kernel)
        show xe (some (N, xs)) 231 557 [(0, .ref 2000), (1, .ref 0), (2, .ref 256), (3, vi x3)] [vi z172] s173 295 10442 _
        refine x_A k231_557 (fun _ => rfl) ?_
        refine x_goto k231_558 (t := 1300) rfl ?_
        refine x_iinc k231_1300 (ls' := [(3, vi (x3 + 7)), (0, .ref 2000), (1, .ref 0), (2, .ref 256)]) rfl (by decide) rfl ?_
        refine x_goto k231_1303 (t := 18) rfl ?_
        refine x_ls (l := [(0, .ref 2000), (1, .ref 0), (2, .ref 256), (3, vi (x3 + 7))]) (show ([0, 1, 2, 3] : List Nat).Nodup from by decide +kernel) ⟨rfl, rfl, rfl, rfl, trivial⟩ ?_
        exact ih s173 (x3 + 7) hG_s173 trivial ⟨by omega, by omega⟩ J_s173 T0_s173  (by omega)
      · rw [c5]
        refine x_B k231_33 rfl (fun _ => rfl) (fun _ => rfl) (fun _ _ => rfl) ?_
        show xe (some (N, xs)) 231 561 [(0, .ref 2000), (1, .ref 0), (2, .ref 256), (3, vi x3)] [] s 295 10442 _
        refine x_A k231_561 (fun _ => rfl) ?_
        refine x_A k231_562 (fun _ => rfl) ?_
        refine x_A k231_563 (fun _ => rfl) ?_
        refine x_A k231_564 (fun _ => rfl) ?_
        refine x_iadd k231_565 ?_
        refine x_top (fun z174 e_z174 => ?_)
        refine x_scr k231_566 hN ⟨by omega, by omega⟩ (fun z175 g_z175 e_z175 => ?_)
        unfold in32 at g_z175
        refine x_A k231_567 (fun _ => rfl) ?_
        refine x_A k231_568 (fun _ => rfl) ?_
        refine x_A k231_569 (fun _ => rfl) ?_
        refine x_iadd k231_570 ?_
        refine x_top (fun z176 e_z176 => ?_)
        refine x_scr k231_571 hN ⟨by omega, by omega⟩ (fun z177 g_z177 e_z177 => ?_)
        unfold in32 at g_z177
        refine x_A k231_572 (fun _ => rfl) ?_
        refine x_A k231_573 (fun _ => rfl) ?_
        refine x_A k231_574 (fun _ => rfl) ?_
        refine x_iadd k231_575 ?_
        refine x_top (fun z178 e_z178 => ?_)
        refine x_scr k231_576 hN ⟨by omega, by omega⟩ (fun z179 g_z179 e_z179 => ?_)
        unfold in32 at g_z179
        refine x_callV k231_577 (y := 102) (n := 3) (w0 := 0) (w1 := 3) (as := [vi z175, vi z177, vi z179]) (rest := []) (by decide +kernel) (q := 0) (nq := 12) (kq := 3) ⟨by decide, rfl⟩ rfl rfl rfl rfl (xe_mono (C_X10_led_0 s hG i_J z175 (by first | exact x_rbe e_z175 g_z175 rfl rfl | exact x_rb g_z175 rfl rfl | exact ⟨by omega, by omega⟩) z177 (by first | exact x_rbe e_z177 g_z177 rfl rfl | exact x_rb g_z177 rfl rfl | exact ⟨by omega, by omega⟩) z179 (by first | exact x_rbe e_z179 g_z179 rfl rfl | exact x_rb g_z179 rfl rfl | exact ⟨by omega, by omega⟩)) ?_)
        rintro s181 v ⟨hG_s181, t_s181, z180, rfl, g_z180⟩
        have J_s181 : J s181 := J.fl i_J t_s181 (by decide +kernel)
        have T0_s181 : T0 s181 := T0.fl i_T0 t_s181 (by decide +kernel)
        show xe (some (N, xs)) 231 580 [(0, .ref 2000), (1, .ref 0), (2, .ref 256), (3, vi x3)] [vi z180] s181 295 10442 _
        refine x_A k231_580 (fun _ => rfl) ?_
        refine x_A k231_581 (fun _ => rfl) ?_
        refine x_A k231_582 (fun _ => rfl) ?_
        refine x_A k231_583 (fun _ => rfl) ?_
        refine x_A k231_584 (fun _ => rfl) ?_
        refine x_iadd k231_585 ?_
        refine x_top (fun z182 e_z182 => ?_)
        refine x_scr k231_586 hN ⟨by omega, by omega⟩ (fun z183 g_z183 e_z183 => ?_)
        unfold in32 at g_z183
        have q_z183 : z183 = z175 := by rw [e_z183, e_z175, show z182 = z174 by omega]
        refine x_A k231_587 (fun _ => rfl) ?_
        refine x_A k231_588 (fun _ => rfl) ?_
        refine x_A k231_589 (fun _ => rfl) ?_
        refine x_iadd k231_590 ?_
        refine x_top (fun z184 e_z184 => ?_)
        refine x_scr k231_591 hN ⟨by omega, by omega⟩ (fun z185 g_z185 e_z185 => ?_)
        unfold in32 at g_z185
        have q_z185 : z185 = z177 := by rw [e_z185, e_z177, show z184 = z176 by omega]
        refine x_A k231_592 (fun _ => rfl) ?_
        refine x_A k231_593 (fun _ => rfl) ?_
        refine x_A k231_594 (fun _ => rfl) ?_
        refine x_iadd k231_595 ?_
        refine x_top (fun z186 e_z186 => ?_)
        refine x_scr k231_596 hN ⟨by omega, by omega⟩ (fun z187 g_z187 e_z187 => ?_)
        unfold in32 at g_z187
        have q_z187 : z187 = z179 := by rw [e_z187, e_z179, show z186 = z178 by omega]
        refine x_callV k231_597 (y := 173) (n := 3) (w0 := 0) (w1 := 3) (as := [vi z183, vi z185, vi z187]) (rest := []) (by decide +kernel) (q := 256) (nq := 62) (kq := 15) ⟨by decide, rfl⟩ rfl rfl rfl rfl (xe_mono (C_X11_led_256 s181 hG_s181 J_s181 z183 (by first | exact x_rbe e_z183 g_z183 rfl rfl | exact x_rb g_z183 rfl rfl | exact ⟨by omega, by omega⟩) z185 (by first | exact x_rbe e_z185 g_z185 rfl rfl | exact x_rb g_z185 rfl rfl | exact ⟨by omega, by omega⟩) z187 (by first | exact x_rbe e_z187 g_z187 rfl rfl | exact x_rb g_z187 rfl rfl | exact ⟨by omega, by omega⟩)) ?_)
        rintro s189 v ⟨hG_s189, t_s189, z188, rfl, g_z188⟩
        have J_s189 : J s189 := J.fl J_s181 t_s189 (by decide +kernel)
        have T0_s189 : T0 s189 := T0.fl T0_s181 t_s189 (by decide +kernel)
        show xe (some (N, xs)) 231 600 [(0, .ref 2000), (1, .ref 0), (2, .ref 256), (3, vi x3)] [vi z188] s189 295 10442 _
        refine x_A k231_600 (fun _ => rfl) ?_
        refine x_goto k231_601 (t := 1300) rfl ?_
        refine x_iinc k231_1300 (ls' := [(3, vi (x3 + 7)), (0, .ref 2000), (1, .ref 0), (2, .ref 256)]) rfl (by decide) rfl ?_
        refine x_goto k231_1303 (t := 18) rfl ?_
        refine x_ls (l := [(0, .ref 2000), (1, .ref 0), (2, .ref 256), (3, vi (x3 + 7))]) (show ([0, 1, 2, 3] : List Nat).Nodup from by decide +kernel) ⟨rfl, rfl, rfl, rfl, trivial⟩ ?_
        exact ih s189 (x3 + 7) hG_s189 trivial ⟨by omega, by omega⟩ J_s189 T0_s189  (by omega)
      · rw [c5]
        refine x_B k231_33 rfl (fun _ => rfl) (fun _ => rfl) (fun _ _ => rfl) ?_
        show xe (some (N, xs)) 231 604 [(0, .ref 2000), (1, .ref 0), (2, .ref 256), (3, vi x3)] [] s 295 10442 _
        refine x_A k231_604 (fun _ => rfl) ?_
        refine x_A k231_605 (fun _ => rfl) ?_
        refine x_A k231_606 (fun _ => rfl) ?_
        refine x_A k231_607 (fun _ => rfl) ?_
        refine x_iadd k231_608 ?_
        refine x_top (fun z190 e_z190 => ?_)
        refine x_scr k231_609 hN ⟨by omega, by omega⟩ (fun z191 g_z191 e_z191 => ?_)
        unfold in32 at g_z191
        refine x_callV k231_610 (y := 103) (n := 1) (w0 := 0) (w1 := 1) (as := [vi z191]) (rest := []) (by decide +kernel) (q := 0) (nq := 12) (kq := 3) ⟨by decide, rfl⟩ rfl rfl rfl rfl (xe_mono (C_X10_count_0 s hG i_J z191 (by first | exact x_rbe e_z191 g_z191 rfl rfl | exact x_rb g_z191 rfl rfl | exact ⟨by omega, by omega⟩)) ?_)
        rintro s193 v ⟨hG_s193, t_s193, z192, rfl, g_z192⟩
        have J_s193 : J s193 := J.fl i_J t_s193 (by decide +kernel)
        have T0_s193 : T0 s193 := T0.fl i_T0 t_s193 (by decide +kernel)
        show xe (some (N, xs)) 231 613 [(0, .ref 2000), (1, .ref 0), (2, .ref 256), (3, vi x3)] [vi z192] s193 295 10442 _
        refine x_A k231_613 (fun _ => rfl) ?_
        refine x_A k231_614 (fun _ => rfl) ?_
        refine x_A k231_615 (fun _ => rfl) ?_
        refine x_A k231_616 (fun _ => rfl) ?_
        refine x_A k231_617 (fun _ => rfl) ?_
        refine x_iadd k231_618 ?_
        refine x_top (fun z194 e_z194 => ?_)
        refine x_scr k231_619 hN ⟨by omega, by omega⟩ (fun z195 g_z195 e_z195 => ?_)
        unfold in32 at g_z195
        have q_z195 : z195 = z191 := by rw [e_z195, e_z191, show z194 = z190 by omega]
        refine x_callV k231_620 (y := 174) (n := 1) (w0 := 0) (w1 := 1) (as := [vi z195]) (rest := []) (by decide +kernel) (q := 256) (nq := 62) (kq := 15) ⟨by decide, rfl⟩ rfl rfl rfl rfl (xe_mono (C_X11_count_256 s193 hG_s193 J_s193 z195 (by first | exact x_rbe e_z195 g_z195 rfl rfl | exact x_rb g_z195 rfl rfl | exact ⟨by omega, by omega⟩)) ?_)
        rintro s197 v ⟨hG_s197, t_s197, z196, rfl, g_z196⟩
        have J_s197 : J s197 := J.fl J_s193 t_s197 (by decide +kernel)
        have T0_s197 : T0 s197 := T0.fl T0_s193 t_s197 (by decide +kernel)
        show xe (some (N, xs)) 231 623 [(0, .ref 2000), (1, .ref 0), (2, .ref 256), (3, vi x3)] [vi z196] s197 295 10442 _
        refine x_A k231_623 (fun _ => rfl) ?_
        refine x_goto k231_624 (t := 1300) rfl ?_
        refine x_iinc k231_1300 (ls' := [(3, vi (x3 + 7)), (0, .ref 2000), (1, .ref 0), (2, .ref 256)]) rfl (by decide) rfl ?_
        refine x_goto k231_1303 (t := 18) rfl ?_
        refine x_ls (l := [(0, .ref 2000), (1, .ref 0), (2, .ref 256), (3, vi (x3 + 7))]) (show ([0, 1, 2, 3] : List Nat).Nodup from by decide +kernel) ⟨rfl, rfl, rfl, rfl, trivial⟩ ?_
        exact ih s197 (x3 + 7) hG_s197 trivial ⟨by omega, by omega⟩ J_s197 T0_s197  (by omega)
      · rw [c5]
        refine x_B k231_33 rfl (fun _ => rfl) (fun _ => rfl) (fun _ _ => rfl) ?_
        show xe (some (N, xs)) 231 627 [(0, .ref 2000), (1, .ref 0), (2, .ref 256), (3, vi x3)] [] s 295 10442 _
        refine x_A k231_627 (fun _ => rfl) ?_
        refine x_A k231_628 (fun _ => rfl) ?_
        refine x_A k231_629 (fun _ => rfl) ?_
        refine x_A k231_630 (fun _ => rfl) ?_
        refine x_iadd k231_631 ?_
        refine x_top (fun z198 e_z198 => ?_)
        refine x_scr k231_632 hN ⟨by omega, by omega⟩ (fun z199 g_z199 e_z199 => ?_)
        unfold in32 at g_z199
        refine x_A k231_633 (fun _ => rfl) ?_
        refine x_A k231_634 (fun _ => rfl) ?_
        refine x_A k231_635 (fun _ => rfl) ?_
        refine x_iadd k231_636 ?_
        refine x_top (fun z200 e_z200 => ?_)
        refine x_scr k231_637 hN ⟨by omega, by omega⟩ (fun z201 g_z201 e_z201 => ?_)
        unfold in32 at g_z201
        refine x_i2l k231_638 (by first | exact x_rbe e_z201 g_z201 rfl rfl | exact x_rb g_z201 rfl rfl | exact ⟨by omega, by omega⟩) ?_
        refine x_bipush k231_639 (by decide +kernel) ?_
        refine x_lshl_any k231_641 (fun z202 b_z202 => ?_)
        refine x_A k231_642 (fun _ => rfl) ?_
        refine x_A k231_643 (fun _ => rfl) ?_
        refine x_A k231_644 (fun _ => rfl) ?_
        refine x_iadd k231_645 ?_
        refine x_top (fun z203 e_z203 => ?_)
        refine x_scr k231_646 hN ⟨by omega, by omega⟩ (fun z204 g_z204 e_z204 => ?_)
        unfold in32 at g_z204
        refine x_i2l k231_647 (by first | exact x_rbe e_z204 g_z204 rfl rfl | exact x_rb g_z204 rfl rfl | exact ⟨by omega, by omega⟩) ?_
        refine x_ldc2 k231_648 (z := 4294967295) rfl (by decide +kernel) ?_
        refine x_land_mask k231_651 ⟨by omega, by omega⟩ (fun z205 g_z205 => ?_)
        refine x_lor_any k231_652 (fun z206 b_z206 => ?_)
        refine x_callV k231_653 (y := 104) (n := 2) (w0 := 0) (w1 := 3) (as := [vi z199, vj z206]) (rest := []) (by decide +kernel) (q := 0) (nq := 12) (kq := 3) ⟨by decide, rfl⟩ rfl rfl rfl rfl (xe_mono (C_X10_feed_0 s hG z199 (by first | exact x_rbe e_z199 g_z199 rfl rfl | exact x_rb g_z199 rfl rfl | exact ⟨by omega, by omega⟩) z206 b_z206) ?_)
        rintro s208 v ⟨hG_s208, t_s208, z207, rfl, g_z207⟩
        have J_s208 : J s208 := J.fl i_J t_s208 (by decide +kernel)
        have T0_s208 : T0 s208 := T0.fl i_T0 t_s208 (by decide +kernel)
        show xe (some (N, xs)) 231 656 [(0, .ref 2000), (1, .ref 0), (2, .ref 256), (3, vi x3)] [vi z207] s208 295 10442 _
        refine x_A k231_656 (fun _ => rfl) ?_
        refine x_A k231_657 (fun _ => rfl) ?_
        refine x_A k231_658 (fun _ => rfl) ?_
        refine x_A k231_659 (fun _ => rfl) ?_
        refine x_A k231_660 (fun _ => rfl) ?_
        refine x_iadd k231_661 ?_
        refine x_top (fun z209 e_z209 => ?_)
        refine x_scr k231_662 hN ⟨by omega, by omega⟩ (fun z210 g_z210 e_z210 => ?_)
        unfold in32 at g_z210
        have q_z210 : z210 = z199 := by rw [e_z210, e_z199, show z209 = z198 by omega]
        refine x_A k231_663 (fun _ => rfl) ?_
        refine x_A k231_664 (fun _ => rfl) ?_
        refine x_A k231_665 (fun _ => rfl) ?_
        refine x_iadd k231_666 ?_
        refine x_top (fun z211 e_z211 => ?_)
        refine x_scr k231_667 hN ⟨by omega, by omega⟩ (fun z212 g_z212 e_z212 => ?_)
        unfold in32 at g_z212
        have q_z212 : z212 = z201 := by rw [e_z212, e_z201, show z211 = z200 by omega]
        refine x_i2l k231_668 (by first | exact x_rbe e_z212 g_z212 rfl rfl | exact x_rb g_z212 rfl rfl | exact ⟨by omega, by omega⟩) ?_
        refine x_bipush k231_669 (by decide +kernel) ?_
        refine x_lshl_any k231_671 (fun z213 b_z213 => ?_)
        refine x_A k231_672 (fun _ => rfl) ?_
        refine x_A k231_673 (fun _ => rfl) ?_
        refine x_A k231_674 (fun _ => rfl) ?_
        refine x_iadd k231_675 ?_
        refine x_top (fun z214 e_z214 => ?_)
        refine x_scr k231_676 hN ⟨by omega, by omega⟩ (fun z215 g_z215 e_z215 => ?_)
        unfold in32 at g_z215
        have q_z215 : z215 = z204 := by rw [e_z215, e_z204, show z214 = z203 by omega]
        refine x_i2l k231_677 (by first | exact x_rbe e_z215 g_z215 rfl rfl | exact x_rb g_z215 rfl rfl | exact ⟨by omega, by omega⟩) ?_
        refine x_ldc2 k231_678 (z := 4294967295) rfl (by decide +kernel) ?_
        refine x_land_mask k231_681 ⟨by omega, by omega⟩ (fun z216 g_z216 => ?_)
        refine x_lor_any k231_682 (fun z217 b_z217 => ?_)
        refine x_callV k231_683 (y := 175) (n := 2) (w0 := 0) (w1 := 3) (as := [vi z210, vj z217]) (rest := []) (by decide +kernel) (q := 256) (nq := 62) (kq := 15) ⟨by decide, rfl⟩ rfl rfl rfl rfl (xe_mono (C_X11_feed_256 s208 hG_s208 z210 (by first | exact x_rbe e_z210 g_z210 rfl rfl | exact x_rb g_z210 rfl rfl | exact ⟨by omega, by omega⟩) z217 b_z217) ?_)
        rintro s219 v ⟨hG_s219, t_s219, z218, rfl, g_z218⟩
        have J_s219 : J s219 := J.fl J_s208 t_s219 (by decide +kernel)
        have T0_s219 : T0 s219 := T0.fl T0_s208 t_s219 (by decide +kernel)
        show xe (some (N, xs)) 231 686 [(0, .ref 2000), (1, .ref 0), (2, .ref 256), (3, vi x3)] [vi z218] s219 295 10442 _
        refine x_A k231_686 (fun _ => rfl) ?_
        refine x_goto k231_687 (t := 1300) rfl ?_
        refine x_iinc k231_1300 (ls' := [(3, vi (x3 + 7)), (0, .ref 2000), (1, .ref 0), (2, .ref 256)]) rfl (by decide) rfl ?_
        refine x_goto k231_1303 (t := 18) rfl ?_
        refine x_ls (l := [(0, .ref 2000), (1, .ref 0), (2, .ref 256), (3, vi (x3 + 7))]) (show ([0, 1, 2, 3] : List Nat).Nodup from by decide +kernel) ⟨rfl, rfl, rfl, rfl, trivial⟩ ?_
        exact ih s219 (x3 + 7) hG_s219 trivial ⟨by omega, by omega⟩ J_s219 T0_s219  (by omega)
      · rw [c5]
        refine x_B k231_33 rfl (fun _ => rfl) (fun _ => rfl) (fun _ _ => rfl) ?_
        show xe (some (N, xs)) 231 690 [(0, .ref 2000), (1, .ref 0), (2, .ref 256), (3, vi x3)] [] s 295 10442 _
        refine x_A k231_690 (fun _ => rfl) ?_
        refine x_A k231_691 (fun _ => rfl) ?_
        refine x_A k231_692 (fun _ => rfl) ?_
        refine x_A k231_693 (fun _ => rfl) ?_
        refine x_iadd k231_694 ?_
        refine x_top (fun z220 e_z220 => ?_)
        refine x_scr k231_695 hN ⟨by omega, by omega⟩ (fun z221 g_z221 e_z221 => ?_)
        unfold in32 at g_z221
        refine x_callV k231_696 (y := 105) (n := 1) (w0 := 0) (w1 := 1) (as := [vi z221]) (rest := []) (by decide +kernel) (q := 0) (nq := 12) (kq := 3) ⟨by decide, rfl⟩ rfl rfl rfl rfl (xe_mono (C_X10_rule_0 s hG z221 (by first | exact x_rbe e_z221 g_z221 rfl rfl | exact x_rb g_z221 rfl rfl | exact ⟨by omega, by omega⟩) i_J) ?_)
        rintro s223 v ⟨hG_s223, t_s223, z222, rfl, g_z222, J_s223⟩
        have T0_s223 : T0 s223 := T0.fl i_T0 t_s223 (by decide +kernel)
        show xe (some (N, xs)) 231 699 [(0, .ref 2000), (1, .ref 0), (2, .ref 256), (3, vi x3)] [vi z222] s223 295 10442 _
        refine x_A k231_699 (fun _ => rfl) ?_
        refine x_A k231_700 (fun _ => rfl) ?_
        refine x_A k231_701 (fun _ => rfl) ?_
        refine x_A k231_702 (fun _ => rfl) ?_
        refine x_A k231_703 (fun _ => rfl) ?_
        refine x_iadd k231_704 ?_
        refine x_top (fun z224 e_z224 => ?_)
        refine x_scr k231_705 hN ⟨by omega, by omega⟩ (fun z225 g_z225 e_z225 => ?_)
        unfold in32 at g_z225
        have q_z225 : z225 = z221 := by rw [e_z225, e_z221, show z224 = z220 by omega]
        obtain ⟨z226, e_z226⟩ : ∃ z, z = s223 256 20 := ⟨_, rfl⟩
        have g_z226 : (0 : Int) ≤ s223 256 20 ∧ s223 256 20 ≤ 64 := hG_s223 256 20
        obtain ⟨z227, e_z227⟩ : ∃ z, z = s223 256 17 := ⟨_, rfl⟩
        have g_z227 : (0 : Int) ≤ s223 256 17 ∧ s223 256 17 ≤ 8 := hG_s223 256 17
        refine x_callV k231_706 (y := 187) (n := 1) (w0 := 0) (w1 := 1) (as := [vi z225]) (rest := []) (by decide +kernel) (q := 256) (nq := 62) (kq := 15) ⟨by decide, rfl⟩ rfl rfl rfl rfl (xe_mono (C_X11_rule_256 s223 hG_s223 z225 (by first | exact x_rbe e_z225 g_z225 rfl rfl | exact x_rb g_z225 rfl rfl | exact ⟨by omega, by omega⟩) ⟨by omega, by omega⟩ ⟨by omega, by omega⟩ J_s223) ?_)
        rintro s229 v ⟨hG_s229, t_s229, z228, rfl, g_z228, J_s229⟩
        have T0_s229 : T0 s229 := T0.fl T0_s223 t_s229 (by decide +kernel)
        show xe (some (N, xs)) 231 709 [(0, .ref 2000), (1, .ref 0), (2, .ref 256), (3, vi x3)] [vi z228] s229 295 10442 _
        refine x_A k231_709 (fun _ => rfl) ?_
        refine x_goto k231_710 (t := 1300) rfl ?_
        refine x_iinc k231_1300 (ls' := [(3, vi (x3 + 7)), (0, .ref 2000), (1, .ref 0), (2, .ref 256)]) rfl (by decide) rfl ?_
        refine x_goto k231_1303 (t := 18) rfl ?_
        refine x_ls (l := [(0, .ref 2000), (1, .ref 0), (2, .ref 256), (3, vi (x3 + 7))]) (show ([0, 1, 2, 3] : List Nat).Nodup from by decide +kernel) ⟨rfl, rfl, rfl, rfl, trivial⟩ ?_
        exact ih s229 (x3 + 7) hG_s229 trivial ⟨by omega, by omega⟩ J_s229 T0_s229  (by omega)
      · rw [c5]
        refine x_B k231_33 rfl (fun _ => rfl) (fun _ => rfl) (fun _ _ => rfl) ?_
        show xe (some (N, xs)) 231 713 [(0, .ref 2000), (1, .ref 0), (2, .ref 256), (3, vi x3)] [] s 295 10442 _
        refine x_A k231_713 (fun _ => rfl) ?_
        refine x_callV k231_714 (y := 106) (n := 0) (w0 := 0) (w1 := 0) (as := []) (rest := []) (by decide +kernel) (q := 0) (nq := 12) (kq := 3) ⟨by decide, rfl⟩ rfl rfl rfl rfl (xe_mono (C_X10_fault_0 s hG) ?_)
        rintro s231 v ⟨-, t_s231, z230, rfl, g_z230⟩
        rw [t_s231.nil]
        show xe (some (N, xs)) 231 717 [(0, .ref 2000), (1, .ref 0), (2, .ref 256), (3, vi x3)] [vi z230] s 295 10442 _
        refine x_A k231_717 (fun _ => rfl) ?_
        refine x_A k231_718 (fun _ => rfl) ?_
        refine x_callV k231_719 (y := 188) (n := 0) (w0 := 0) (w1 := 0) (as := []) (rest := []) (by decide +kernel) (q := 256) (nq := 62) (kq := 15) ⟨by decide, rfl⟩ rfl rfl rfl rfl (xe_mono (C_X11_fault_256 s hG) ?_)
        rintro s233 v ⟨-, t_s233, z232, rfl, g_z232⟩
        rw [t_s233.nil]
        show xe (some (N, xs)) 231 722 [(0, .ref 2000), (1, .ref 0), (2, .ref 256), (3, vi x3)] [vi z232] s 295 10442 _
        refine x_A k231_722 (fun _ => rfl) ?_
        refine x_goto k231_723 (t := 1300) rfl ?_
        refine x_iinc k231_1300 (ls' := [(3, vi (x3 + 7)), (0, .ref 2000), (1, .ref 0), (2, .ref 256)]) rfl (by decide) rfl ?_
        refine x_goto k231_1303 (t := 18) rfl ?_
        refine x_ls (l := [(0, .ref 2000), (1, .ref 0), (2, .ref 256), (3, vi (x3 + 7))]) (show ([0, 1, 2, 3] : List Nat).Nodup from by decide +kernel) ⟨rfl, rfl, rfl, rfl, trivial⟩ ?_
        exact ih s (x3 + 7) hG f ⟨by omega, by omega⟩ i_J i_T0  (by omega)
      · rw [c5]
        refine x_B k231_33 rfl (fun _ => rfl) (fun _ => rfl) (fun _ _ => rfl) ?_
        show xe (some (N, xs)) 231 726 [(0, .ref 2000), (1, .ref 0), (2, .ref 256), (3, vi x3)] [] s 295 10442 _
        refine x_A k231_726 (fun _ => rfl) ?_
        refine x_A k231_727 (fun _ => rfl) ?_
        refine x_A k231_728 (fun _ => rfl) ?_
        refine x_A k231_729 (fun _ => rfl) ?_
        refine x_iadd k231_730 ?_
        refine x_top (fun z234 e_z234 => ?_)
        refine x_scr k231_731 hN ⟨by omega, by omega⟩ (fun z235 g_z235 e_z235 => ?_)
        unfold in32 at g_z235
        refine x_A k231_732 (fun _ => rfl) ?_
        refine x_A k231_733 (fun _ => rfl) ?_
        refine x_A k231_734 (fun _ => rfl) ?_
        refine x_iadd k231_735 ?_
        refine x_top (fun z236 e_z236 => ?_)
        refine x_scr k231_736 hN ⟨by omega, by omega⟩ (fun z237 g_z237 e_z237 => ?_)
        unfold in32 at g_z237
        refine x_callV k231_737 (y := 107) (n := 2) (w0 := 0) (w1 := 2) (as := [vi z235, vi z237]) (rest := []) (by decide +kernel) (q := 0) (nq := 12) (kq := 3) ⟨by decide, rfl⟩ rfl rfl rfl rfl (xe_mono (C_X10_force_0 s hG i_J z235 (by first | exact x_rbe e_z235 g_z235 rfl rfl | exact x_rb g_z235 rfl rfl | exact ⟨by omega, by omega⟩) z237 (by first | exact x_rbe e_z237 g_z237 rfl rfl | exact x_rb g_z237 rfl rfl | exact ⟨by omega, by omega⟩)) ?_)
        rintro s239 v ⟨hG_s239, t_s239, z238, rfl, g_z238⟩
        have J_s239 : J s239 := J.fl i_J t_s239 (by decide +kernel)
        have T0_s239 : T0 s239 := T0.fl i_T0 t_s239 (by decide +kernel)
        show xe (some (N, xs)) 231 740 [(0, .ref 2000), (1, .ref 0), (2, .ref 256), (3, vi x3)] [vi z238] s239 295 10442 _
        refine x_A k231_740 (fun _ => rfl) ?_
        refine x_A k231_741 (fun _ => rfl) ?_
        refine x_A k231_742 (fun _ => rfl) ?_
        refine x_A k231_743 (fun _ => rfl) ?_
        refine x_A k231_744 (fun _ => rfl) ?_
        refine x_iadd k231_745 ?_
        refine x_top (fun z240 e_z240 => ?_)
        refine x_scr k231_746 hN ⟨by omega, by omega⟩ (fun z241 g_z241 e_z241 => ?_)
        unfold in32 at g_z241
        have q_z241 : z241 = z235 := by rw [e_z241, e_z235, show z240 = z234 by omega]
        refine x_A k231_747 (fun _ => rfl) ?_
        refine x_A k231_748 (fun _ => rfl) ?_
        refine x_A k231_749 (fun _ => rfl) ?_
        refine x_iadd k231_750 ?_
        refine x_top (fun z242 e_z242 => ?_)
        refine x_scr k231_751 hN ⟨by omega, by omega⟩ (fun z243 g_z243 e_z243 => ?_)
        unfold in32 at g_z243
        have q_z243 : z243 = z237 := by rw [e_z243, e_z237, show z242 = z236 by omega]
        refine x_callV k231_752 (y := 189) (n := 2) (w0 := 0) (w1 := 2) (as := [vi z241, vi z243]) (rest := []) (by decide +kernel) (q := 256) (nq := 62) (kq := 15) ⟨by decide, rfl⟩ rfl rfl rfl rfl (xe_mono (C_X11_force_256 s239 hG_s239 J_s239 z241 (by first | exact x_rbe e_z241 g_z241 rfl rfl | exact x_rb g_z241 rfl rfl | exact ⟨by omega, by omega⟩) z243 (by first | exact x_rbe e_z243 g_z243 rfl rfl | exact x_rb g_z243 rfl rfl | exact ⟨by omega, by omega⟩)) ?_)
        rintro s245 v ⟨hG_s245, t_s245, z244, rfl, g_z244⟩
        have J_s245 : J s245 := J.fl J_s239 t_s245 (by decide +kernel)
        have T0_s245 : T0 s245 := T0.fl T0_s239 t_s245 (by decide +kernel)
        show xe (some (N, xs)) 231 755 [(0, .ref 2000), (1, .ref 0), (2, .ref 256), (3, vi x3)] [vi z244] s245 295 10442 _
        refine x_A k231_755 (fun _ => rfl) ?_
        refine x_goto k231_756 (t := 1300) rfl ?_
        refine x_iinc k231_1300 (ls' := [(3, vi (x3 + 7)), (0, .ref 2000), (1, .ref 0), (2, .ref 256)]) rfl (by decide) rfl ?_
        refine x_goto k231_1303 (t := 18) rfl ?_
        refine x_ls (l := [(0, .ref 2000), (1, .ref 0), (2, .ref 256), (3, vi (x3 + 7))]) (show ([0, 1, 2, 3] : List Nat).Nodup from by decide +kernel) ⟨rfl, rfl, rfl, rfl, trivial⟩ ?_
        exact ih s245 (x3 + 7) hG_s245 trivial ⟨by omega, by omega⟩ J_s245 T0_s245  (by omega)
      · rw [c5]
        refine x_B k231_33 rfl (fun _ => rfl) (fun _ => rfl) (fun _ _ => rfl) ?_
        show xe (some (N, xs)) 231 759 [(0, .ref 2000), (1, .ref 0), (2, .ref 256), (3, vi x3)] [] s 295 10442 _
        refine x_A k231_759 (fun _ => rfl) ?_
        refine x_A k231_760 (fun _ => rfl) ?_
        refine x_A k231_761 (fun _ => rfl) ?_
        refine x_A k231_762 (fun _ => rfl) ?_
        refine x_iadd k231_763 ?_
        refine x_top (fun z246 e_z246 => ?_)
        refine x_scr k231_764 hN ⟨by omega, by omega⟩ (fun z247 g_z247 e_z247 => ?_)
        unfold in32 at g_z247
        refine x_A k231_765 (fun _ => rfl) ?_
        refine x_A k231_766 (fun _ => rfl) ?_
        refine x_A k231_767 (fun _ => rfl) ?_
        refine x_iadd k231_768 ?_
        refine x_top (fun z248 e_z248 => ?_)
        refine x_scr k231_769 hN ⟨by omega, by omega⟩ (fun z249 g_z249 e_z249 => ?_)
        unfold in32 at g_z249
        refine x_A k231_770 (fun _ => rfl) ?_
        refine x_A k231_771 (fun _ => rfl) ?_
        refine x_A k231_772 (fun _ => rfl) ?_
        refine x_iadd k231_773 ?_
        refine x_top (fun z250 e_z250 => ?_)
        refine x_scr k231_774 hN ⟨by omega, by omega⟩ (fun z251 g_z251 e_z251 => ?_)
        unfold in32 at g_z251
        refine x_callV k231_775 (y := 108) (n := 3) (w0 := 0) (w1 := 3) (as := [vi z247, vi z249, vi z251]) (rest := []) (by decide +kernel) (q := 0) (nq := 12) (kq := 3) ⟨by decide, rfl⟩ rfl rfl rfl rfl (xe_mono (C_X10_word_0 s hG z247 (by first | exact x_rbe e_z247 g_z247 rfl rfl | exact x_rb g_z247 rfl rfl | exact ⟨by omega, by omega⟩) z249 (by first | exact x_rbe e_z249 g_z249 rfl rfl | exact x_rb g_z249 rfl rfl | exact ⟨by omega, by omega⟩) z251 (by first | exact x_rbe e_z251 g_z251 rfl rfl | exact x_rb g_z251 rfl rfl | exact ⟨by omega, by omega⟩)) ?_)
        rintro s253 v ⟨hG_s253, t_s253, z252, rfl, g_z252⟩
        have J_s253 : J s253 := J.fl i_J t_s253 (by decide +kernel)
        have T0_s253 : T0 s253 := T0.fl i_T0 t_s253 (by decide +kernel)
        show xe (some (N, xs)) 231 778 [(0, .ref 2000), (1, .ref 0), (2, .ref 256), (3, vi x3)] [vi z252] s253 295 10442 _
        refine x_A k231_778 (fun _ => rfl) ?_
        refine x_A k231_779 (fun _ => rfl) ?_
        refine x_A k231_780 (fun _ => rfl) ?_
        refine x_A k231_781 (fun _ => rfl) ?_
        refine x_A k231_782 (fun _ => rfl) ?_
        refine x_iadd k231_783 ?_
        refine x_top (fun z254 e_z254 => ?_)
        refine x_scr k231_784 hN ⟨by omega, by omega⟩ (fun z255 g_z255 e_z255 => ?_)
        unfold in32 at g_z255
        have q_z255 : z255 = z247 := by rw [e_z255, e_z247, show z254 = z246 by omega]
        refine x_A k231_785 (fun _ => rfl) ?_
        refine x_A k231_786 (fun _ => rfl) ?_
        refine x_A k231_787 (fun _ => rfl) ?_
        refine x_iadd k231_788 ?_
        refine x_top (fun z256 e_z256 => ?_)
        refine x_scr k231_789 hN ⟨by omega, by omega⟩ (fun z257 g_z257 e_z257 => ?_)
        unfold in32 at g_z257
        have q_z257 : z257 = z249 := by rw [e_z257, e_z249, show z256 = z248 by omega]
        refine x_A k231_790 (fun _ => rfl) ?_
        refine x_A k231_791 (fun _ => rfl) ?_
        refine x_A k231_792 (fun _ => rfl) ?_
        refine x_iadd k231_793 ?_
        refine x_top (fun z258 e_z258 => ?_)
        refine x_scr k231_794 hN ⟨by omega, by omega⟩ (fun z259 g_z259 e_z259 => ?_)
        unfold in32 at g_z259
        have q_z259 : z259 = z251 := by rw [e_z259, e_z251, show z258 = z250 by omega]
        refine x_callV k231_795 (y := 192) (n := 3) (w0 := 0) (w1 := 3) (as := [vi z255, vi z257, vi z259]) (rest := []) (by decide +kernel) (q := 256) (nq := 62) (kq := 15) ⟨by decide, rfl⟩ rfl rfl rfl rfl (xe_mono (C_X11_word_256 s253 hG_s253 z255 (by first | exact x_rbe e_z255 g_z255 rfl rfl | exact x_rb g_z255 rfl rfl | exact ⟨by omega, by omega⟩) z257 (by first | exact x_rbe e_z257 g_z257 rfl rfl | exact x_rb g_z257 rfl rfl | exact ⟨by omega, by omega⟩) z259 (by first | exact x_rbe e_z259 g_z259 rfl rfl | exact x_rb g_z259 rfl rfl | exact ⟨by omega, by omega⟩)) ?_)
        rintro s261 v ⟨hG_s261, t_s261, z260, rfl, g_z260⟩
        have J_s261 : J s261 := J.fl J_s253 t_s261 (by decide +kernel)
        have T0_s261 : T0 s261 := T0.fl T0_s253 t_s261 (by decide +kernel)
        show xe (some (N, xs)) 231 798 [(0, .ref 2000), (1, .ref 0), (2, .ref 256), (3, vi x3)] [vi z260] s261 295 10442 _
        refine x_A k231_798 (fun _ => rfl) ?_
        refine x_goto k231_799 (t := 1300) rfl ?_
        refine x_iinc k231_1300 (ls' := [(3, vi (x3 + 7)), (0, .ref 2000), (1, .ref 0), (2, .ref 256)]) rfl (by decide) rfl ?_
        refine x_goto k231_1303 (t := 18) rfl ?_
        refine x_ls (l := [(0, .ref 2000), (1, .ref 0), (2, .ref 256), (3, vi (x3 + 7))]) (show ([0, 1, 2, 3] : List Nat).Nodup from by decide +kernel) ⟨rfl, rfl, rfl, rfl, trivial⟩ ?_
        exact ih s261 (x3 + 7) hG_s261 trivial ⟨by omega, by omega⟩ J_s261 T0_s261  (by omega)
      · rw [c5]
        refine x_B k231_33 rfl (fun _ => rfl) (fun _ => rfl) (fun _ _ => rfl) ?_
        show xe (some (N, xs)) 231 802 [(0, .ref 2000), (1, .ref 0), (2, .ref 256), (3, vi x3)] [] s 295 10442 _
        refine x_A k231_802 (fun _ => rfl) ?_
        refine x_A k231_803 (fun _ => rfl) ?_
        refine x_A k231_804 (fun _ => rfl) ?_
        refine x_A k231_805 (fun _ => rfl) ?_
        refine x_iadd k231_806 ?_
        refine x_top (fun z262 e_z262 => ?_)
        refine x_scr k231_807 hN ⟨by omega, by omega⟩ (fun z263 g_z263 e_z263 => ?_)
        unfold in32 at g_z263
        refine x_A k231_808 (fun _ => rfl) ?_
        refine x_A k231_809 (fun _ => rfl) ?_
        refine x_A k231_810 (fun _ => rfl) ?_
        refine x_iadd k231_811 ?_
        refine x_top (fun z264 e_z264 => ?_)
        refine x_scr k231_812 hN ⟨by omega, by omega⟩ (fun z265 g_z265 e_z265 => ?_)
        unfold in32 at g_z265
        refine x_callV k231_813 (y := 109) (n := 2) (w0 := 0) (w1 := 2) (as := [vi z263, vi z265]) (rest := []) (by decide +kernel) (q := 0) (nq := 12) (kq := 3) ⟨by decide, rfl⟩ rfl rfl rfl rfl (xe_mono (C_X10_leads_0 s hG z263 (by first | exact x_rbe e_z263 g_z263 rfl rfl | exact x_rb g_z263 rfl rfl | exact ⟨by omega, by omega⟩) z265 (by first | exact x_rbe e_z265 g_z265 rfl rfl | exact x_rb g_z265 rfl rfl | exact ⟨by omega, by omega⟩)) ?_)
        rintro s267 v ⟨-, t_s267, z266, rfl, g_z266⟩
        rw [t_s267.nil]
        show xe (some (N, xs)) 231 816 [(0, .ref 2000), (1, .ref 0), (2, .ref 256), (3, vi x3)] [vi z266] s 295 10442 _
        refine x_A k231_816 (fun _ => rfl) ?_
        refine x_A k231_817 (fun _ => rfl) ?_
        refine x_A k231_818 (fun _ => rfl) ?_
        refine x_A k231_819 (fun _ => rfl) ?_
        refine x_A k231_820 (fun _ => rfl) ?_
        refine x_iadd k231_821 ?_
        refine x_top (fun z268 e_z268 => ?_)
        refine x_scr k231_822 hN ⟨by omega, by omega⟩ (fun z269 g_z269 e_z269 => ?_)
        unfold in32 at g_z269
        have q_z269 : z269 = z263 := by rw [e_z269, e_z263, show z268 = z262 by omega]
        refine x_A k231_823 (fun _ => rfl) ?_
        refine x_A k231_824 (fun _ => rfl) ?_
        refine x_A k231_825 (fun _ => rfl) ?_
        refine x_iadd k231_826 ?_
        refine x_top (fun z270 e_z270 => ?_)
        refine x_scr k231_827 hN ⟨by omega, by omega⟩ (fun z271 g_z271 e_z271 => ?_)
        unfold in32 at g_z271
        have q_z271 : z271 = z265 := by rw [e_z271, e_z265, show z270 = z264 by omega]
        refine x_callV k231_828 (y := 193) (n := 2) (w0 := 0) (w1 := 2) (as := [vi z269, vi z271]) (rest := []) (by decide +kernel) (q := 256) (nq := 62) (kq := 15) ⟨by decide, rfl⟩ rfl rfl rfl rfl (xe_mono (C_X11_leads_256 s hG z269 (by first | exact x_rbe e_z269 g_z269 rfl rfl | exact x_rb g_z269 rfl rfl | exact ⟨by omega, by omega⟩) z271 (by first | exact x_rbe e_z271 g_z271 rfl rfl | exact x_rb g_z271 rfl rfl | exact ⟨by omega, by omega⟩)) ?_)
        rintro s273 v ⟨-, t_s273, z272, rfl, g_z272⟩
        rw [t_s273.nil]
        show xe (some (N, xs)) 231 831 [(0, .ref 2000), (1, .ref 0), (2, .ref 256), (3, vi x3)] [vi z272] s 295 10442 _
        refine x_A k231_831 (fun _ => rfl) ?_
        refine x_goto k231_832 (t := 1300) rfl ?_
        refine x_iinc k231_1300 (ls' := [(3, vi (x3 + 7)), (0, .ref 2000), (1, .ref 0), (2, .ref 256)]) rfl (by decide) rfl ?_
        refine x_goto k231_1303 (t := 18) rfl ?_
        refine x_ls (l := [(0, .ref 2000), (1, .ref 0), (2, .ref 256), (3, vi (x3 + 7))]) (show ([0, 1, 2, 3] : List Nat).Nodup from by decide +kernel) ⟨rfl, rfl, rfl, rfl, trivial⟩ ?_
        exact ih s (x3 + 7) hG f ⟨by omega, by omega⟩ i_J i_T0  (by omega)
      · rw [c5]
        refine x_B k231_33 rfl (fun _ => rfl) (fun _ => rfl) (fun _ _ => rfl) ?_
        show xe (some (N, xs)) 231 835 [(0, .ref 2000), (1, .ref 0), (2, .ref 256), (3, vi x3)] [] s 295 10442 _
        refine x_A k231_835 (fun _ => rfl) ?_
        refine x_callV k231_836 (y := 110) (n := 0) (w0 := 0) (w1 := 0) (as := []) (rest := []) (by decide +kernel) (q := 0) (nq := 12) (kq := 3) ⟨by decide, rfl⟩ rfl rfl rfl rfl (xe_mono (C_X10_ask_0 s hG) ?_)
        rintro s275 v ⟨hG_s275, t_s275, z274, rfl, g_z274⟩
        have J_s275 : J s275 := J.fl i_J t_s275 (by decide +kernel)
        have T0_s275 : T0 s275 := T0.fl i_T0 t_s275 (by decide +kernel)
        show xe (some (N, xs)) 231 839 [(0, .ref 2000), (1, .ref 0), (2, .ref 256), (3, vi x3)] [vi z274] s275 295 10442 _
        refine x_A k231_839 (fun _ => rfl) ?_
        refine x_A k231_840 (fun _ => rfl) ?_
        obtain ⟨z276, e_z276⟩ : ∃ z, z = s275 256 47 := ⟨_, rfl⟩
        have g_z276 : (0 : Int) ≤ s275 256 47 ∧ s275 256 47 ≤ 110 := hG_s275 256 47
        obtain ⟨z277, e_z277⟩ : ∃ z, z = s275 256 48 := ⟨_, rfl⟩
        have g_z277 : (0 : Int) ≤ s275 256 48 ∧ s275 256 48 ≤ 120 := hG_s275 256 48
        obtain ⟨z278, e_z278⟩ : ∃ z, z = s275 256 36 := ⟨_, rfl⟩
        have g_z278 : (0 : Int) ≤ s275 256 36 ∧ s275 256 36 ≤ 160 := hG_s275 256 36
        obtain ⟨z279, e_z279⟩ : ∃ z, z = s275 256 34 := ⟨_, rfl⟩
        have g_z279 : (0 : Int) ≤ s275 256 34 ∧ s275 256 34 ≤ 160 := hG_s275 256 34
        obtain ⟨z280, e_z280⟩ : ∃ z, z = s275 256 43 := ⟨_, rfl⟩
        have g_z280 : (0 : Int) ≤ s275 256 43 ∧ s275 256 43 ≤ 8 := hG_s275 256 43
        obtain ⟨z281, e_z281⟩ : ∃ z, z = s275 256 50 := ⟨_, rfl⟩
        have g_z281 : (0 : Int) ≤ s275 256 50 ∧ s275 256 50 ≤ 5 := hG_s275 256 50
        obtain ⟨z282, e_z282⟩ : ∃ z, z = s275 256 51 := ⟨_, rfl⟩
        have g_z282 : (0 : Int) ≤ s275 256 51 ∧ s275 256 51 ≤ 1 := hG_s275 256 51
        refine x_callV k231_841 (y := 200) (n := 0) (w0 := 0) (w1 := 0) (as := []) (rest := []) (by decide +kernel) (q := 256) (nq := 62) (kq := 15) ⟨by decide, rfl⟩ rfl rfl rfl rfl (xe_mono (C_X11_ask_256 s275 hG_s275 ⟨by omega, by omega⟩ ⟨by omega, by omega⟩ ⟨by omega, by omega⟩ ⟨by omega, by omega⟩ ⟨by omega, by omega⟩ ⟨by omega, by omega⟩ ⟨by omega, by omega⟩ J_s275) ?_)
        rintro s284 v ⟨hG_s284, t_s284, z283, rfl, g_z283, J_s284⟩
        have T0_s284 : T0 s284 := T0.fl T0_s275 t_s284 (by decide +kernel)
        show xe (some (N, xs)) 231 844 [(0, .ref 2000), (1, .ref 0), (2, .ref 256), (3, vi x3)] [vi z283] s284 295 10442 _
        refine x_A k231_844 (fun _ => rfl) ?_
        refine x_goto k231_845 (t := 1300) rfl ?_
        refine x_iinc k231_1300 (ls' := [(3, vi (x3 + 7)), (0, .ref 2000), (1, .ref 0), (2, .ref 256)]) rfl (by decide) rfl ?_
        refine x_goto k231_1303 (t := 18) rfl ?_
        refine x_ls (l := [(0, .ref 2000), (1, .ref 0), (2, .ref 256), (3, vi (x3 + 7))]) (show ([0, 1, 2, 3] : List Nat).Nodup from by decide +kernel) ⟨rfl, rfl, rfl, rfl, trivial⟩ ?_
        exact ih s284 (x3 + 7) hG_s284 trivial ⟨by omega, by omega⟩ J_s284 T0_s284  (by omega)
      · rw [c5]
        refine x_B k231_33 rfl (fun _ => rfl) (fun _ => rfl) (fun _ _ => rfl) ?_
        show xe (some (N, xs)) 231 848 [(0, .ref 2000), (1, .ref 0), (2, .ref 256), (3, vi x3)] [] s 295 10442 _
        refine x_A k231_848 (fun _ => rfl) ?_
        refine x_A k231_849 (fun _ => rfl) ?_
        refine x_A k231_850 (fun _ => rfl) ?_
        refine x_A k231_851 (fun _ => rfl) ?_
        refine x_iadd k231_852 ?_
        refine x_top (fun z285 e_z285 => ?_)
        refine x_scr k231_853 hN ⟨by omega, by omega⟩ (fun z286 g_z286 e_z286 => ?_)
        unfold in32 at g_z286
        refine x_A k231_854 (fun _ => rfl) ?_
        refine x_A k231_855 (fun _ => rfl) ?_
        refine x_A k231_856 (fun _ => rfl) ?_
        refine x_iadd k231_857 ?_
        refine x_top (fun z287 e_z287 => ?_)
        refine x_scr k231_858 hN ⟨by omega, by omega⟩ (fun z288 g_z288 e_z288 => ?_)
        unfold in32 at g_z288
        refine x_A k231_859 (fun _ => rfl) ?_
        refine x_A k231_860 (fun _ => rfl) ?_
        refine x_A k231_861 (fun _ => rfl) ?_
        refine x_iadd k231_862 ?_
        refine x_top (fun z289 e_z289 => ?_)
        refine x_scr k231_863 hN ⟨by omega, by omega⟩ (fun z290 g_z290 e_z290 => ?_)
        unfold in32 at g_z290
        refine x_callV k231_864 (y := 111) (n := 3) (w0 := 0) (w1 := 3) (as := [vi z286, vi z288, vi z290]) (rest := []) (by decide +kernel) (q := 0) (nq := 12) (kq := 3) ⟨by decide, rfl⟩ rfl rfl rfl rfl (xe_mono (C_X10_met_0 s hG i_J z286 (by first | exact x_rbe e_z286 g_z286 rfl rfl | exact x_rb g_z286 rfl rfl | exact ⟨by omega, by omega⟩) z288 (by first | exact x_rbe e_z288 g_z288 rfl rfl | exact x_rb g_z288 rfl rfl | exact ⟨by omega, by omega⟩) z290 (by first | exact x_rbe e_z290 g_z290 rfl rfl | exact x_rb g_z290 rfl rfl | exact ⟨by omega, by omega⟩)) ?_)
        rintro s292 v ⟨hG_s292, t_s292, z291, rfl, g_z291⟩
        have J_s292 : J s292 := J.fl i_J t_s292 (by decide +kernel)
        have T0_s292 : T0 s292 := T0.fl i_T0 t_s292 (by decide +kernel)
        show xe (some (N, xs)) 231 867 [(0, .ref 2000), (1, .ref 0), (2, .ref 256), (3, vi x3)] [vi z291] s292 295 10442 _
        refine x_A k231_867 (fun _ => rfl) ?_
        refine x_A k231_868 (fun _ => rfl) ?_
        refine x_A k231_869 (fun _ => rfl) ?_
        refine x_A k231_870 (fun _ => rfl) ?_
        refine x_A k231_871 (fun _ => rfl) ?_
        refine x_iadd k231_872 ?_
        refine x_top (fun z293 e_z293 => ?_)
        refine x_scr k231_873 hN ⟨by omega, by omega⟩ (fun z294 g_z294 e_z294 => ?_)
        unfold in32 at g_z294
        have q_z294 : z294 = z286 := by rw [e_z294, e_z286, show z293 = z285 by omega]
        refine x_A k231_874 (fun _ => rfl) ?_
        refine x_A k231_875 (fun _ => rfl) ?_
        refine x_A k231_876 (fun _ => rfl) ?_
        refine x_iadd k231_877 ?_
        refine x_top (fun z295 e_z295 => ?_)
        refine x_scr k231_878 hN ⟨by omega, by omega⟩ (fun z296 g_z296 e_z296 => ?_)
        unfold in32 at g_z296
        have q_z296 : z296 = z288 := by rw [e_z296, e_z288, show z295 = z287 by omega]
        refine x_A k231_879 (fun _ => rfl) ?_
        refine x_A k231_880 (fun _ => rfl) ?_
        refine x_A k231_881 (fun _ => rfl) ?_
        refine x_iadd k231_882 ?_
        refine x_top (fun z297 e_z297 => ?_)
        refine x_scr k231_883 hN ⟨by omega, by omega⟩ (fun z298 g_z298 e_z298 => ?_)
        unfold in32 at g_z298
        have q_z298 : z298 = z290 := by rw [e_z298, e_z290, show z297 = z289 by omega]
        refine x_callV k231_884 (y := 204) (n := 3) (w0 := 0) (w1 := 3) (as := [vi z294, vi z296, vi z298]) (rest := []) (by decide +kernel) (q := 256) (nq := 62) (kq := 15) ⟨by decide, rfl⟩ rfl rfl rfl rfl (xe_mono (C_X11_met_256 s292 hG_s292 J_s292 z294 (by first | exact x_rbe e_z294 g_z294 rfl rfl | exact x_rb g_z294 rfl rfl | exact ⟨by omega, by omega⟩) z296 (by first | exact x_rbe e_z296 g_z296 rfl rfl | exact x_rb g_z296 rfl rfl | exact ⟨by omega, by omega⟩) z298 (by first | exact x_rbe e_z298 g_z298 rfl rfl | exact x_rb g_z298 rfl rfl | exact ⟨by omega, by omega⟩)) ?_)
        rintro s300 v ⟨hG_s300, t_s300, z299, rfl, g_z299⟩
        have J_s300 : J s300 := J.fl J_s292 t_s300 (by decide +kernel)
        have T0_s300 : T0 s300 := T0.fl T0_s292 t_s300 (by decide +kernel)
        show xe (some (N, xs)) 231 887 [(0, .ref 2000), (1, .ref 0), (2, .ref 256), (3, vi x3)] [vi z299] s300 295 10442 _
        refine x_A k231_887 (fun _ => rfl) ?_
        refine x_goto k231_888 (t := 1300) rfl ?_
        refine x_iinc k231_1300 (ls' := [(3, vi (x3 + 7)), (0, .ref 2000), (1, .ref 0), (2, .ref 256)]) rfl (by decide) rfl ?_
        refine x_goto k231_1303 (t := 18) rfl ?_
        refine x_ls (l := [(0, .ref 2000), (1, .ref 0), (2, .ref 256), (3, vi (x3 + 7))]) (show ([0, 1, 2, 3] : List Nat).Nodup from by decide +kernel) ⟨rfl, rfl, rfl, rfl, trivial⟩ ?_
        exact ih s300 (x3 + 7) hG_s300 trivial ⟨by omega, by omega⟩ J_s300 T0_s300  (by omega)
      · rw [c5]
        refine x_B k231_33 rfl (fun _ => rfl) (fun _ => rfl) (fun _ _ => rfl) ?_
        show xe (some (N, xs)) 231 891 [(0, .ref 2000), (1, .ref 0), (2, .ref 256), (3, vi x3)] [] s 295 10442 _
        refine x_A k231_891 (fun _ => rfl) ?_
        refine x_A k231_892 (fun _ => rfl) ?_
        refine x_A k231_893 (fun _ => rfl) ?_
        refine x_A k231_894 (fun _ => rfl) ?_
        refine x_iadd k231_895 ?_
        refine x_top (fun z301 e_z301 => ?_)
        refine x_scr k231_896 hN ⟨by omega, by omega⟩ (fun z302 g_z302 e_z302 => ?_)
        unfold in32 at g_z302
        refine x_A k231_897 (fun _ => rfl) ?_
        refine x_A k231_898 (fun _ => rfl) ?_
        refine x_A k231_899 (fun _ => rfl) ?_
        refine x_iadd k231_900 ?_
        refine x_top (fun z303 e_z303 => ?_)
        refine x_scr k231_901 hN ⟨by omega, by omega⟩ (fun z304 g_z304 e_z304 => ?_)
        unfold in32 at g_z304
        refine x_A k231_902 (fun _ => rfl) ?_
        refine x_A k231_903 (fun _ => rfl) ?_
        refine x_A k231_904 (fun _ => rfl) ?_
        refine x_iadd k231_905 ?_
        refine x_top (fun z305 e_z305 => ?_)
        refine x_scr k231_906 hN ⟨by omega, by omega⟩ (fun z306 g_z306 e_z306 => ?_)
        unfold in32 at g_z306
        refine x_A k231_907 (fun _ => rfl) ?_
        refine x_A k231_908 (fun _ => rfl) ?_
        refine x_A k231_909 (fun _ => rfl) ?_
        refine x_iadd k231_910 ?_
        refine x_top (fun z307 e_z307 => ?_)
        refine x_scr k231_911 hN ⟨by omega, by omega⟩ (fun z308 g_z308 e_z308 => ?_)
        unfold in32 at g_z308
        refine x_A k231_912 (fun _ => rfl) ?_
        refine x_A k231_913 (fun _ => rfl) ?_
        refine x_A k231_914 (fun _ => rfl) ?_
        refine x_iadd k231_915 ?_
        refine x_top (fun z309 e_z309 => ?_)
        refine x_scr k231_916 hN ⟨by omega, by omega⟩ (fun z310 g_z310 e_z310 => ?_)
        unfold in32 at g_z310
        refine x_callV k231_917 (y := 112) (n := 5) (w0 := 0) (w1 := 5) (as := [vi z302, vi z304, vi z306, vi z308, vi z310]) (rest := []) (by decide +kernel) (q := 0) (nq := 12) (kq := 3) ⟨by decide, rfl⟩ rfl rfl rfl rfl (xe_mono (C_X10_hands_0 s hG i_J z302 (by first | exact x_rbe e_z302 g_z302 rfl rfl | exact x_rb g_z302 rfl rfl | exact ⟨by omega, by omega⟩) z304 (by first | exact x_rbe e_z304 g_z304 rfl rfl | exact x_rb g_z304 rfl rfl | exact ⟨by omega, by omega⟩) z306 (by first | exact x_rbe e_z306 g_z306 rfl rfl | exact x_rb g_z306 rfl rfl | exact ⟨by omega, by omega⟩) z308 (by first | exact x_rbe e_z308 g_z308 rfl rfl | exact x_rb g_z308 rfl rfl | exact ⟨by omega, by omega⟩) z310 (by first | exact x_rbe e_z310 g_z310 rfl rfl | exact x_rb g_z310 rfl rfl | exact ⟨by omega, by omega⟩)) ?_)
        rintro s312 v ⟨hG_s312, t_s312, z311, rfl, g_z311⟩
        have J_s312 : J s312 := J.fl i_J t_s312 (by decide +kernel)
        have T0_s312 : T0 s312 := T0.fl i_T0 t_s312 (by decide +kernel)
        show xe (some (N, xs)) 231 920 [(0, .ref 2000), (1, .ref 0), (2, .ref 256), (3, vi x3)] [vi z311] s312 295 10442 _
        refine x_A k231_920 (fun _ => rfl) ?_
        refine x_A k231_921 (fun _ => rfl) ?_
        refine x_A k231_922 (fun _ => rfl) ?_
        refine x_A k231_923 (fun _ => rfl) ?_
        refine x_A k231_924 (fun _ => rfl) ?_
        refine x_iadd k231_925 ?_
        refine x_top (fun z313 e_z313 => ?_)
        refine x_scr k231_926 hN ⟨by omega, by omega⟩ (fun z314 g_z314 e_z314 => ?_)
        unfold in32 at g_z314
        have q_z314 : z314 = z302 := by rw [e_z314, e_z302, show z313 = z301 by omega]
        refine x_A k231_927 (fun _ => rfl) ?_
        refine x_A k231_928 (fun _ => rfl) ?_
        refine x_A k231_929 (fun _ => rfl) ?_
        refine x_iadd k231_930 ?_
        refine x_top (fun z315 e_z315 => ?_)
        refine x_scr k231_931 hN ⟨by omega, by omega⟩ (fun z316 g_z316 e_z316 => ?_)
        unfold in32 at g_z316
        have q_z316 : z316 = z304 := by rw [e_z316, e_z304, show z315 = z303 by omega]
        refine x_A k231_932 (fun _ => rfl) ?_
        refine x_A k231_933 (fun _ => rfl) ?_
        refine x_A k231_934 (fun _ => rfl) ?_
        refine x_iadd k231_935 ?_
        refine x_top (fun z317 e_z317 => ?_)
        refine x_scr k231_936 hN ⟨by omega, by omega⟩ (fun z318 g_z318 e_z318 => ?_)
        unfold in32 at g_z318
        have q_z318 : z318 = z306 := by rw [e_z318, e_z306, show z317 = z305 by omega]
        refine x_A k231_937 (fun _ => rfl) ?_
        refine x_A k231_938 (fun _ => rfl) ?_
        refine x_A k231_939 (fun _ => rfl) ?_
        refine x_iadd k231_940 ?_
        refine x_top (fun z319 e_z319 => ?_)
        refine x_scr k231_941 hN ⟨by omega, by omega⟩ (fun z320 g_z320 e_z320 => ?_)
        unfold in32 at g_z320
        have q_z320 : z320 = z308 := by rw [e_z320, e_z308, show z319 = z307 by omega]
        refine x_A k231_942 (fun _ => rfl) ?_
        refine x_A k231_943 (fun _ => rfl) ?_
        refine x_A k231_944 (fun _ => rfl) ?_
        refine x_iadd k231_945 ?_
        refine x_top (fun z321 e_z321 => ?_)
        refine x_scr k231_946 hN ⟨by omega, by omega⟩ (fun z322 g_z322 e_z322 => ?_)
        unfold in32 at g_z322
        have q_z322 : z322 = z310 := by rw [e_z322, e_z310, show z321 = z309 by omega]
        refine x_callV k231_947 (y := 206) (n := 5) (w0 := 0) (w1 := 5) (as := [vi z314, vi z316, vi z318, vi z320, vi z322]) (rest := []) (by decide +kernel) (q := 256) (nq := 62) (kq := 15) ⟨by decide, rfl⟩ rfl rfl rfl rfl (xe_mono (C_X11_hands_256 s312 hG_s312 J_s312 z314 (by first | exact x_rbe e_z314 g_z314 rfl rfl | exact x_rb g_z314 rfl rfl | exact ⟨by omega, by omega⟩) z316 (by first | exact x_rbe e_z316 g_z316 rfl rfl | exact x_rb g_z316 rfl rfl | exact ⟨by omega, by omega⟩) z318 (by first | exact x_rbe e_z318 g_z318 rfl rfl | exact x_rb g_z318 rfl rfl | exact ⟨by omega, by omega⟩) z320 (by first | exact x_rbe e_z320 g_z320 rfl rfl | exact x_rb g_z320 rfl rfl | exact ⟨by omega, by omega⟩) z322 (by first | exact x_rbe e_z322 g_z322 rfl rfl | exact x_rb g_z322 rfl rfl | exact ⟨by omega, by omega⟩)) ?_)
        rintro s324 v ⟨hG_s324, t_s324, z323, rfl, g_z323⟩
        have J_s324 : J s324 := J.fl J_s312 t_s324 (by decide +kernel)
        have T0_s324 : T0 s324 := T0.fl T0_s312 t_s324 (by decide +kernel)
        show xe (some (N, xs)) 231 950 [(0, .ref 2000), (1, .ref 0), (2, .ref 256), (3, vi x3)] [vi z323] s324 295 10442 _
        refine x_A k231_950 (fun _ => rfl) ?_
        refine x_goto k231_951 (t := 1300) rfl ?_
        refine x_iinc k231_1300 (ls' := [(3, vi (x3 + 7)), (0, .ref 2000), (1, .ref 0), (2, .ref 256)]) rfl (by decide) rfl ?_
        refine x_goto k231_1303 (t := 18) rfl ?_
        refine x_ls (l := [(0, .ref 2000), (1, .ref 0), (2, .ref 256), (3, vi (x3 + 7))]) (show ([0, 1, 2, 3] : List Nat).Nodup from by decide +kernel) ⟨rfl, rfl, rfl, rfl, trivial⟩ ?_
        exact ih s324 (x3 + 7) hG_s324 trivial ⟨by omega, by omega⟩ J_s324 T0_s324  (by omega)
      · rw [c5]
        refine x_B k231_33 rfl (fun _ => rfl) (fun _ => rfl) (fun _ _ => rfl) ?_
        show xe (some (N, xs)) 231 954 [(0, .ref 2000), (1, .ref 0), (2, .ref 256), (3, vi x3)] [] s 295 10442 _
        refine x_A k231_954 (fun _ => rfl) ?_
        refine x_A k231_955 (fun _ => rfl) ?_
        refine x_A k231_956 (fun _ => rfl) ?_
        refine x_A k231_957 (fun _ => rfl) ?_
        refine x_iadd k231_958 ?_
        refine x_top (fun z325 e_z325 => ?_)
        refine x_scr k231_959 hN ⟨by omega, by omega⟩ (fun z326 g_z326 e_z326 => ?_)
        unfold in32 at g_z326
        refine x_A k231_960 (fun _ => rfl) ?_
        refine x_A k231_961 (fun _ => rfl) ?_
        refine x_A k231_962 (fun _ => rfl) ?_
        refine x_iadd k231_963 ?_
        refine x_top (fun z327 e_z327 => ?_)
        refine x_scr k231_964 hN ⟨by omega, by omega⟩ (fun z328 g_z328 e_z328 => ?_)
        unfold in32 at g_z328
        refine x_A k231_965 (fun _ => rfl) ?_
        refine x_A k231_966 (fun _ => rfl) ?_
        refine x_A k231_967 (fun _ => rfl) ?_
        refine x_iadd k231_968 ?_
        refine x_top (fun z329 e_z329 => ?_)
        refine x_scr k231_969 hN ⟨by omega, by omega⟩ (fun z330 g_z330 e_z330 => ?_)
        unfold in32 at g_z330
        refine x_A k231_970 (fun _ => rfl) ?_
        refine x_A k231_971 (fun _ => rfl) ?_
        refine x_A k231_972 (fun _ => rfl) ?_
        refine x_iadd k231_973 ?_
        refine x_top (fun z331 e_z331 => ?_)
        refine x_scr k231_974 hN ⟨by omega, by omega⟩ (fun z332 g_z332 e_z332 => ?_)
        unfold in32 at g_z332
        refine x_A k231_975 (fun _ => rfl) ?_
        refine x_A k231_976 (fun _ => rfl) ?_
        refine x_A k231_977 (fun _ => rfl) ?_
        refine x_iadd k231_978 ?_
        refine x_top (fun z333 e_z333 => ?_)
        refine x_scr k231_979 hN ⟨by omega, by omega⟩ (fun z334 g_z334 e_z334 => ?_)
        unfold in32 at g_z334
        refine x_A k231_980 (fun _ => rfl) ?_
        refine x_A k231_981 (fun _ => rfl) ?_
        refine x_bipush k231_982 (by decide +kernel) ?_
        refine x_iadd k231_984 ?_
        refine x_top (fun z335 e_z335 => ?_)
        refine x_scr k231_985 hN ⟨by omega, by omega⟩ (fun z336 g_z336 e_z336 => ?_)
        unfold in32 at g_z336
        refine x_callV k231_986 (y := 113) (n := 6) (w0 := 0) (w1 := 6) (as := [vi z326, vi z328, vi z330, vi z332, vi z334, vi z336]) (rest := []) (by decide +kernel) (q := 0) (nq := 12) (kq := 3) ⟨by decide, rfl⟩ rfl rfl rfl rfl (xe_mono (C_X10_together_0 s hG i_J z326 (by first | exact x_rbe e_z326 g_z326 rfl rfl | exact x_rb g_z326 rfl rfl | exact ⟨by omega, by omega⟩) z328 (by first | exact x_rbe e_z328 g_z328 rfl rfl | exact x_rb g_z328 rfl rfl | exact ⟨by omega, by omega⟩) z330 (by first | exact x_rbe e_z330 g_z330 rfl rfl | exact x_rb g_z330 rfl rfl | exact ⟨by omega, by omega⟩) z332 (by first | exact x_rbe e_z332 g_z332 rfl rfl | exact x_rb g_z332 rfl rfl | exact ⟨by omega, by omega⟩) z334 (by first | exact x_rbe e_z334 g_z334 rfl rfl | exact x_rb g_z334 rfl rfl | exact ⟨by omega, by omega⟩) z336 (by first | exact x_rbe e_z336 g_z336 rfl rfl | exact x_rb g_z336 rfl rfl | exact ⟨by omega, by omega⟩)) ?_)
        rintro s338 v ⟨hG_s338, t_s338, z337, rfl, g_z337⟩
        have J_s338 : J s338 := J.fl i_J t_s338 (by decide +kernel)
        have T0_s338 : T0 s338 := T0.fl i_T0 t_s338 (by decide +kernel)
        show xe (some (N, xs)) 231 989 [(0, .ref 2000), (1, .ref 0), (2, .ref 256), (3, vi x3)] [vi z337] s338 295 10442 _
        refine x_A k231_989 (fun _ => rfl) ?_
        refine x_A k231_990 (fun _ => rfl) ?_
        refine x_A k231_991 (fun _ => rfl) ?_
        refine x_A k231_992 (fun _ => rfl) ?_
        refine x_A k231_993 (fun _ => rfl) ?_
        refine x_iadd k231_994 ?_
        refine x_top (fun z339 e_z339 => ?_)
        refine x_scr k231_995 hN ⟨by omega, by omega⟩ (fun z340 g_z340 e_z340 => ?_)
        unfold in32 at g_z340
        have q_z340 : z340 = z326 := by rw [e_z340, e_z326, show z339 = z325 by omega]
        refine x_A k231_996 (fun _ => rfl) ?_
        refine x_A k231_997 (fun _ => rfl) ?_
        refine x_A k231_998 (fun _ => rfl) ?_
        refine x_iadd k231_999 ?_
        refine x_top (fun z341 e_z341 => ?_)
        refine x_scr k231_1000 hN ⟨by omega, by omega⟩ (fun z342 g_z342 e_z342 => ?_)
        unfold in32 at g_z342
        have q_z342 : z342 = z328 := by rw [e_z342, e_z328, show z341 = z327 by omega]
        refine x_A k231_1001 (fun _ => rfl) ?_
        refine x_A k231_1002 (fun _ => rfl) ?_
        refine x_A k231_1003 (fun _ => rfl) ?_
        refine x_iadd k231_1004 ?_
        refine x_top (fun z343 e_z343 => ?_)
        refine x_scr k231_1005 hN ⟨by omega, by omega⟩ (fun z344 g_z344 e_z344 => ?_)
        unfold in32 at g_z344
        have q_z344 : z344 = z330 := by rw [e_z344, e_z330, show z343 = z329 by omega]
        refine x_A k231_1006 (fun _ => rfl) ?_
        refine x_A k231_1007 (fun _ => rfl) ?_
        refine x_A k231_1008 (fun _ => rfl) ?_
        refine x_iadd k231_1009 ?_
        refine x_top (fun z345 e_z345 => ?_)
        refine x_scr k231_1010 hN ⟨by omega, by omega⟩ (fun z346 g_z346 e_z346 => ?_)
        unfold in32 at g_z346
        have q_z346 : z346 = z332 := by rw [e_z346, e_z332, show z345 = z331 by omega]
        refine x_A k231_1011 (fun _ => rfl) ?_
        refine x_A k231_1012 (fun _ => rfl) ?_
        refine x_A k231_1013 (fun _ => rfl) ?_
        refine x_iadd k231_1014 ?_
        refine x_top (fun z347 e_z347 => ?_)
        refine x_scr k231_1015 hN ⟨by omega, by omega⟩ (fun z348 g_z348 e_z348 => ?_)
        unfold in32 at g_z348
        have q_z348 : z348 = z334 := by rw [e_z348, e_z334, show z347 = z333 by omega]
        refine x_A k231_1016 (fun _ => rfl) ?_
        refine x_A k231_1017 (fun _ => rfl) ?_
        refine x_bipush k231_1018 (by decide +kernel) ?_
        refine x_iadd k231_1020 ?_
        refine x_top (fun z349 e_z349 => ?_)
        refine x_scr k231_1021 hN ⟨by omega, by omega⟩ (fun z350 g_z350 e_z350 => ?_)
        unfold in32 at g_z350
        have q_z350 : z350 = z336 := by rw [e_z350, e_z336, show z349 = z335 by omega]
        refine x_callV k231_1022 (y := 208) (n := 6) (w0 := 0) (w1 := 6) (as := [vi z340, vi z342, vi z344, vi z346, vi z348, vi z350]) (rest := []) (by decide +kernel) (q := 256) (nq := 62) (kq := 15) ⟨by decide, rfl⟩ rfl rfl rfl rfl (xe_mono (C_X11_together_256 s338 hG_s338 J_s338 z340 (by first | exact x_rbe e_z340 g_z340 rfl rfl | exact x_rb g_z340 rfl rfl | exact ⟨by omega, by omega⟩) z342 (by first | exact x_rbe e_z342 g_z342 rfl rfl | exact x_rb g_z342 rfl rfl | exact ⟨by omega, by omega⟩) z344 (by first | exact x_rbe e_z344 g_z344 rfl rfl | exact x_rb g_z344 rfl rfl | exact ⟨by omega, by omega⟩) z346 (by first | exact x_rbe e_z346 g_z346 rfl rfl | exact x_rb g_z346 rfl rfl | exact ⟨by omega, by omega⟩) z348 (by first | exact x_rbe e_z348 g_z348 rfl rfl | exact x_rb g_z348 rfl rfl | exact ⟨by omega, by omega⟩) z350 (by first | exact x_rbe e_z350 g_z350 rfl rfl | exact x_rb g_z350 rfl rfl | exact ⟨by omega, by omega⟩)) ?_)
        rintro s352 v ⟨hG_s352, t_s352, z351, rfl, g_z351⟩
        have J_s352 : J s352 := J.fl J_s338 t_s352 (by decide +kernel)
        have T0_s352 : T0 s352 := T0.fl T0_s338 t_s352 (by decide +kernel)
        show xe (some (N, xs)) 231 1025 [(0, .ref 2000), (1, .ref 0), (2, .ref 256), (3, vi x3)] [vi z351] s352 295 10442 _
        refine x_A k231_1025 (fun _ => rfl) ?_
        refine x_goto k231_1026 (t := 1300) rfl ?_
        refine x_iinc k231_1300 (ls' := [(3, vi (x3 + 7)), (0, .ref 2000), (1, .ref 0), (2, .ref 256)]) rfl (by decide) rfl ?_
        refine x_goto k231_1303 (t := 18) rfl ?_
        refine x_ls (l := [(0, .ref 2000), (1, .ref 0), (2, .ref 256), (3, vi (x3 + 7))]) (show ([0, 1, 2, 3] : List Nat).Nodup from by decide +kernel) ⟨rfl, rfl, rfl, rfl, trivial⟩ ?_
        exact ih s352 (x3 + 7) hG_s352 trivial ⟨by omega, by omega⟩ J_s352 T0_s352  (by omega)
      · rw [c5]
        refine x_B k231_33 rfl (fun _ => rfl) (fun _ => rfl) (fun _ _ => rfl) ?_
        show xe (some (N, xs)) 231 1029 [(0, .ref 2000), (1, .ref 0), (2, .ref 256), (3, vi x3)] [] s 295 10442 _
        refine x_A k231_1029 (fun _ => rfl) ?_
        refine x_A k231_1030 (fun _ => rfl) ?_
        refine x_A k231_1031 (fun _ => rfl) ?_
        refine x_A k231_1032 (fun _ => rfl) ?_
        refine x_iadd k231_1033 ?_
        refine x_top (fun z353 e_z353 => ?_)
        refine x_scr k231_1034 hN ⟨by omega, by omega⟩ (fun z354 g_z354 e_z354 => ?_)
        unfold in32 at g_z354
        refine x_A k231_1035 (fun _ => rfl) ?_
        refine x_A k231_1036 (fun _ => rfl) ?_
        refine x_A k231_1037 (fun _ => rfl) ?_
        refine x_iadd k231_1038 ?_
        refine x_top (fun z355 e_z355 => ?_)
        refine x_scr k231_1039 hN ⟨by omega, by omega⟩ (fun z356 g_z356 e_z356 => ?_)
        unfold in32 at g_z356
        refine x_A k231_1040 (fun _ => rfl) ?_
        refine x_A k231_1041 (fun _ => rfl) ?_
        refine x_A k231_1042 (fun _ => rfl) ?_
        refine x_iadd k231_1043 ?_
        refine x_top (fun z357 e_z357 => ?_)
        refine x_scr k231_1044 hN ⟨by omega, by omega⟩ (fun z358 g_z358 e_z358 => ?_)
        unfold in32 at g_z358
        refine x_callV k231_1045 (y := 114) (n := 3) (w0 := 0) (w1 := 3) (as := [vi z354, vi z356, vi z358]) (rest := []) (by decide +kernel) (q := 0) (nq := 12) (kq := 3) ⟨by decide, rfl⟩ rfl rfl rfl rfl (xe_mono (C_X10_along_0 s hG i_J z354 (by first | exact x_rbe e_z354 g_z354 rfl rfl | exact x_rb g_z354 rfl rfl | exact ⟨by omega, by omega⟩) z356 (by first | exact x_rbe e_z356 g_z356 rfl rfl | exact x_rb g_z356 rfl rfl | exact ⟨by omega, by omega⟩) z358 (by first | exact x_rbe e_z358 g_z358 rfl rfl | exact x_rb g_z358 rfl rfl | exact ⟨by omega, by omega⟩)) ?_)
        rintro s360 v ⟨hG_s360, t_s360, z359, rfl, g_z359⟩
        have J_s360 : J s360 := J.fl i_J t_s360 (by decide +kernel)
        have T0_s360 : T0 s360 := T0.fl i_T0 t_s360 (by decide +kernel)
        show xe (some (N, xs)) 231 1048 [(0, .ref 2000), (1, .ref 0), (2, .ref 256), (3, vi x3)] [vi z359] s360 295 10442 _
        refine x_A k231_1048 (fun _ => rfl) ?_
        refine x_A k231_1049 (fun _ => rfl) ?_
        refine x_A k231_1050 (fun _ => rfl) ?_
        refine x_A k231_1051 (fun _ => rfl) ?_
        refine x_A k231_1052 (fun _ => rfl) ?_
        refine x_iadd k231_1053 ?_
        refine x_top (fun z361 e_z361 => ?_)
        refine x_scr k231_1054 hN ⟨by omega, by omega⟩ (fun z362 g_z362 e_z362 => ?_)
        unfold in32 at g_z362
        have q_z362 : z362 = z354 := by rw [e_z362, e_z354, show z361 = z353 by omega]
        refine x_A k231_1055 (fun _ => rfl) ?_
        refine x_A k231_1056 (fun _ => rfl) ?_
        refine x_A k231_1057 (fun _ => rfl) ?_
        refine x_iadd k231_1058 ?_
        refine x_top (fun z363 e_z363 => ?_)
        refine x_scr k231_1059 hN ⟨by omega, by omega⟩ (fun z364 g_z364 e_z364 => ?_)
        unfold in32 at g_z364
        have q_z364 : z364 = z356 := by rw [e_z364, e_z356, show z363 = z355 by omega]
        refine x_A k231_1060 (fun _ => rfl) ?_
        refine x_A k231_1061 (fun _ => rfl) ?_
        refine x_A k231_1062 (fun _ => rfl) ?_
        refine x_iadd k231_1063 ?_
        refine x_top (fun z365 e_z365 => ?_)
        refine x_scr k231_1064 hN ⟨by omega, by omega⟩ (fun z366 g_z366 e_z366 => ?_)
        unfold in32 at g_z366
        have q_z366 : z366 = z358 := by rw [e_z366, e_z358, show z365 = z357 by omega]
        refine x_callV k231_1065 (y := 211) (n := 3) (w0 := 0) (w1 := 3) (as := [vi z362, vi z364, vi z366]) (rest := []) (by decide +kernel) (q := 256) (nq := 62) (kq := 15) ⟨by decide, rfl⟩ rfl rfl rfl rfl (xe_mono (C_X11_along_256 s360 hG_s360 J_s360 z362 (by first | exact x_rbe e_z362 g_z362 rfl rfl | exact x_rb g_z362 rfl rfl | exact ⟨by omega, by omega⟩) z364 (by first | exact x_rbe e_z364 g_z364 rfl rfl | exact x_rb g_z364 rfl rfl | exact ⟨by omega, by omega⟩) z366 (by first | exact x_rbe e_z366 g_z366 rfl rfl | exact x_rb g_z366 rfl rfl | exact ⟨by omega, by omega⟩)) ?_)
        rintro s368 v ⟨hG_s368, t_s368, z367, rfl, g_z367⟩
        have J_s368 : J s368 := J.fl J_s360 t_s368 (by decide +kernel)
        have T0_s368 : T0 s368 := T0.fl T0_s360 t_s368 (by decide +kernel)
        show xe (some (N, xs)) 231 1068 [(0, .ref 2000), (1, .ref 0), (2, .ref 256), (3, vi x3)] [vi z367] s368 295 10442 _
        refine x_A k231_1068 (fun _ => rfl) ?_
        refine x_goto k231_1069 (t := 1300) rfl ?_
        refine x_iinc k231_1300 (ls' := [(3, vi (x3 + 7)), (0, .ref 2000), (1, .ref 0), (2, .ref 256)]) rfl (by decide) rfl ?_
        refine x_goto k231_1303 (t := 18) rfl ?_
        refine x_ls (l := [(0, .ref 2000), (1, .ref 0), (2, .ref 256), (3, vi (x3 + 7))]) (show ([0, 1, 2, 3] : List Nat).Nodup from by decide +kernel) ⟨rfl, rfl, rfl, rfl, trivial⟩ ?_
        exact ih s368 (x3 + 7) hG_s368 trivial ⟨by omega, by omega⟩ J_s368 T0_s368  (by omega)
      · rw [c5]
        refine x_B k231_33 rfl (fun _ => rfl) (fun _ => rfl) (fun _ _ => rfl) ?_
        show xe (some (N, xs)) 231 1072 [(0, .ref 2000), (1, .ref 0), (2, .ref 256), (3, vi x3)] [] s 295 10442 _
        refine x_A k231_1072 (fun _ => rfl) ?_
        refine x_A k231_1073 (fun _ => rfl) ?_
        refine x_A k231_1074 (fun _ => rfl) ?_
        refine x_A k231_1075 (fun _ => rfl) ?_
        refine x_iadd k231_1076 ?_
        refine x_top (fun z369 e_z369 => ?_)
        refine x_scr k231_1077 hN ⟨by omega, by omega⟩ (fun z370 g_z370 e_z370 => ?_)
        unfold in32 at g_z370
        refine x_A k231_1078 (fun _ => rfl) ?_
        refine x_A k231_1079 (fun _ => rfl) ?_
        refine x_A k231_1080 (fun _ => rfl) ?_
        refine x_iadd k231_1081 ?_
        refine x_top (fun z371 e_z371 => ?_)
        refine x_scr k231_1082 hN ⟨by omega, by omega⟩ (fun z372 g_z372 e_z372 => ?_)
        unfold in32 at g_z372
        refine x_A k231_1083 (fun _ => rfl) ?_
        refine x_A k231_1084 (fun _ => rfl) ?_
        refine x_A k231_1085 (fun _ => rfl) ?_
        refine x_iadd k231_1086 ?_
        refine x_top (fun z373 e_z373 => ?_)
        refine x_scr k231_1087 hN ⟨by omega, by omega⟩ (fun z374 g_z374 e_z374 => ?_)
        unfold in32 at g_z374
        refine x_callV k231_1088 (y := 115) (n := 3) (w0 := 0) (w1 := 3) (as := [vi z370, vi z372, vi z374]) (rest := []) (by decide +kernel) (q := 0) (nq := 12) (kq := 3) ⟨by decide, rfl⟩ rfl rfl rfl rfl (xe_mono (C_X10_likely_0 s hG i_J z370 (by first | exact x_rbe e_z370 g_z370 rfl rfl | exact x_rb g_z370 rfl rfl | exact ⟨by omega, by omega⟩) z372 (by first | exact x_rbe e_z372 g_z372 rfl rfl | exact x_rb g_z372 rfl rfl | exact ⟨by omega, by omega⟩) z374 (by first | exact x_rbe e_z374 g_z374 rfl rfl | exact x_rb g_z374 rfl rfl | exact ⟨by omega, by omega⟩)) ?_)
        rintro s376 v ⟨hG_s376, t_s376, z375, rfl, g_z375⟩
        have J_s376 : J s376 := J.fl i_J t_s376 (by decide +kernel)
        have T0_s376 : T0 s376 := T0.fl i_T0 t_s376 (by decide +kernel)
        show xe (some (N, xs)) 231 1091 [(0, .ref 2000), (1, .ref 0), (2, .ref 256), (3, vi x3)] [vi z375] s376 295 10442 _
        refine x_A k231_1091 (fun _ => rfl) ?_
        refine x_A k231_1092 (fun _ => rfl) ?_
        refine x_A k231_1093 (fun _ => rfl) ?_
        refine x_A k231_1094 (fun _ => rfl) ?_
        refine x_A k231_1095 (fun _ => rfl) ?_
        refine x_iadd k231_1096 ?_
        refine x_top (fun z377 e_z377 => ?_)
        refine x_scr k231_1097 hN ⟨by omega, by omega⟩ (fun z378 g_z378 e_z378 => ?_)
        unfold in32 at g_z378
        have q_z378 : z378 = z370 := by rw [e_z378, e_z370, show z377 = z369 by omega]
        refine x_A k231_1098 (fun _ => rfl) ?_
        refine x_A k231_1099 (fun _ => rfl) ?_
        refine x_A k231_1100 (fun _ => rfl) ?_
        refine x_iadd k231_1101 ?_
        refine x_top (fun z379 e_z379 => ?_)
        refine x_scr k231_1102 hN ⟨by omega, by omega⟩ (fun z380 g_z380 e_z380 => ?_)
        unfold in32 at g_z380
        have q_z380 : z380 = z372 := by rw [e_z380, e_z372, show z379 = z371 by omega]
        refine x_A k231_1103 (fun _ => rfl) ?_
        refine x_A k231_1104 (fun _ => rfl) ?_
        refine x_A k231_1105 (fun _ => rfl) ?_
        refine x_iadd k231_1106 ?_
        refine x_top (fun z381 e_z381 => ?_)
        refine x_scr k231_1107 hN ⟨by omega, by omega⟩ (fun z382 g_z382 e_z382 => ?_)
        unfold in32 at g_z382
        have q_z382 : z382 = z374 := by rw [e_z382, e_z374, show z381 = z373 by omega]
        refine x_callV k231_1108 (y := 212) (n := 3) (w0 := 0) (w1 := 3) (as := [vi z378, vi z380, vi z382]) (rest := []) (by decide +kernel) (q := 256) (nq := 62) (kq := 15) ⟨by decide, rfl⟩ rfl rfl rfl rfl (xe_mono (C_X11_likely_256 s376 hG_s376 J_s376 z378 (by first | exact x_rbe e_z378 g_z378 rfl rfl | exact x_rb g_z378 rfl rfl | exact ⟨by omega, by omega⟩) z380 (by first | exact x_rbe e_z380 g_z380 rfl rfl | exact x_rb g_z380 rfl rfl | exact ⟨by omega, by omega⟩) z382 (by first | exact x_rbe e_z382 g_z382 rfl rfl | exact x_rb g_z382 rfl rfl | exact ⟨by omega, by omega⟩)) ?_)
        rintro s384 v ⟨hG_s384, t_s384, z383, rfl, g_z383⟩
        have J_s384 : J s384 := J.fl J_s376 t_s384 (by decide +kernel)
        have T0_s384 : T0 s384 := T0.fl T0_s376 t_s384 (by decide +kernel)
        show xe (some (N, xs)) 231 1111 [(0, .ref 2000), (1, .ref 0), (2, .ref 256), (3, vi x3)] [vi z383] s384 295 10442 _
        refine x_A k231_1111 (fun _ => rfl) ?_
        refine x_goto k231_1112 (t := 1300) rfl ?_
        refine x_iinc k231_1300 (ls' := [(3, vi (x3 + 7)), (0, .ref 2000), (1, .ref 0), (2, .ref 256)]) rfl (by decide) rfl ?_
        refine x_goto k231_1303 (t := 18) rfl ?_
        refine x_ls (l := [(0, .ref 2000), (1, .ref 0), (2, .ref 256), (3, vi (x3 + 7))]) (show ([0, 1, 2, 3] : List Nat).Nodup from by decide +kernel) ⟨rfl, rfl, rfl, rfl, trivial⟩ ?_
        exact ih s384 (x3 + 7) hG_s384 trivial ⟨by omega, by omega⟩ J_s384 T0_s384  (by omega)
      · rw [c5]
        refine x_B k231_33 rfl (fun _ => rfl) (fun _ => rfl) (fun _ _ => rfl) ?_
        show xe (some (N, xs)) 231 1115 [(0, .ref 2000), (1, .ref 0), (2, .ref 256), (3, vi x3)] [] s 295 10442 _
        refine x_A k231_1115 (fun _ => rfl) ?_
        refine x_A k231_1116 (fun _ => rfl) ?_
        refine x_A k231_1117 (fun _ => rfl) ?_
        refine x_A k231_1118 (fun _ => rfl) ?_
        refine x_iadd k231_1119 ?_
        refine x_top (fun z385 e_z385 => ?_)
        refine x_scr k231_1120 hN ⟨by omega, by omega⟩ (fun z386 g_z386 e_z386 => ?_)
        unfold in32 at g_z386
        refine x_A k231_1121 (fun _ => rfl) ?_
        refine x_A k231_1122 (fun _ => rfl) ?_
        refine x_A k231_1123 (fun _ => rfl) ?_
        refine x_iadd k231_1124 ?_
        refine x_top (fun z387 e_z387 => ?_)
        refine x_scr k231_1125 hN ⟨by omega, by omega⟩ (fun z388 g_z388 e_z388 => ?_)
        unfold in32 at g_z388
        refine x_callV k231_1126 (y := 116) (n := 2) (w0 := 0) (w1 := 2) (as := [vi z386, vi z388]) (rest := []) (by decide +kernel) (q := 0) (nq := 12) (kq := 3) ⟨by decide, rfl⟩ rfl rfl rfl rfl (xe_mono (C_X10_lacking_0 s hG i_J z386 (by first | exact x_rbe e_z386 g_z386 rfl rfl | exact x_rb g_z386 rfl rfl | exact ⟨by omega, by omega⟩) z388 (by first | exact x_rbe e_z388 g_z388 rfl rfl | exact x_rb g_z388 rfl rfl | exact ⟨by omega, by omega⟩)) ?_)
        rintro s390 v ⟨hG_s390, t_s390, z389, rfl, b_z389⟩
        have J_s390 : J s390 := J.fl i_J t_s390 (by decide +kernel)
        have T0_s390 : T0 s390 := T0.fl i_T0 t_s390 (by decide +kernel)
        show xe (some (N, xs)) 231 1129 [(0, .ref 2000), (1, .ref 0), (2, .ref 256), (3, vi x3)] [vj z389] s390 295 10442 _
        refine x_A k231_1129 (fun _ => rfl) ?_
        refine x_A k231_1130 (fun _ => rfl) ?_
        refine x_A k231_1131 (fun _ => rfl) ?_
        refine x_A k231_1132 (fun _ => rfl) ?_
        refine x_A k231_1133 (fun _ => rfl) ?_
        refine x_iadd k231_1134 ?_
        refine x_top (fun z391 e_z391 => ?_)
        refine x_scr k231_1135 hN ⟨by omega, by omega⟩ (fun z392 g_z392 e_z392 => ?_)
        unfold in32 at g_z392
        have q_z392 : z392 = z386 := by rw [e_z392, e_z386, show z391 = z385 by omega]
        refine x_A k231_1136 (fun _ => rfl) ?_
        refine x_A k231_1137 (fun _ => rfl) ?_
        refine x_A k231_1138 (fun _ => rfl) ?_
        refine x_iadd k231_1139 ?_
        refine x_top (fun z393 e_z393 => ?_)
        refine x_scr k231_1140 hN ⟨by omega, by omega⟩ (fun z394 g_z394 e_z394 => ?_)
        unfold in32 at g_z394
        have q_z394 : z394 = z388 := by rw [e_z394, e_z388, show z393 = z387 by omega]
        refine x_callV k231_1141 (y := 214) (n := 2) (w0 := 0) (w1 := 2) (as := [vi z392, vi z394]) (rest := []) (by decide +kernel) (q := 256) (nq := 62) (kq := 15) ⟨by decide, rfl⟩ rfl rfl rfl rfl (xe_mono (C_X11_lacking_256 s390 hG_s390 J_s390 z392 (by first | exact x_rbe e_z392 g_z392 rfl rfl | exact x_rb g_z392 rfl rfl | exact ⟨by omega, by omega⟩) z394 (by first | exact x_rbe e_z394 g_z394 rfl rfl | exact x_rb g_z394 rfl rfl | exact ⟨by omega, by omega⟩)) ?_)
        rintro s396 v ⟨hG_s396, t_s396, z395, rfl, b_z395⟩
        have J_s396 : J s396 := J.fl J_s390 t_s396 (by decide +kernel)
        have T0_s396 : T0 s396 := T0.fl T0_s390 t_s396 (by decide +kernel)
        show xe (some (N, xs)) 231 1144 [(0, .ref 2000), (1, .ref 0), (2, .ref 256), (3, vi x3)] [vj z395] s396 295 10442 _
        refine x_A k231_1144 (fun _ => rfl) ?_
        refine x_goto k231_1145 (t := 1300) rfl ?_
        refine x_iinc k231_1300 (ls' := [(3, vi (x3 + 7)), (0, .ref 2000), (1, .ref 0), (2, .ref 256)]) rfl (by decide) rfl ?_
        refine x_goto k231_1303 (t := 18) rfl ?_
        refine x_ls (l := [(0, .ref 2000), (1, .ref 0), (2, .ref 256), (3, vi (x3 + 7))]) (show ([0, 1, 2, 3] : List Nat).Nodup from by decide +kernel) ⟨rfl, rfl, rfl, rfl, trivial⟩ ?_
        exact ih s396 (x3 + 7) hG_s396 trivial ⟨by omega, by omega⟩ J_s396 T0_s396  (by omega)
      · rw [c5]
        refine x_B k231_33 rfl (fun _ => rfl) (fun _ => rfl) (fun _ _ => rfl) ?_
        show xe (some (N, xs)) 231 1148 [(0, .ref 2000), (1, .ref 0), (2, .ref 256), (3, vi x3)] [] s 295 10442 _
        refine x_A k231_1148 (fun _ => rfl) ?_
        refine x_callV k231_1149 (y := 117) (n := 0) (w0 := 0) (w1 := 0) (as := []) (rest := []) (by decide +kernel) (q := 0) (nq := 12) (kq := 3) ⟨by decide, rfl⟩ rfl rfl rfl rfl (xe_mono (C_X10_story_0 s hG) ?_)
        rintro s398 v ⟨hG_s398, t_s398, z397, rfl, g_z397⟩
        have J_s398 : J s398 := J.fl i_J t_s398 (by decide +kernel)
        have T0_s398 : T0 s398 := T0.fl i_T0 t_s398 (by decide +kernel)
        show xe (some (N, xs)) 231 1152 [(0, .ref 2000), (1, .ref 0), (2, .ref 256), (3, vi x3)] [vi z397] s398 295 10442 _
        refine x_A k231_1152 (fun _ => rfl) ?_
        refine x_A k231_1153 (fun _ => rfl) ?_
        refine x_callV k231_1154 (y := 215) (n := 0) (w0 := 0) (w1 := 0) (as := []) (rest := []) (by decide +kernel) (q := 256) (nq := 62) (kq := 15) ⟨by decide, rfl⟩ rfl rfl rfl rfl (xe_mono (C_X11_story_256 s398 hG_s398) ?_)
        rintro s400 v ⟨hG_s400, t_s400, z399, rfl, g_z399⟩
        have J_s400 : J s400 := J.fl J_s398 t_s400 (by decide +kernel)
        have T0_s400 : T0 s400 := T0.fl T0_s398 t_s400 (by decide +kernel)
        show xe (some (N, xs)) 231 1157 [(0, .ref 2000), (1, .ref 0), (2, .ref 256), (3, vi x3)] [vi z399] s400 295 10442 _
        refine x_A k231_1157 (fun _ => rfl) ?_
        refine x_goto k231_1158 (t := 1300) rfl ?_
        refine x_iinc k231_1300 (ls' := [(3, vi (x3 + 7)), (0, .ref 2000), (1, .ref 0), (2, .ref 256)]) rfl (by decide) rfl ?_
        refine x_goto k231_1303 (t := 18) rfl ?_
        refine x_ls (l := [(0, .ref 2000), (1, .ref 0), (2, .ref 256), (3, vi (x3 + 7))]) (show ([0, 1, 2, 3] : List Nat).Nodup from by decide +kernel) ⟨rfl, rfl, rfl, rfl, trivial⟩ ?_
        exact ih s400 (x3 + 7) hG_s400 trivial ⟨by omega, by omega⟩ J_s400 T0_s400  (by omega)
      · rw [c5]
        refine x_B k231_33 rfl (fun _ => rfl) (fun _ => rfl) (fun _ _ => rfl) ?_
        show xe (some (N, xs)) 231 1161 [(0, .ref 2000), (1, .ref 0), (2, .ref 256), (3, vi x3)] [] s 295 10442 _
        refine x_A k231_1161 (fun _ => rfl) ?_
        refine x_A k231_1162 (fun _ => rfl) ?_
        refine x_A k231_1163 (fun _ => rfl) ?_
        refine x_A k231_1164 (fun _ => rfl) ?_
        refine x_iadd k231_1165 ?_
        refine x_top (fun z401 e_z401 => ?_)
        refine x_scr k231_1166 hN ⟨by omega, by omega⟩ (fun z402 g_z402 e_z402 => ?_)
        unfold in32 at g_z402
        refine x_A k231_1167 (fun _ => rfl) ?_
        refine x_A k231_1168 (fun _ => rfl) ?_
        refine x_A k231_1169 (fun _ => rfl) ?_
        refine x_iadd k231_1170 ?_
        refine x_top (fun z403 e_z403 => ?_)
        refine x_scr k231_1171 hN ⟨by omega, by omega⟩ (fun z404 g_z404 e_z404 => ?_)
        unfold in32 at g_z404
        refine x_A k231_1172 (fun _ => rfl) ?_
        refine x_A k231_1173 (fun _ => rfl) ?_
        refine x_A k231_1174 (fun _ => rfl) ?_
        refine x_iadd k231_1175 ?_
        refine x_top (fun z405 e_z405 => ?_)
        refine x_scr k231_1176 hN ⟨by omega, by omega⟩ (fun z406 g_z406 e_z406 => ?_)
        unfold in32 at g_z406
        refine x_callV k231_1177 (y := 118) (n := 3) (w0 := 0) (w1 := 3) (as := [vi z402, vi z404, vi z406]) (rest := []) (by decide +kernel) (q := 0) (nq := 12) (kq := 3) ⟨by decide, rfl⟩ rfl rfl rfl rfl (xe_mono (C_X10_moment_0 s hG z402 (by first | exact x_rbe e_z402 g_z402 rfl rfl | exact x_rb g_z402 rfl rfl | exact ⟨by omega, by omega⟩) z404 (by first | exact x_rbe e_z404 g_z404 rfl rfl | exact x_rb g_z404 rfl rfl | exact ⟨by omega, by omega⟩) z406 (by first | exact x_rbe e_z406 g_z406 rfl rfl | exact x_rb g_z406 rfl rfl | exact ⟨by omega, by omega⟩)) ?_)
        rintro s408 v ⟨hG_s408, t_s408, z407, rfl, g_z407⟩
        have J_s408 : J s408 := J.fl i_J t_s408 (by decide +kernel)
        have T0_s408 : T0 s408 := T0.fl i_T0 t_s408 (by decide +kernel)
        show xe (some (N, xs)) 231 1180 [(0, .ref 2000), (1, .ref 0), (2, .ref 256), (3, vi x3)] [vi z407] s408 295 10442 _
        refine x_A k231_1180 (fun _ => rfl) ?_
        refine x_A k231_1181 (fun _ => rfl) ?_
        refine x_A k231_1182 (fun _ => rfl) ?_
        refine x_A k231_1183 (fun _ => rfl) ?_
        refine x_A k231_1184 (fun _ => rfl) ?_
        refine x_iadd k231_1185 ?_
        refine x_top (fun z409 e_z409 => ?_)
        refine x_scr k231_1186 hN ⟨by omega, by omega⟩ (fun z410 g_z410 e_z410 => ?_)
        unfold in32 at g_z410
        have q_z410 : z410 = z402 := by rw [e_z410, e_z402, show z409 = z401 by omega]
        refine x_A k231_1187 (fun _ => rfl) ?_
        refine x_A k231_1188 (fun _ => rfl) ?_
        refine x_A k231_1189 (fun _ => rfl) ?_
        refine x_iadd k231_1190 ?_
        refine x_top (fun z411 e_z411 => ?_)
        refine x_scr k231_1191 hN ⟨by omega, by omega⟩ (fun z412 g_z412 e_z412 => ?_)
        unfold in32 at g_z412
        have q_z412 : z412 = z404 := by rw [e_z412, e_z404, show z411 = z403 by omega]
        refine x_A k231_1192 (fun _ => rfl) ?_
        refine x_A k231_1193 (fun _ => rfl) ?_
        refine x_A k231_1194 (fun _ => rfl) ?_
        refine x_iadd k231_1195 ?_
        refine x_top (fun z413 e_z413 => ?_)
        refine x_scr k231_1196 hN ⟨by omega, by omega⟩ (fun z414 g_z414 e_z414 => ?_)
        unfold in32 at g_z414
        have q_z414 : z414 = z406 := by rw [e_z414, e_z406, show z413 = z405 by omega]
        refine x_callV k231_1197 (y := 216) (n := 3) (w0 := 0) (w1 := 3) (as := [vi z410, vi z412, vi z414]) (rest := []) (by decide +kernel) (q := 256) (nq := 62) (kq := 15) ⟨by decide, rfl⟩ rfl rfl rfl rfl (xe_mono (C_X11_moment_256 s408 hG_s408 z410 (by first | exact x_rbe e_z410 g_z410 rfl rfl | exact x_rb g_z410 rfl rfl | exact ⟨by omega, by omega⟩) z412 (by first | exact x_rbe e_z412 g_z412 rfl rfl | exact x_rb g_z412 rfl rfl | exact ⟨by omega, by omega⟩) z414 (by first | exact x_rbe e_z414 g_z414 rfl rfl | exact x_rb g_z414 rfl rfl | exact ⟨by omega, by omega⟩)) ?_)
        rintro s416 v ⟨hG_s416, t_s416, z415, rfl, g_z415⟩
        have J_s416 : J s416 := J.fl J_s408 t_s416 (by decide +kernel)
        have T0_s416 : T0 s416 := T0.fl T0_s408 t_s416 (by decide +kernel)
        show xe (some (N, xs)) 231 1200 [(0, .ref 2000), (1, .ref 0), (2, .ref 256), (3, vi x3)] [vi z415] s416 295 10442 _
        refine x_A k231_1200 (fun _ => rfl) ?_
        refine x_goto k231_1201 (t := 1300) rfl ?_
        refine x_iinc k231_1300 (ls' := [(3, vi (x3 + 7)), (0, .ref 2000), (1, .ref 0), (2, .ref 256)]) rfl (by decide) rfl ?_
        refine x_goto k231_1303 (t := 18) rfl ?_
        refine x_ls (l := [(0, .ref 2000), (1, .ref 0), (2, .ref 256), (3, vi (x3 + 7))]) (show ([0, 1, 2, 3] : List Nat).Nodup from by decide +kernel) ⟨rfl, rfl, rfl, rfl, trivial⟩ ?_
        exact ih s416 (x3 + 7) hG_s416 trivial ⟨by omega, by omega⟩ J_s416 T0_s416  (by omega)
      · rw [c5]
        refine x_B k231_33 rfl (fun _ => rfl) (fun _ => rfl) (fun _ _ => rfl) ?_
        show xe (some (N, xs)) 231 1204 [(0, .ref 2000), (1, .ref 0), (2, .ref 256), (3, vi x3)] [] s 295 10442 _
        refine x_A k231_1204 (fun _ => rfl) ?_
        refine x_A k231_1205 (fun _ => rfl) ?_
        refine x_A k231_1206 (fun _ => rfl) ?_
        refine x_A k231_1207 (fun _ => rfl) ?_
        refine x_iadd k231_1208 ?_
        refine x_top (fun z417 e_z417 => ?_)
        refine x_scr k231_1209 hN ⟨by omega, by omega⟩ (fun z418 g_z418 e_z418 => ?_)
        unfold in32 at g_z418
        refine x_A k231_1210 (fun _ => rfl) ?_
        refine x_A k231_1211 (fun _ => rfl) ?_
        refine x_A k231_1212 (fun _ => rfl) ?_
        refine x_iadd k231_1213 ?_
        refine x_top (fun z419 e_z419 => ?_)
        refine x_scr k231_1214 hN ⟨by omega, by omega⟩ (fun z420 g_z420 e_z420 => ?_)
        unfold in32 at g_z420
        refine x_A k231_1215 (fun _ => rfl) ?_
        refine x_A k231_1216 (fun _ => rfl) ?_
        refine x_A k231_1217 (fun _ => rfl) ?_
        refine x_iadd k231_1218 ?_
        refine x_top (fun z421 e_z421 => ?_)
        refine x_scr k231_1219 hN ⟨by omega, by omega⟩ (fun z422 g_z422 e_z422 => ?_)
        unfold in32 at g_z422
        refine x_A k231_1220 (fun _ => rfl) ?_
        refine x_A k231_1221 (fun _ => rfl) ?_
        refine x_A k231_1222 (fun _ => rfl) ?_
        refine x_iadd k231_1223 ?_
        refine x_top (fun z423 e_z423 => ?_)
        refine x_scr k231_1224 hN ⟨by omega, by omega⟩ (fun z424 g_z424 e_z424 => ?_)
        unfold in32 at g_z424
        refine x_callV k231_1225 (y := 119) (n := 4) (w0 := 0) (w1 := 4) (as := [vi z418, vi z420, vi z422, vi z424]) (rest := []) (by decide +kernel) (q := 0) (nq := 12) (kq := 3) ⟨by decide, rfl⟩ rfl rfl rfl rfl (xe_mono (C_X10_of_0 s hG i_J z418 (by first | exact x_rbe e_z418 g_z418 rfl rfl | exact x_rb g_z418 rfl rfl | exact ⟨by omega, by omega⟩) z420 (by first | exact x_rbe e_z420 g_z420 rfl rfl | exact x_rb g_z420 rfl rfl | exact ⟨by omega, by omega⟩) z422 (by first | exact x_rbe e_z422 g_z422 rfl rfl | exact x_rb g_z422 rfl rfl | exact ⟨by omega, by omega⟩) z424 (by first | exact x_rbe e_z424 g_z424 rfl rfl | exact x_rb g_z424 rfl rfl | exact ⟨by omega, by omega⟩)) ?_)
        rintro s426 v ⟨hG_s426, t_s426, z425, rfl, g_z425⟩
        have J_s426 : J s426 := J.fl i_J t_s426 (by decide +kernel)
        have T0_s426 : T0 s426 := T0.fl i_T0 t_s426 (by decide +kernel)
        show xe (some (N, xs)) 231 1228 [(0, .ref 2000), (1, .ref 0), (2, .ref 256), (3, vi x3)] [vi z425] s426 295 10442 _
        refine x_A k231_1228 (fun _ => rfl) ?_
        refine x_A k231_1229 (fun _ => rfl) ?_
        refine x_A k231_1230 (fun _ => rfl) ?_
        refine x_A k231_1231 (fun _ => rfl) ?_
        refine x_A k231_1232 (fun _ => rfl) ?_
        refine x_iadd k231_1233 ?_
        refine x_top (fun z427 e_z427 => ?_)
        refine x_scr k231_1234 hN ⟨by omega, by omega⟩ (fun z428 g_z428 e_z428 => ?_)
        unfold in32 at g_z428
        have q_z428 : z428 = z418 := by rw [e_z428, e_z418, show z427 = z417 by omega]
        refine x_A k231_1235 (fun _ => rfl) ?_
        refine x_A k231_1236 (fun _ => rfl) ?_
        refine x_A k231_1237 (fun _ => rfl) ?_
        refine x_iadd k231_1238 ?_
        refine x_top (fun z429 e_z429 => ?_)
        refine x_scr k231_1239 hN ⟨by omega, by omega⟩ (fun z430 g_z430 e_z430 => ?_)
        unfold in32 at g_z430
        have q_z430 : z430 = z420 := by rw [e_z430, e_z420, show z429 = z419 by omega]
        refine x_A k231_1240 (fun _ => rfl) ?_
        refine x_A k231_1241 (fun _ => rfl) ?_
        refine x_A k231_1242 (fun _ => rfl) ?_
        refine x_iadd k231_1243 ?_
        refine x_top (fun z431 e_z431 => ?_)
        refine x_scr k231_1244 hN ⟨by omega, by omega⟩ (fun z432 g_z432 e_z432 => ?_)
        unfold in32 at g_z432
        have q_z432 : z432 = z422 := by rw [e_z432, e_z422, show z431 = z421 by omega]
        refine x_A k231_1245 (fun _ => rfl) ?_
        refine x_A k231_1246 (fun _ => rfl) ?_
        refine x_A k231_1247 (fun _ => rfl) ?_
        refine x_iadd k231_1248 ?_
        refine x_top (fun z433 e_z433 => ?_)
        refine x_scr k231_1249 hN ⟨by omega, by omega⟩ (fun z434 g_z434 e_z434 => ?_)
        unfold in32 at g_z434
        have q_z434 : z434 = z424 := by rw [e_z434, e_z424, show z433 = z423 by omega]
        refine x_callV k231_1250 (y := 217) (n := 4) (w0 := 0) (w1 := 4) (as := [vi z428, vi z430, vi z432, vi z434]) (rest := []) (by decide +kernel) (q := 256) (nq := 62) (kq := 15) ⟨by decide, rfl⟩ rfl rfl rfl rfl (xe_mono (C_X11_of_256 s426 hG_s426 J_s426 z428 (by first | exact x_rbe e_z428 g_z428 rfl rfl | exact x_rb g_z428 rfl rfl | exact ⟨by omega, by omega⟩) z430 (by first | exact x_rbe e_z430 g_z430 rfl rfl | exact x_rb g_z430 rfl rfl | exact ⟨by omega, by omega⟩) z432 (by first | exact x_rbe e_z432 g_z432 rfl rfl | exact x_rb g_z432 rfl rfl | exact ⟨by omega, by omega⟩) z434 (by first | exact x_rbe e_z434 g_z434 rfl rfl | exact x_rb g_z434 rfl rfl | exact ⟨by omega, by omega⟩)) ?_)
        rintro s436 v ⟨hG_s436, t_s436, z435, rfl, g_z435⟩
        have J_s436 : J s436 := J.fl J_s426 t_s436 (by decide +kernel)
        have T0_s436 : T0 s436 := T0.fl T0_s426 t_s436 (by decide +kernel)
        show xe (some (N, xs)) 231 1253 [(0, .ref 2000), (1, .ref 0), (2, .ref 256), (3, vi x3)] [vi z435] s436 295 10442 _
        refine x_A k231_1253 (fun _ => rfl) ?_
        refine x_goto k231_1254 (t := 1300) rfl ?_
        refine x_iinc k231_1300 (ls' := [(3, vi (x3 + 7)), (0, .ref 2000), (1, .ref 0), (2, .ref 256)]) rfl (by decide) rfl ?_
        refine x_goto k231_1303 (t := 18) rfl ?_
        refine x_ls (l := [(0, .ref 2000), (1, .ref 0), (2, .ref 256), (3, vi (x3 + 7))]) (show ([0, 1, 2, 3] : List Nat).Nodup from by decide +kernel) ⟨rfl, rfl, rfl, rfl, trivial⟩ ?_
        exact ih s436 (x3 + 7) hG_s436 trivial ⟨by omega, by omega⟩ J_s436 T0_s436  (by omega)
      · rw [c5]
        refine x_B k231_33 rfl (fun _ => rfl) (fun _ => rfl) (fun _ _ => rfl) ?_
        show xe (some (N, xs)) 231 1257 [(0, .ref 2000), (1, .ref 0), (2, .ref 256), (3, vi x3)] [] s 295 10442 _
        refine x_A k231_1257 (fun _ => rfl) ?_
        refine x_A k231_1258 (fun _ => rfl) ?_
        refine x_A k231_1259 (fun _ => rfl) ?_
        refine x_A k231_1260 (fun _ => rfl) ?_
        refine x_iadd k231_1261 ?_
        refine x_top (fun z437 e_z437 => ?_)
        refine x_scr k231_1262 hN ⟨by omega, by omega⟩ (fun z438 g_z438 e_z438 => ?_)
        unfold in32 at g_z438
        refine x_A k231_1263 (fun _ => rfl) ?_
        refine x_A k231_1264 (fun _ => rfl) ?_
        refine x_A k231_1265 (fun _ => rfl) ?_
        refine x_iadd k231_1266 ?_
        refine x_top (fun z439 e_z439 => ?_)
        refine x_scr k231_1267 hN ⟨by omega, by omega⟩ (fun z440 g_z440 e_z440 => ?_)
        unfold in32 at g_z440
        refine x_A k231_1268 (fun _ => rfl) ?_
        refine x_A k231_1269 (fun _ => rfl) ?_
        refine x_A k231_1270 (fun _ => rfl) ?_
        refine x_iadd k231_1271 ?_
        refine x_top (fun z441 e_z441 => ?_)
        refine x_scr k231_1272 hN ⟨by omega, by omega⟩ (fun z442 g_z442 e_z442 => ?_)
        unfold in32 at g_z442
        refine x_callV k231_1273 (y := 120) (n := 3) (w0 := 0) (w1 := 3) (as := [vi z438, vi z440, vi z442]) (rest := []) (by decide +kernel) (q := 0) (nq := 12) (kq := 3) ⟨by decide, rfl⟩ rfl rfl rfl rfl (xe_mono (C_X10_split_0 s hG i_J z438 (by first | exact x_rbe e_z438 g_z438 rfl rfl | exact x_rb g_z438 rfl rfl | exact ⟨by omega, by omega⟩) z440 (by first | exact x_rbe e_z440 g_z440 rfl rfl | exact x_rb g_z440 rfl rfl | exact ⟨by omega, by omega⟩) z442 (by first | exact x_rbe e_z442 g_z442 rfl rfl | exact x_rb g_z442 rfl rfl | exact ⟨by omega, by omega⟩)) ?_)
        rintro s444 v ⟨hG_s444, t_s444, z443, rfl, g_z443⟩
        have J_s444 : J s444 := J.fl i_J t_s444 (by decide +kernel)
        have T0_s444 : T0 s444 := T0.fl i_T0 t_s444 (by decide +kernel)
        show xe (some (N, xs)) 231 1276 [(0, .ref 2000), (1, .ref 0), (2, .ref 256), (3, vi x3)] [vi z443] s444 295 10442 _
        refine x_A k231_1276 (fun _ => rfl) ?_
        refine x_A k231_1277 (fun _ => rfl) ?_
        refine x_A k231_1278 (fun _ => rfl) ?_
        refine x_A k231_1279 (fun _ => rfl) ?_
        refine x_A k231_1280 (fun _ => rfl) ?_
        refine x_iadd k231_1281 ?_
        refine x_top (fun z445 e_z445 => ?_)
        refine x_scr k231_1282 hN ⟨by omega, by omega⟩ (fun z446 g_z446 e_z446 => ?_)
        unfold in32 at g_z446
        have q_z446 : z446 = z438 := by rw [e_z446, e_z438, show z445 = z437 by omega]
        refine x_A k231_1283 (fun _ => rfl) ?_
        refine x_A k231_1284 (fun _ => rfl) ?_
        refine x_A k231_1285 (fun _ => rfl) ?_
        refine x_iadd k231_1286 ?_
        refine x_top (fun z447 e_z447 => ?_)
        refine x_scr k231_1287 hN ⟨by omega, by omega⟩ (fun z448 g_z448 e_z448 => ?_)
        unfold in32 at g_z448
        have q_z448 : z448 = z440 := by rw [e_z448, e_z440, show z447 = z439 by omega]
        refine x_A k231_1288 (fun _ => rfl) ?_
        refine x_A k231_1289 (fun _ => rfl) ?_
        refine x_A k231_1290 (fun _ => rfl) ?_
        refine x_iadd k231_1291 ?_
        refine x_top (fun z449 e_z449 => ?_)
        refine x_scr k231_1292 hN ⟨by omega, by omega⟩ (fun z450 g_z450 e_z450 => ?_)
        unfold in32 at g_z450
        have q_z450 : z450 = z442 := by rw [e_z450, e_z442, show z449 = z441 by omega]
        refine x_callV k231_1293 (y := 218) (n := 3) (w0 := 0) (w1 := 3) (as := [vi z446, vi z448, vi z450]) (rest := []) (by decide +kernel) (q := 256) (nq := 62) (kq := 15) ⟨by decide, rfl⟩ rfl rfl rfl rfl (xe_mono (C_X11_split_256 s444 hG_s444 J_s444 z446 (by first | exact x_rbe e_z446 g_z446 rfl rfl | exact x_rb g_z446 rfl rfl | exact ⟨by omega, by omega⟩) z448 (by first | exact x_rbe e_z448 g_z448 rfl rfl | exact x_rb g_z448 rfl rfl | exact ⟨by omega, by omega⟩) z450 (by first | exact x_rbe e_z450 g_z450 rfl rfl | exact x_rb g_z450 rfl rfl | exact ⟨by omega, by omega⟩)) ?_)
        rintro s452 v ⟨hG_s452, t_s452, z451, rfl, g_z451⟩
        have J_s452 : J s452 := J.fl J_s444 t_s452 (by decide +kernel)
        have T0_s452 : T0 s452 := T0.fl T0_s444 t_s452 (by decide +kernel)
        show xe (some (N, xs)) 231 1296 [(0, .ref 2000), (1, .ref 0), (2, .ref 256), (3, vi x3)] [vi z451] s452 295 10442 _
        refine x_A k231_1296 (fun _ => rfl) ?_
        refine x_goto k231_1297 (t := 1300) rfl ?_
        refine x_iinc k231_1300 (ls' := [(3, vi (x3 + 7)), (0, .ref 2000), (1, .ref 0), (2, .ref 256)]) rfl (by decide) rfl ?_
        refine x_goto k231_1303 (t := 18) rfl ?_
        refine x_ls (l := [(0, .ref 2000), (1, .ref 0), (2, .ref 256), (3, vi (x3 + 7))]) (show ([0, 1, 2, 3] : List Nat).Nodup from by decide +kernel) ⟨rfl, rfl, rfl, rfl, trivial⟩ ?_
        exact ih s452 (x3 + 7) hG_s452 trivial ⟨by omega, by omega⟩ J_s452 T0_s452  (by omega)
      · refine x_tabD k231_33 ⟨by omega, by omega⟩ c5 (t0 := 1300) rfl ?_
        refine x_iinc k231_1300 (ls' := [(3, vi (x3 + 7)), (0, .ref 2000), (1, .ref 0), (2, .ref 256)]) rfl (by decide) rfl ?_
        refine x_goto k231_1303 (t := 18) rfl ?_
        refine x_ls (l := [(0, .ref 2000), (1, .ref 0), (2, .ref 256), (3, vi (x3 + 7))]) (show ([0, 1, 2, 3] : List Nat).Nodup from by decide +kernel) ⟨rfl, rfl, rfl, rfl, trivial⟩ ?_
        exact ih s (x3 + 7) hG f ⟨by omega, by omega⟩ i_J i_T0  (by omega)
