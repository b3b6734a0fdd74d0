set_option maxHeartbeats 8000000 in
theorem law_loop (N : Nat) (xs : Nat → Int32) (hN : N ≤ 3584)  : ∀ (n : Nat) (s : xS) (x3 : Int) (x1000 : Int) (x1001 : Int) (hG : GI s) (f : True) (b_x3 : 0 ≤ x3 ∧ x3 ≤ 3584) (b_x1000 : 0 ≤ x1000 ∧ x1000 ≤ 40) (b_x1001 : 0 ≤ x1001 ∧ x1001 ≤ 40) (w_0 : x1000 = x1001) (e_x1000 : x1000 = s 46 3) (e_x1001 : x1001 = s 256 6) (i_J : J s) (i_T0 : T0 s) (i_G1 : G1 s)  (hm : (3584 - x3) < (n : Int)), xe (some (N, xs)) 231 18 [(0, .ref 2000), (1, .ref 0), (2, .ref 256), (3, vi x3)] [] s 295 10442 (fun _ v => v = some (vi 1)) := by
  intro n
  induction n with
  | zero => intro s x3 x1000 x1001 hG f b_x3 b_x1000 b_x1001 w_0 e_x1000 e_x1001 i_J i_T0 i_G1  hm; exfalso; omega
  | succ n ih =>
    intro s x3 x1000 x1001 hG f b_x3 b_x1000 b_x1001 w_0 e_x1000 e_x1001 i_J i_T0 i_G1  hm
    refine x_A k231_18 (fun _ => rfl) ?_
    refine x_A k231_19 (fun _ => rfl) ?_
    refine x_slen k231_20 ?_
    refine x_bipush k231_21 (by decide +kernel) ?_
    refine x_isub k231_23 ?_
    refine x_top (fun z1 e_z1 => ?_)
    refine x_ic_gt k231_24 (t := 1306) rfl (by first | exact x_rb b_x3 rfl rfl | exact ⟨by omega, by omega⟩) (by first | exact x_rbe e_z1 g_z1 rfl rfl | exact x_rb g_z1 rfl rfl | exact ⟨by omega, by omega⟩) (fun c2 => ?_) (fun c2 => ?_)
    · skip
      refine x_A k231_1306 (fun _ => rfl) ?_
      exact x_zret k231_1307 rfl ⟨by omega, by omega⟩ rfl
    · skip
      refine x_A k231_27 (fun _ => rfl) ?_
      refine x_A k231_28 (fun _ => rfl) ?_
      refine x_scr k231_29 hN ⟨by omega, by omega⟩ (fun z3 g_z3 e_z3 => ?_)
      unfold in32 at g_z3
      refine x_bipush k231_30 (by decide +kernel) ?_
      refine x_and_mask k231_32 ⟨by omega, by omega⟩ (fun z4 g_z4 => ?_)
      have c5 : z4 = 0 ∨ z4 = 1 ∨ z4 = 2 ∨ z4 = 3 ∨ z4 = 4 ∨ z4 = 5 ∨ z4 = 6 ∨ z4 = 7 ∨ z4 = 8 ∨ z4 = 9 ∨ z4 = 10 ∨ z4 = 11 ∨ z4 = 12 ∨ z4 = 13 ∨ z4 = 14 ∨ z4 = 15 ∨ z4 = 16 ∨ z4 = 17 ∨ z4 = 18 ∨ z4 = 19 ∨ z4 = 20 ∨ z4 = 21 ∨ z4 = 22 ∨ z4 = 23 ∨ z4 = 24 ∨ z4 = 25 ∨ z4 = 26 ∨ z4 = 27 ∨ z4 = 28 ∨ z4 = 29 ∨ ¬ (0 ≤ z4 ∧ z4 ≤ 29) := by omega
      rcases c5 with c5 | c5 | c5 | c5 | c5 | c5 | c5 | c5 | c5 | c5 | c5 | c5 | c5 | c5 | c5 | c5 | c5 | c5 | c5 | c5 | c5 | c5 | c5 | c5 | c5 | c5 | c5 | c5 | c5 | c5 | c5
      · rw [c5]
        refine x_B k231_33 rfl (fun _ => rfl) (fun _ => rfl) (fun _ _ => rfl) ?_
        show xe (some (N, xs)) 231 168 [(0, .ref 2000), (1, .ref 0), (2, .ref 256), (3, vi x3)] [] s 295 10442 _
        refine x_A k231_168 (fun _ => rfl) ?_
        refine x_callV k231_169 (y := 91) (n := 0) (w0 := 0) (w1 := 0) (as := []) (rest := []) (by decide +kernel) (q := 0) (nq := 12) (kq := 3) ⟨by decide, rfl⟩ rfl rfl rfl rfl (xe_mono (C_X10_edition_0 s hG) ?_)
        rintro s7 v ⟨hG_s7, t_s7, z6, rfl, g_z6, xp_z6⟩
        have q8 : s7 46 3 = x1000 := (t_s7 46 3 (show 452 ∉ [11] from by decide +kernel)).trans e_x1000.symm
        have q9 : s7 256 6 = x1001 := (t_s7 256 6 (show 4103 ∉ [11] from by decide +kernel)).trans e_x1001.symm
        have J_s7 : J s7 := J.fl i_J t_s7 (by decide +kernel)
        have G1_s7 : G1 s7 := G1.fl i_G1 t_s7 (by decide +kernel)
        obtain ⟨z10, e_z10⟩ : ∃ z, z = s7 0 10 := ⟨_, rfl⟩
        have g_z10 : (0 : Int) ≤ s7 0 10 ∧ s7 0 10 ≤ 9 := hG_s7 0 10
        show xe (some (N, xs)) 231 172 [(0, .ref 2000), (1, .ref 0), (2, .ref 256), (3, vi x3)] [vi z6] s7 295 10442 _
        refine x_A k231_172 (fun _ => rfl) ?_
        refine x_A k231_173 (fun _ => rfl) ?_
        refine x_callV k231_174 (y := 145) (n := 0) (w0 := 0) (w1 := 0) (as := []) (rest := []) (by decide +kernel) (q := 256) (nq := 62) (kq := 15) ⟨by decide, rfl⟩ rfl rfl rfl rfl (xe_mono (D_X11_edition_256 s7 hG_s7 J_s7) ?_)
        rintro s12 v ⟨hG_s12, t_s12, z11, rfl, g_z11, xp_z11, J_s12⟩
        have q13 : s12 46 3 = x1000 := (t_s12 46 3 (show 452 ∉ [4097] from by decide +kernel)).trans q8
        have q14 : s12 256 6 = x1001 := (t_s12 256 6 (show 4103 ∉ [4097] from by decide +kernel)).trans q9
        have q15 : s12 0 10 = z10 := (t_s12 0 10 (show 11 ∉ [4097] from by decide +kernel)).trans e_z10.symm
        have G1_s12 : G1 s12 := G1.fl G1_s7 t_s12 (by decide +kernel)
        obtain ⟨z16, e_z16⟩ : ∃ z, z = s12 256 0 := ⟨_, rfl⟩
        have g_z16 : (0 : Int) ≤ s12 256 0 ∧ s12 256 0 ≤ 9 := hG_s12 256 0
        show xe (some (N, xs)) 231 177 [(0, .ref 2000), (1, .ref 0), (2, .ref 256), (3, vi x3)] [vi z11] s12 295 10442 _
        obtain ⟨ez_s12, T0_s12⟩ := T0.ed i_T0 t_s7 t_s12 (by decide) (by decide) xp_z6 xp_z11
        refine x_A k231_177 (fun _ => rfl) ?_
        refine x_goto k231_178 (t := 1300) rfl ?_
        refine x_iinc k231_1300 (ls' := [(3, vi (x3 + 7)), (0, .ref 2000), (1, .ref 0), (2, .ref 256)]) rfl (by decide) rfl ?_
        refine x_goto k231_1303 (t := 18) rfl ?_
        refine x_ls (l := [(0, .ref 2000), (1, .ref 0), (2, .ref 256), (3, vi (x3 + 7))]) (show ([0, 1, 2, 3] : List Nat).Nodup from by decide +kernel) ⟨rfl, rfl, rfl, rfl, trivial⟩ ?_
        exact ih s12 (x3 + 7) x1000 x1001 hG_s12 trivial ⟨by omega, by omega⟩ (by first | exact x_rb b_x1000 rfl rfl | exact ⟨by omega, by omega⟩) (by first | exact x_rb b_x1001 rfl rfl | exact ⟨by omega, by omega⟩) (by omega) (q13).symm (q14).symm J_s12 T0_s12 G1_s12  (by omega)
      · rw [c5]
        refine x_B k231_33 rfl (fun _ => rfl) (fun _ => rfl) (fun _ _ => rfl) ?_
        show xe (some (N, xs)) 231 181 [(0, .ref 2000), (1, .ref 0), (2, .ref 256), (3, vi x3)] [] s 295 10442 _
        refine x_A k231_181 (fun _ => rfl) ?_
        refine x_A k231_182 (fun _ => rfl) ?_
        refine x_A k231_183 (fun _ => rfl) ?_
        refine x_A k231_184 (fun _ => rfl) ?_
        refine x_iadd k231_185 ?_
        refine x_top (fun z17 e_z17 => ?_)
        refine x_scr k231_186 hN ⟨by omega, by omega⟩ (fun z18 g_z18 e_z18 => ?_)
        unfold in32 at g_z18
        obtain ⟨z19, e_z19⟩ : ∃ z, z = s 1 4 := ⟨_, rfl⟩
        have g_z19 : (1 : Int) ≤ s 1 4 ∧ s 1 4 ≤ 40 := hG 1 4
        obtain ⟨z20, e_z20⟩ : ∃ z, z = s 0 10 := ⟨_, rfl⟩
        have g_z20 : (0 : Int) ≤ s 0 10 ∧ s 0 10 ≤ 9 := hG 0 10
        refine x_callV k231_187 (y := 92) (n := 1) (w0 := 0) (w1 := 1) (as := [vi z18]) (rest := []) (by decide +kernel) (q := 0) (nq := 12) (kq := 3) ⟨by decide, rfl⟩ rfl rfl rfl rfl (xe_mono (E_X10_mark_0 s hG z18 (by first | exact x_rbe e_z18 g_z18 rfl rfl | exact x_rb g_z18 rfl rfl | exact ⟨by omega, by omega⟩) ⟨by omega, by omega⟩ ⟨by omega, by omega⟩) ?_)
        rintro s22 v ⟨hG_s22, t_s22, z21, rfl, g_z21, xp_z21⟩
        have q23 : s22 46 3 = x1000 := (t_s22 46 3 (show 452 ∉ [69, 128, 384, 3276, 3277] from by decide +kernel)).trans e_x1000.symm
        have q24 : s22 256 6 = x1001 := (t_s22 256 6 (show 4103 ∉ [69, 128, 384, 3276, 3277] from by decide +kernel)).trans e_x1001.symm
        have q25 : s22 0 10 = z20 := (t_s22 0 10 (show 11 ∉ [69, 128, 384, 3276, 3277] from by decide +kernel)).trans e_z20.symm
        have J_s22 : J s22 := J.fl i_J t_s22 (by decide +kernel)
        have G1_s22 : G1 s22 := G1.fl i_G1 t_s22 (by decide +kernel)
        obtain ⟨z26, e_z26⟩ : ∃ z, z = s22 1 4 := ⟨_, rfl⟩
        have g_z26 : (1 : Int) ≤ s22 1 4 ∧ s22 1 4 ≤ 40 := hG_s22 1 4
        show xe (some (N, xs)) 231 190 [(0, .ref 2000), (1, .ref 0), (2, .ref 256), (3, vi x3)] [vi z21] s22 295 10442 _
        refine x_A k231_190 (fun _ => rfl) ?_
        refine x_A k231_191 (fun _ => rfl) ?_
        refine x_A k231_192 (fun _ => rfl) ?_
        refine x_A k231_193 (fun _ => rfl) ?_
        refine x_A k231_194 (fun _ => rfl) ?_
        refine x_iadd k231_195 ?_
        refine x_top (fun z27 e_z27 => ?_)
        refine x_scr k231_196 hN ⟨by omega, by omega⟩ (fun z28 g_z28 e_z28 => ?_)
        unfold in32 at g_z28
        have q_z28 : z28 = z18 := by rw [e_z28, e_z18, show z27 = z17 by omega]
        obtain ⟨z29, e_z29⟩ : ∃ z, z = s22 256 1 := ⟨_, rfl⟩
        have g_z29 : (1 : Int) ≤ s22 256 1 ∧ s22 256 1 ≤ 40 := hG_s22 256 1
        obtain ⟨z30, e_z30⟩ : ∃ z, z = s22 256 0 := ⟨_, rfl⟩
        have g_z30 : (0 : Int) ≤ s22 256 0 ∧ s22 256 0 ≤ 9 := hG_s22 256 0
        refine x_callV k231_197 (y := 146) (n := 1) (w0 := 0) (w1 := 1) (as := [vi z28]) (rest := []) (by decide +kernel) (q := 256) (nq := 62) (kq := 15) ⟨by decide, rfl⟩ rfl rfl rfl rfl (xe_mono (E_X11_mark_256 s22 hG_s22 z28 (by first | exact x_rbe e_z28 g_z28 rfl rfl | exact x_rb g_z28 rfl rfl | exact ⟨by omega, by omega⟩) ⟨by omega, by omega⟩ ⟨by omega, by omega⟩ J_s22) ?_)
        rintro s32 v ⟨hG_s32, t_s32, z31, rfl, g_z31, xp_z31, J_s32⟩
        have q33 : s32 46 3 = x1000 := (t_s32 46 3 (show 452 ∉ [4098, 4160, 4224, 4288, 4352] from by decide +kernel)).trans q23
        have q34 : s32 256 6 = x1001 := (t_s32 256 6 (show 4103 ∉ [4098, 4160, 4224, 4288, 4352] from by decide +kernel)).trans q24
        have q35 : s32 0 10 = z20 := (t_s32 0 10 (show 11 ∉ [4098, 4160, 4224, 4288, 4352] from by decide +kernel)).trans q25
        have q36 : s32 1 4 = z26 := (t_s32 1 4 (show 69 ∉ [4098, 4160, 4224, 4288, 4352] from by decide +kernel)).trans e_z26.symm
        have q37 : s32 256 0 = z30 := (t_s32 256 0 (show 4097 ∉ [4098, 4160, 4224, 4288, 4352] from by decide +kernel)).trans e_z30.symm
        have G1_s32 : G1 s32 := G1.fl G1_s22 t_s32 (by decide +kernel)
        obtain ⟨z38, e_z38⟩ : ∃ z, z = s32 256 1 := ⟨_, rfl⟩
        have g_z38 : (1 : Int) ≤ s32 256 1 ∧ s32 256 1 ≤ 40 := hG_s32 256 1
        show xe (some (N, xs)) 231 200 [(0, .ref 2000), (1, .ref 0), (2, .ref 256), (3, vi x3)] [vi z31] s32 295 10442 _
        obtain ⟨ez_s32, T0_s32⟩ := T0.mark i_T0 hG t_s22 t_s32 (by decide) (by decide) xp_z21 (by rw [← q_z28]; exact xp_z31)
        refine x_A k231_200 (fun _ => rfl) ?_
        refine x_goto k231_201 (t := 1300) rfl ?_
        refine x_iinc k231_1300 (ls' := [(3, vi (x3 + 7)), (0, .ref 2000), (1, .ref 0), (2, .ref 256)]) rfl (by decide) rfl ?_
        refine x_goto k231_1303 (t := 18) rfl ?_
        refine x_ls (l := [(0, .ref 2000), (1, .ref 0), (2, .ref 256), (3, vi (x3 + 7))]) (show ([0, 1, 2, 3] : List Nat).Nodup from by decide +kernel) ⟨rfl, rfl, rfl, rfl, trivial⟩ ?_
        exact ih s32 (x3 + 7) x1000 x1001 hG_s32 trivial ⟨by omega, by omega⟩ (by first | exact x_rb b_x1000 rfl rfl | exact ⟨by omega, by omega⟩) (by first | exact x_rb b_x1001 rfl rfl | exact ⟨by omega, by omega⟩) (by omega) (q33).symm (q34).symm J_s32 T0_s32 G1_s32  (by omega)
      · rw [c5]
        refine x_B k231_33 rfl (fun _ => rfl) (fun _ => rfl) (fun _ _ => rfl) ?_
        show xe (some (N, xs)) 231 204 [(0, .ref 2000), (1, .ref 0), (2, .ref 256), (3, vi x3)] [] s 295 10442 _
        refine x_A k231_204 (fun _ => rfl) ?_
        refine x_A k231_205 (fun _ => rfl) ?_
        refine x_A k231_206 (fun _ => rfl) ?_
        refine x_A k231_207 (fun _ => rfl) ?_
        refine x_iadd k231_208 ?_
        refine x_top (fun z39 e_z39 => ?_)
        refine x_scr k231_209 hN ⟨by omega, by omega⟩ (fun z40 g_z40 e_z40 => ?_)
        unfold in32 at g_z40
        refine x_A k231_210 (fun _ => rfl) ?_
        refine x_A k231_211 (fun _ => rfl) ?_
        refine x_A k231_212 (fun _ => rfl) ?_
        refine x_iadd k231_213 ?_
        refine x_top (fun z41 e_z41 => ?_)
        refine x_scr k231_214 hN ⟨by omega, by omega⟩ (fun z42 g_z42 e_z42 => ?_)
        unfold in32 at g_z42
        refine x_callV k231_215 (y := 93) (n := 2) (w0 := 0) (w1 := 2) (as := [vi z40, vi z42]) (rest := []) (by decide +kernel) (q := 0) (nq := 12) (kq := 3) ⟨by decide, rfl⟩ rfl rfl rfl rfl (xe_mono (C_X10_move_0 s hG z40 (by first | exact x_rbe e_z40 g_z40 rfl rfl | exact x_rb g_z40 rfl rfl | exact ⟨by omega, by omega⟩) z42 (by first | exact x_rbe e_z42 g_z42 rfl rfl | exact x_rb g_z42 rfl rfl | exact ⟨by omega, by omega⟩)) ?_)
        rintro s44 v ⟨hG_s44, t_s44, z43, rfl, g_z43⟩
        have q45 : s44 46 3 = x1000 := (t_s44 46 3 (show 452 ∉ [384, 3276, 3277] from by decide +kernel)).trans e_x1000.symm
        have q46 : s44 256 6 = x1001 := (t_s44 256 6 (show 4103 ∉ [384, 3276, 3277] from by decide +kernel)).trans e_x1001.symm
        have J_s44 : J s44 := J.fl i_J t_s44 (by decide +kernel)
        have T0_s44 : T0 s44 := T0.fl i_T0 t_s44 (by decide +kernel)
        have G1_s44 : G1 s44 := G1.fl i_G1 t_s44 (by decide +kernel)
        show xe (some (N, xs)) 231 218 [(0, .ref 2000), (1, .ref 0), (2, .ref 256), (3, vi x3)] [vi z43] s44 295 10442 _
        refine x_A k231_218 (fun _ => rfl) ?_
        refine x_A k231_219 (fun _ => rfl) ?_
        refine x_A k231_220 (fun _ => rfl) ?_
        refine x_A k231_221 (fun _ => rfl) ?_
        refine x_A k231_222 (fun _ => rfl) ?_
        refine x_iadd k231_223 ?_
        refine x_top (fun z47 e_z47 => ?_)
        refine x_scr k231_224 hN ⟨by omega, by omega⟩ (fun z48 g_z48 e_z48 => ?_)
        unfold in32 at g_z48
        have q_z48 : z48 = z40 := by rw [e_z48, e_z40, show z47 = z39 by omega]
        refine x_A k231_225 (fun _ => rfl) ?_
        refine x_A k231_226 (fun _ => rfl) ?_
        refine x_A k231_227 (fun _ => rfl) ?_
        refine x_iadd k231_228 ?_
        refine x_top (fun z49 e_z49 => ?_)
        refine x_scr k231_229 hN ⟨by omega, by omega⟩ (fun z50 g_z50 e_z50 => ?_)
        unfold in32 at g_z50
        have q_z50 : z50 = z42 := by rw [e_z50, e_z42, show z49 = z41 by omega]
        refine x_callV k231_230 (y := 147) (n := 2) (w0 := 0) (w1 := 2) (as := [vi z48, vi z50]) (rest := []) (by decide +kernel) (q := 256) (nq := 62) (kq := 15) ⟨by decide, rfl⟩ rfl rfl rfl rfl (xe_mono (D_X11_move_256 s44 hG_s44 z48 (by first | exact x_rbe e_z48 g_z48 rfl rfl | exact x_rb g_z48 rfl rfl | exact ⟨by omega, by omega⟩) z50 (by first | exact x_rbe e_z50 g_z50 rfl rfl | exact x_rb g_z50 rfl rfl | exact ⟨by omega, by omega⟩) J_s44) ?_)
        rintro s52 v ⟨hG_s52, t_s52, z51, rfl, g_z51, J_s52⟩
        have q53 : s52 46 3 = x1000 := (t_s52 46 3 (show 452 ∉ [4352] from by decide +kernel)).trans q45
        have q54 : s52 256 6 = x1001 := (t_s52 256 6 (show 4103 ∉ [4352] from by decide +kernel)).trans q46
        have T0_s52 : T0 s52 := T0.fl T0_s44 t_s52 (by decide +kernel)
        have G1_s52 : G1 s52 := G1.fl G1_s44 t_s52 (by decide +kernel)
        show xe (some (N, xs)) 231 233 [(0, .ref 2000), (1, .ref 0), (2, .ref 256), (3, vi x3)] [vi z51] s52 295 10442 _
        refine x_A k231_233 (fun _ => rfl) ?_
        refine x_goto k231_234 (t := 1300) rfl ?_
        refine x_iinc k231_1300 (ls' := [(3, vi (x3 + 7)), (0, .ref 2000), (1, .ref 0), (2, .ref 256)]) rfl (by decide) rfl ?_
        refine x_goto k231_1303 (t := 18) rfl ?_
        refine x_ls (l := [(0, .ref 2000), (1, .ref 0), (2, .ref 256), (3, vi (x3 + 7))]) (show ([0, 1, 2, 3] : List Nat).Nodup from by decide +kernel) ⟨rfl, rfl, rfl, rfl, trivial⟩ ?_
        exact ih s52 (x3 + 7) x1000 x1001 hG_s52 trivial ⟨by omega, by omega⟩ (by first | exact x_rb b_x1000 rfl rfl | exact ⟨by omega, by omega⟩) (by first | exact x_rb b_x1001 rfl rfl | exact ⟨by omega, by omega⟩) (by omega) (q53).symm (q54).symm J_s52 T0_s52 G1_s52  (by omega)
      · rw [c5]
        refine x_B k231_33 rfl (fun _ => rfl) (fun _ => rfl) (fun _ _ => rfl) ?_
        show xe (some (N, xs)) 231 237 [(0, .ref 2000), (1, .ref 0), (2, .ref 256), (3, vi x3)] [] s 295 10442 _
        refine x_A k231_237 (fun _ => rfl) ?_
        refine x_A k231_238 (fun _ => rfl) ?_
        refine x_A k231_239 (fun _ => rfl) ?_
        refine x_A k231_240 (fun _ => rfl) ?_
        refine x_iadd k231_241 ?_
        refine x_top (fun z55 e_z55 => ?_)
        refine x_scr k231_242 hN ⟨by omega, by omega⟩ (fun z56 g_z56 e_z56 => ?_)
        unfold in32 at g_z56
        refine x_A k231_243 (fun _ => rfl) ?_
        refine x_A k231_244 (fun _ => rfl) ?_
        refine x_A k231_245 (fun _ => rfl) ?_
        refine x_iadd k231_246 ?_
        refine x_top (fun z57 e_z57 => ?_)
        refine x_scr k231_247 hN ⟨by omega, by omega⟩ (fun z58 g_z58 e_z58 => ?_)
        unfold in32 at g_z58
        obtain ⟨z59, e_z59⟩ : ∃ z, z = s 1 4 := ⟨_, rfl⟩
        have g_z59 : (1 : Int) ≤ s 1 4 ∧ s 1 4 ≤ 40 := hG 1 4
        obtain ⟨z60, e_z60⟩ : ∃ z, z = s 0 10 := ⟨_, rfl⟩
        have g_z60 : (0 : Int) ≤ s 0 10 ∧ s 0 10 ≤ 9 := hG 0 10
        refine x_callV k231_248 (y := 94) (n := 2) (w0 := 0) (w1 := 2) (as := [vi z56, vi z58]) (rest := []) (by decide +kernel) (q := 0) (nq := 12) (kq := 3) ⟨by decide, rfl⟩ rfl rfl rfl rfl (xe_mono (E_X10_end_0 s hG z56 (by first | exact x_rbe e_z56 g_z56 rfl rfl | exact x_rb g_z56 rfl rfl | exact ⟨by omega, by omega⟩) z58 (by first | exact x_rbe e_z58 g_z58 rfl rfl | exact x_rb g_z58 rfl rfl | exact ⟨by omega, by omega⟩) ⟨by omega, by omega⟩ ⟨by omega, by omega⟩) ?_)
        rintro s62 v ⟨hG_s62, t_s62, z61, rfl, g_z61, xp_z61⟩
        have q63 : s62 46 3 = x1000 := (t_s62 46 3 (show 452 ∉ [192, 256, 3276, 3277] from by decide +kernel)).trans e_x1000.symm
        have q64 : s62 256 6 = x1001 := (t_s62 256 6 (show 4103 ∉ [192, 256, 3276, 3277] from by decide +kernel)).trans e_x1001.symm
        have q65 : s62 1 4 = z59 := (t_s62 1 4 (show 69 ∉ [192, 256, 3276, 3277] from by decide +kernel)).trans e_z59.symm
        have q66 : s62 0 10 = z60 := (t_s62 0 10 (show 11 ∉ [192, 256, 3276, 3277] from by decide +kernel)).trans e_z60.symm
        have J_s62 : J s62 := J.fl i_J t_s62 (by decide +kernel)
        have G1_s62 : G1 s62 := G1.fl i_G1 t_s62 (by decide +kernel)
        show xe (some (N, xs)) 231 251 [(0, .ref 2000), (1, .ref 0), (2, .ref 256), (3, vi x3)] [vi z61] s62 295 10442 _
        refine x_A k231_251 (fun _ => rfl) ?_
        refine x_A k231_252 (fun _ => rfl) ?_
        refine x_A k231_253 (fun _ => rfl) ?_
        refine x_A k231_254 (fun _ => rfl) ?_
        refine x_A k231_255 (fun _ => rfl) ?_
        refine x_iadd k231_256 ?_
        refine x_top (fun z67 e_z67 => ?_)
        refine x_scr k231_257 hN ⟨by omega, by omega⟩ (fun z68 g_z68 e_z68 => ?_)
        unfold in32 at g_z68
        have q_z68 : z68 = z56 := by rw [e_z68, e_z56, show z67 = z55 by omega]
        refine x_A k231_258 (fun _ => rfl) ?_
        refine x_A k231_259 (fun _ => rfl) ?_
        refine x_A k231_260 (fun _ => rfl) ?_
        refine x_iadd k231_261 ?_
        refine x_top (fun z69 e_z69 => ?_)
        refine x_scr k231_262 hN ⟨by omega, by omega⟩ (fun z70 g_z70 e_z70 => ?_)
        unfold in32 at g_z70
        have q_z70 : z70 = z58 := by rw [e_z70, e_z58, show z69 = z57 by omega]
        obtain ⟨z71, e_z71⟩ : ∃ z, z = s62 256 1 := ⟨_, rfl⟩
        have g_z71 : (1 : Int) ≤ s62 256 1 ∧ s62 256 1 ≤ 40 := hG_s62 256 1
        obtain ⟨z72, e_z72⟩ : ∃ z, z = s62 256 0 := ⟨_, rfl⟩
        have g_z72 : (0 : Int) ≤ s62 256 0 ∧ s62 256 0 ≤ 9 := hG_s62 256 0
        refine x_callV k231_263 (y := 148) (n := 2) (w0 := 0) (w1 := 2) (as := [vi z68, vi z70]) (rest := []) (by decide +kernel) (q := 256) (nq := 62) (kq := 15) ⟨by decide, rfl⟩ rfl rfl rfl rfl (xe_mono (E_X11_end_256 s62 hG_s62 z68 (by first | exact x_rbe e_z68 g_z68 rfl rfl | exact x_rb g_z68 rfl rfl | exact ⟨by omega, by omega⟩) z70 (by first | exact x_rbe e_z70 g_z70 rfl rfl | exact x_rb g_z70 rfl rfl | exact ⟨by omega, by omega⟩) ⟨by omega, by omega⟩ ⟨by omega, by omega⟩ J_s62) ?_)
        rintro s74 v ⟨hG_s74, t_s74, z73, rfl, g_z73, xp_z73, J_s74⟩
        have q75 : s74 46 3 = x1000 := (t_s74 46 3 (show 452 ∉ [4224, 4288] from by decide +kernel)).trans q63
        have q76 : s74 256 6 = x1001 := (t_s74 256 6 (show 4103 ∉ [4224, 4288] from by decide +kernel)).trans q64
        have q77 : s74 1 4 = z59 := (t_s74 1 4 (show 69 ∉ [4224, 4288] from by decide +kernel)).trans q65
        have q78 : s74 0 10 = z60 := (t_s74 0 10 (show 11 ∉ [4224, 4288] from by decide +kernel)).trans q66
        have q79 : s74 256 1 = z71 := (t_s74 256 1 (show 4098 ∉ [4224, 4288] from by decide +kernel)).trans e_z71.symm
        have q80 : s74 256 0 = z72 := (t_s74 256 0 (show 4097 ∉ [4224, 4288] from by decide +kernel)).trans e_z72.symm
        have G1_s74 : G1 s74 := G1.fl G1_s62 t_s74 (by decide +kernel)
        show xe (some (N, xs)) 231 266 [(0, .ref 2000), (1, .ref 0), (2, .ref 256), (3, vi x3)] [vi z73] s74 295 10442 _
        have T0_s74 := T0.end i_T0 hG t_s62 t_s74 (by decide) (by decide) xp_z61 (by rw [← q_z68, ← q_z70]; exact xp_z73)
        refine x_A k231_266 (fun _ => rfl) ?_
        refine x_goto k231_267 (t := 1300) rfl ?_
        refine x_iinc k231_1300 (ls' := [(3, vi (x3 + 7)), (0, .ref 2000), (1, .ref 0), (2, .ref 256)]) rfl (by decide) rfl ?_
        refine x_goto k231_1303 (t := 18) rfl ?_
        refine x_ls (l := [(0, .ref 2000), (1, .ref 0), (2, .ref 256), (3, vi (x3 + 7))]) (show ([0, 1, 2, 3] : List Nat).Nodup from by decide +kernel) ⟨rfl, rfl, rfl, rfl, trivial⟩ ?_
        exact ih s74 (x3 + 7) x1000 x1001 hG_s74 trivial ⟨by omega, by omega⟩ (by first | exact x_rb b_x1000 rfl rfl | exact ⟨by omega, by omega⟩) (by first | exact x_rb b_x1001 rfl rfl | exact ⟨by omega, by omega⟩) (by omega) (q75).symm (q76).symm J_s74 T0_s74 G1_s74  (by omega)
      · rw [c5]
        refine x_B k231_33 rfl (fun _ => rfl) (fun _ => rfl) (fun _ _ => rfl) ?_
        show xe (some (N, xs)) 231 270 [(0, .ref 2000), (1, .ref 0), (2, .ref 256), (3, vi x3)] [] s 295 10442 _
        refine x_A k231_270 (fun _ => rfl) ?_
        refine x_A k231_271 (fun _ => rfl) ?_
        refine x_A k231_272 (fun _ => rfl) ?_
        refine x_A k231_273 (fun _ => rfl) ?_
        refine x_iadd k231_274 ?_
        refine x_top (fun z81 e_z81 => ?_)
        refine x_scr k231_275 hN ⟨by omega, by omega⟩ (fun z82 g_z82 e_z82 => ?_)
        unfold in32 at g_z82
        refine x_A k231_276 (fun _ => rfl) ?_
        refine x_A k231_277 (fun _ => rfl) ?_
        refine x_A k231_278 (fun _ => rfl) ?_
        refine x_iadd k231_279 ?_
        refine x_top (fun z83 e_z83 => ?_)
        refine x_scr k231_280 hN ⟨by omega, by omega⟩ (fun z84 g_z84 e_z84 => ?_)
        unfold in32 at g_z84
        refine x_A k231_281 (fun _ => rfl) ?_
        refine x_A k231_282 (fun _ => rfl) ?_
        refine x_A k231_283 (fun _ => rfl) ?_
        refine x_iadd k231_284 ?_
        refine x_top (fun z85 e_z85 => ?_)
        refine x_scr k231_285 hN ⟨by omega, by omega⟩ (fun z86 g_z86 e_z86 => ?_)
        unfold in32 at g_z86
        refine x_callV k231_286 (y := 95) (n := 3) (w0 := 0) (w1 := 3) (as := [vi z82, vi z84, vi z86]) (rest := []) (by decide +kernel) (q := 0) (nq := 12) (kq := 3) ⟨by decide, rfl⟩ rfl rfl rfl rfl (xe_mono (C_X10_tree_0 s hG i_J z82 (by first | exact x_rbe e_z82 g_z82 rfl rfl | exact x_rb g_z82 rfl rfl | exact ⟨by omega, by omega⟩) z84 (by first | exact x_rbe e_z84 g_z84 rfl rfl | exact x_rb g_z84 rfl rfl | exact ⟨by omega, by omega⟩) z86 (by first | exact x_rbe e_z86 g_z86 rfl rfl | exact x_rb g_z86 rfl rfl | exact ⟨by omega, by omega⟩)) ?_)
        rintro s88 v ⟨hG_s88, t_s88, z87, rfl, g_z87⟩
        have q89 : s88 46 3 = x1000 := (t_s88 46 3 (show 452 ∉ [3329, 3334, 3335, 3336, 3392, 3456, 3520, 3584, 3276, 3648, 3712, 3776, 3840, 3904, 3968, 3277, 4032] from by decide +kernel)).trans e_x1000.symm
        have q90 : s88 256 6 = x1001 := (t_s88 256 6 (show 4103 ∉ [3329, 3334, 3335, 3336, 3392, 3456, 3520, 3584, 3276, 3648, 3712, 3776, 3840, 3904, 3968, 3277, 4032] from by decide +kernel)).trans e_x1001.symm
        have J_s88 : J s88 := J.fl i_J t_s88 (by decide +kernel)
        have T0_s88 : T0 s88 := T0.fl i_T0 t_s88 (by decide +kernel)
        have G1_s88 : G1 s88 := G1.fl i_G1 t_s88 (by decide +kernel)
        show xe (some (N, xs)) 231 289 [(0, .ref 2000), (1, .ref 0), (2, .ref 256), (3, vi x3)] [vi z87] s88 295 10442 _
        refine x_A k231_289 (fun _ => rfl) ?_
        refine x_A k231_290 (fun _ => rfl) ?_
        refine x_A k231_291 (fun _ => rfl) ?_
        refine x_A k231_292 (fun _ => rfl) ?_
        refine x_A k231_293 (fun _ => rfl) ?_
        refine x_iadd k231_294 ?_
        refine x_top (fun z91 e_z91 => ?_)
        refine x_scr k231_295 hN ⟨by omega, by omega⟩ (fun z92 g_z92 e_z92 => ?_)
        unfold in32 at g_z92
        have q_z92 : z92 = z82 := by rw [e_z92, e_z82, show z91 = z81 by omega]
        refine x_A k231_296 (fun _ => rfl) ?_
        refine x_A k231_297 (fun _ => rfl) ?_
        refine x_A k231_298 (fun _ => rfl) ?_
        refine x_iadd k231_299 ?_
        refine x_top (fun z93 e_z93 => ?_)
        refine x_scr k231_300 hN ⟨by omega, by omega⟩ (fun z94 g_z94 e_z94 => ?_)
        unfold in32 at g_z94
        have q_z94 : z94 = z84 := by rw [e_z94, e_z84, show z93 = z83 by omega]
        refine x_A k231_301 (fun _ => rfl) ?_
        refine x_A k231_302 (fun _ => rfl) ?_
        refine x_A k231_303 (fun _ => rfl) ?_
        refine x_iadd k231_304 ?_
        refine x_top (fun z95 e_z95 => ?_)
        refine x_scr k231_305 hN ⟨by omega, by omega⟩ (fun z96 g_z96 e_z96 => ?_)
        unfold in32 at g_z96
        have q_z96 : z96 = z86 := by rw [e_z96, e_z86, show z95 = z85 by omega]
        refine x_callV k231_306 (y := 149) (n := 3) (w0 := 0) (w1 := 3) (as := [vi z92, vi z94, vi z96]) (rest := []) (by decide +kernel) (q := 256) (nq := 62) (kq := 15) ⟨by decide, rfl⟩ rfl rfl rfl rfl (xe_mono (C_X11_tree_256 s88 hG_s88 J_s88 z92 (by first | exact x_rbe e_z92 g_z92 rfl rfl | exact x_rb g_z92 rfl rfl | exact ⟨by omega, by omega⟩) z94 (by first | exact x_rbe e_z94 g_z94 rfl rfl | exact x_rb g_z94 rfl rfl | exact ⟨by omega, by omega⟩) z96 (by first | exact x_rbe e_z96 g_z96 rfl rfl | exact x_rb g_z96 rfl rfl | exact ⟨by omega, by omega⟩)) ?_)
        rintro s98 v ⟨hG_s98, t_s98, z97, rfl, g_z97⟩
        have q99 : s98 46 3 = x1000 := (t_s98 46 3 (show 452 ∉ [5312, 5376, 4123, 5440, 5504, 5568, 5632, 5696, 5760] from by decide +kernel)).trans q89
        have q100 : s98 256 6 = x1001 := (t_s98 256 6 (show 4103 ∉ [5312, 5376, 4123, 5440, 5504, 5568, 5632, 5696, 5760] from by decide +kernel)).trans q90
        have J_s98 : J s98 := J.fl J_s88 t_s98 (by decide +kernel)
        have T0_s98 : T0 s98 := T0.fl T0_s88 t_s98 (by decide +kernel)
        have G1_s98 : G1 s98 := G1.fl G1_s88 t_s98 (by decide +kernel)
        show xe (some (N, xs)) 231 309 [(0, .ref 2000), (1, .ref 0), (2, .ref 256), (3, vi x3)] [vi z97] s98 295 10442 _
        refine x_A k231_309 (fun _ => rfl) ?_
        refine x_goto k231_310 (t := 1300) rfl ?_
        refine x_iinc k231_1300 (ls' := [(3, vi (x3 + 7)), (0, .ref 2000), (1, .ref 0), (2, .ref 256)]) rfl (by decide) rfl ?_
        refine x_goto k231_1303 (t := 18) rfl ?_
        refine x_ls (l := [(0, .ref 2000), (1, .ref 0), (2, .ref 256), (3, vi (x3 + 7))]) (show ([0, 1, 2, 3] : List Nat).Nodup from by decide +kernel) ⟨rfl, rfl, rfl, rfl, trivial⟩ ?_
        exact ih s98 (x3 + 7) x1000 x1001 hG_s98 trivial ⟨by omega, by omega⟩ (by first | exact x_rb b_x1000 rfl rfl | exact ⟨by omega, by omega⟩) (by first | exact x_rb b_x1001 rfl rfl | exact ⟨by omega, by omega⟩) (by omega) (q99).symm (q100).symm J_s98 T0_s98 G1_s98  (by omega)
      · rw [c5]
        refine x_B k231_33 rfl (fun _ => rfl) (fun _ => rfl) (fun _ _ => rfl) ?_
        show xe (some (N, xs)) 231 313 [(0, .ref 2000), (1, .ref 0), (2, .ref 256), (3, vi x3)] [] s 295 10442 _
        refine x_A k231_313 (fun _ => rfl) ?_
        refine x_A k231_314 (fun _ => rfl) ?_
        refine x_A k231_315 (fun _ => rfl) ?_
        refine x_A k231_316 (fun _ => rfl) ?_
        refine x_iadd k231_317 ?_
        refine x_top (fun z101 e_z101 => ?_)
        refine x_scr k231_318 hN ⟨by omega, by omega⟩ (fun z102 g_z102 e_z102 => ?_)
        unfold in32 at g_z102
        refine x_A k231_319 (fun _ => rfl) ?_
        refine x_A k231_320 (fun _ => rfl) ?_
        refine x_A k231_321 (fun _ => rfl) ?_
        refine x_iadd k231_322 ?_
        refine x_top (fun z103 e_z103 => ?_)
        refine x_scr k231_323 hN ⟨by omega, by omega⟩ (fun z104 g_z104 e_z104 => ?_)
        unfold in32 at g_z104
        refine x_A k231_324 (fun _ => rfl) ?_
        refine x_A k231_325 (fun _ => rfl) ?_
        refine x_A k231_326 (fun _ => rfl) ?_
        refine x_iadd k231_327 ?_
        refine x_top (fun z105 e_z105 => ?_)
        refine x_scr k231_328 hN ⟨by omega, by omega⟩ (fun z106 g_z106 e_z106 => ?_)
        unfold in32 at g_z106
        refine x_callV k231_329 (y := 96) (n := 3) (w0 := 0) (w1 := 3) (as := [vi z102, vi z104, vi z106]) (rest := []) (by decide +kernel) (q := 0) (nq := 12) (kq := 3) ⟨by decide, rfl⟩ rfl rfl rfl rfl (xe_mono (C_X10_below_0 s hG z102 (by first | exact x_rbe e_z102 g_z102 rfl rfl | exact x_rb g_z102 rfl rfl | exact ⟨by omega, by omega⟩) z104 (by first | exact x_rbe e_z104 g_z104 rfl rfl | exact x_rb g_z104 rfl rfl | exact ⟨by omega, by omega⟩) z106 (by first | exact x_rbe e_z106 g_z106 rfl rfl | exact x_rb g_z106 rfl rfl | exact ⟨by omega, by omega⟩)) ?_)
        rintro s108 v ⟨-, t_s108, z107, rfl, g_z107⟩
        rw [t_s108.nil]
        show xe (some (N, xs)) 231 332 [(0, .ref 2000), (1, .ref 0), (2, .ref 256), (3, vi x3)] [vi z107] s 295 10442 _
        refine x_A k231_332 (fun _ => rfl) ?_
        refine x_A k231_333 (fun _ => rfl) ?_
        refine x_A k231_334 (fun _ => rfl) ?_
        refine x_A k231_335 (fun _ => rfl) ?_
        refine x_A k231_336 (fun _ => rfl) ?_
        refine x_iadd k231_337 ?_
        refine x_top (fun z109 e_z109 => ?_)
        refine x_scr k231_338 hN ⟨by omega, by omega⟩ (fun z110 g_z110 e_z110 => ?_)
        unfold in32 at g_z110
        have q_z110 : z110 = z102 := by rw [e_z110, e_z102, show z109 = z101 by omega]
        refine x_A k231_339 (fun _ => rfl) ?_
        refine x_A k231_340 (fun _ => rfl) ?_
        refine x_A k231_341 (fun _ => rfl) ?_
        refine x_iadd k231_342 ?_
        refine x_top (fun z111 e_z111 => ?_)
        refine x_scr k231_343 hN ⟨by omega, by omega⟩ (fun z112 g_z112 e_z112 => ?_)
        unfold in32 at g_z112
        have q_z112 : z112 = z104 := by rw [e_z112, e_z104, show z111 = z103 by omega]
        refine x_A k231_344 (fun _ => rfl) ?_
        refine x_A k231_345 (fun _ => rfl) ?_
        refine x_A k231_346 (fun _ => rfl) ?_
        refine x_iadd k231_347 ?_
        refine x_top (fun z113 e_z113 => ?_)
        refine x_scr k231_348 hN ⟨by omega, by omega⟩ (fun z114 g_z114 e_z114 => ?_)
        unfold in32 at g_z114
        have q_z114 : z114 = z106 := by rw [e_z114, e_z106, show z113 = z105 by omega]
        refine x_callV k231_349 (y := 150) (n := 3) (w0 := 0) (w1 := 3) (as := [vi z110, vi z112, vi z114]) (rest := []) (by decide +kernel) (q := 256) (nq := 62) (kq := 15) ⟨by decide, rfl⟩ rfl rfl rfl rfl (xe_mono (C_X11_below_256 s hG i_J z110 (by first | exact x_rbe e_z110 g_z110 rfl rfl | exact x_rb g_z110 rfl rfl | exact ⟨by omega, by omega⟩) z112 (by first | exact x_rbe e_z112 g_z112 rfl rfl | exact x_rb g_z112 rfl rfl | exact ⟨by omega, by omega⟩) z114 (by first | exact x_rbe e_z114 g_z114 rfl rfl | exact x_rb g_z114 rfl rfl | exact ⟨by omega, by omega⟩)) ?_)
        rintro s116 v ⟨-, t_s116, z115, rfl, g_z115⟩
        rw [t_s116.nil]
        show xe (some (N, xs)) 231 352 [(0, .ref 2000), (1, .ref 0), (2, .ref 256), (3, vi x3)] [vi z115] s 295 10442 _
        refine x_A k231_352 (fun _ => rfl) ?_
        refine x_goto k231_353 (t := 1300) rfl ?_
        refine x_iinc k231_1300 (ls' := [(3, vi (x3 + 7)), (0, .ref 2000), (1, .ref 0), (2, .ref 256)]) rfl (by decide) rfl ?_
        refine x_goto k231_1303 (t := 18) rfl ?_
        refine x_ls (l := [(0, .ref 2000), (1, .ref 0), (2, .ref 256), (3, vi (x3 + 7))]) (show ([0, 1, 2, 3] : List Nat).Nodup from by decide +kernel) ⟨rfl, rfl, rfl, rfl, trivial⟩ ?_
        exact ih s (x3 + 7) x1000 x1001 hG f ⟨by omega, by omega⟩ (by first | exact x_rb b_x1000 rfl rfl | exact ⟨by omega, by omega⟩) (by first | exact x_rb b_x1001 rfl rfl | exact ⟨by omega, by omega⟩) (by omega) (e_x1000.symm).symm (e_x1001.symm).symm i_J i_T0 i_G1  (by omega)
      · rw [c5]
        refine x_B k231_33 rfl (fun _ => rfl) (fun _ => rfl) (fun _ _ => rfl) ?_
        show xe (some (N, xs)) 231 356 [(0, .ref 2000), (1, .ref 0), (2, .ref 256), (3, vi x3)] [] s 295 10442 _
        refine x_A k231_356 (fun _ => rfl) ?_
        refine x_A k231_357 (fun _ => rfl) ?_
        refine x_A k231_358 (fun _ => rfl) ?_
        refine x_A k231_359 (fun _ => rfl) ?_
        refine x_iadd k231_360 ?_
        refine x_top (fun z117 e_z117 => ?_)
        refine x_scr k231_361 hN ⟨by omega, by omega⟩ (fun z118 g_z118 e_z118 => ?_)
        unfold in32 at g_z118
        refine x_A k231_362 (fun _ => rfl) ?_
        refine x_A k231_363 (fun _ => rfl) ?_
        refine x_A k231_364 (fun _ => rfl) ?_
        refine x_iadd k231_365 ?_
        refine x_top (fun z119 e_z119 => ?_)
        refine x_scr k231_366 hN ⟨by omega, by omega⟩ (fun z120 g_z120 e_z120 => ?_)
        unfold in32 at g_z120
        refine x_A k231_367 (fun _ => rfl) ?_
        refine x_A k231_368 (fun _ => rfl) ?_
        refine x_A k231_369 (fun _ => rfl) ?_
        refine x_iadd k231_370 ?_
        refine x_top (fun z121 e_z121 => ?_)
        refine x_scr k231_371 hN ⟨by omega, by omega⟩ (fun z122 g_z122 e_z122 => ?_)
        unfold in32 at g_z122
        refine x_callV k231_372 (y := 97) (n := 3) (w0 := 0) (w1 := 3) (as := [vi z118, vi z120, vi z122]) (rest := []) (by decide +kernel) (q := 0) (nq := 12) (kq := 3) ⟨by decide, rfl⟩ rfl rfl rfl rfl (xe_mono (E_X10_picture_0 s hG z118 (by first | exact x_rbe e_z118 g_z118 rfl rfl | exact x_rb g_z118 rfl rfl | exact ⟨by omega, by omega⟩) z120 (by first | exact x_rbe e_z120 g_z120 rfl rfl | exact x_rb g_z120 rfl rfl | exact ⟨by omega, by omega⟩) z122 (by first | exact x_rbe e_z122 g_z122 rfl rfl | exact x_rb g_z122 rfl rfl | exact ⟨by omega, by omega⟩) ⟨by omega, by omega⟩) ?_)
        rintro s124 v ⟨hG_s124, t_s124, z123, rfl, g_z123, xp_z123⟩
        have q125 : s124 256 6 = x1001 := (t_s124 256 6 (show 4103 ∉ [452, 512, 576, 640] from by decide +kernel)).trans e_x1001.symm
        have J_s124 : J s124 := J.fl i_J t_s124 (by decide +kernel)
        have T0_s124 : T0 s124 := T0.fl i_T0 t_s124 (by decide +kernel)
        have G1_s124 : G1 s124 := G1.fl i_G1 t_s124 (by decide +kernel)
        obtain ⟨z126, e_z126⟩ : ∃ z, z = s124 46 3 := ⟨_, rfl⟩
        have g_z126 : (0 : Int) ≤ s124 46 3 ∧ s124 46 3 ≤ 40 := hG_s124 46 3
        show xe (some (N, xs)) 231 375 [(0, .ref 2000), (1, .ref 0), (2, .ref 256), (3, vi x3)] [vi z123] s124 295 10442 _
        refine x_A k231_375 (fun _ => rfl) ?_
        refine x_A k231_376 (fun _ => rfl) ?_
        refine x_A k231_377 (fun _ => rfl) ?_
        refine x_A k231_378 (fun _ => rfl) ?_
        refine x_A k231_379 (fun _ => rfl) ?_
        refine x_iadd k231_380 ?_
        refine x_top (fun z127 e_z127 => ?_)
        refine x_scr k231_381 hN ⟨by omega, by omega⟩ (fun z128 g_z128 e_z128 => ?_)
        unfold in32 at g_z128
        have q_z128 : z128 = z118 := by rw [e_z128, e_z118, show z127 = z117 by omega]
        refine x_A k231_382 (fun _ => rfl) ?_
        refine x_A k231_383 (fun _ => rfl) ?_
        refine x_A k231_384 (fun _ => rfl) ?_
        refine x_iadd k231_385 ?_
        refine x_top (fun z129 e_z129 => ?_)
        refine x_scr k231_386 hN ⟨by omega, by omega⟩ (fun z130 g_z130 e_z130 => ?_)
        unfold in32 at g_z130
        have q_z130 : z130 = z120 := by rw [e_z130, e_z120, show z129 = z119 by omega]
        refine x_A k231_387 (fun _ => rfl) ?_
        refine x_A k231_388 (fun _ => rfl) ?_
        refine x_A k231_389 (fun _ => rfl) ?_
        refine x_iadd k231_390 ?_
        refine x_top (fun z131 e_z131 => ?_)
        refine x_scr k231_391 hN ⟨by omega, by omega⟩ (fun z132 g_z132 e_z132 => ?_)
        unfold in32 at g_z132
        have q_z132 : z132 = z122 := by rw [e_z132, e_z122, show z131 = z121 by omega]
        refine x_callV k231_392 (y := 154) (n := 3) (w0 := 0) (w1 := 3) (as := [vi z128, vi z130, vi z132]) (rest := []) (by decide +kernel) (q := 256) (nq := 62) (kq := 15) ⟨by decide, rfl⟩ rfl rfl rfl rfl (xe_mono (E_X11_picture_256 s124 hG_s124 z128 (by first | exact x_rbe e_z128 g_z128 rfl rfl | exact x_rb g_z128 rfl rfl | exact ⟨by omega, by omega⟩) z130 (by first | exact x_rbe e_z130 g_z130 rfl rfl | exact x_rb g_z130 rfl rfl | exact ⟨by omega, by omega⟩) z132 (by first | exact x_rbe e_z132 g_z132 rfl rfl | exact x_rb g_z132 rfl rfl | exact ⟨by omega, by omega⟩) ⟨by omega, by omega⟩ J_s124) ?_)
        rintro s134 v ⟨hG_s134, t_s134, z133, rfl, g_z133, xp_z133, J_s134⟩
        have q135 : s134 46 3 = z126 := (t_s134 46 3 (show 452 ∉ [4103, 4416, 4480, 4544] from by decide +kernel)).trans e_z126.symm
        have T0_s134 : T0 s134 := T0.fl T0_s124 t_s134 (by decide +kernel)
        have G1_s134 : G1 s134 := G1.fl G1_s124 t_s134 (by decide +kernel)
        obtain ⟨z136, e_z136⟩ : ∃ z, z = s134 256 6 := ⟨_, rfl⟩
        have g_z136 : (0 : Int) ≤ s134 256 6 ∧ s134 256 6 ≤ 40 := hG_s134 256 6
        show xe (some (N, xs)) 231 395 [(0, .ref 2000), (1, .ref 0), (2, .ref 256), (3, vi x3)] [vi z133] s134 295 10442 _
        refine x_A k231_395 (fun _ => rfl) ?_
        refine x_goto k231_396 (t := 1300) rfl ?_
        refine x_iinc k231_1300 (ls' := [(3, vi (x3 + 7)), (0, .ref 2000), (1, .ref 0), (2, .ref 256)]) rfl (by decide) rfl ?_
        refine x_goto k231_1303 (t := 18) rfl ?_
        refine x_ls (l := [(0, .ref 2000), (1, .ref 0), (2, .ref 256), (3, vi (x3 + 7))]) (show ([0, 1, 2, 3] : List Nat).Nodup from by decide +kernel) ⟨rfl, rfl, rfl, rfl, trivial⟩ ?_
        exact ih s134 (x3 + 7) z126 z136 hG_s134 trivial ⟨by omega, by omega⟩ (by first | exact x_rbe e_z126 g_z126 rfl rfl | exact x_rb g_z126 rfl rfl | exact ⟨by omega, by omega⟩) (by first | exact x_rbe e_z136 g_z136 rfl rfl | exact x_rb g_z136 rfl rfl | exact ⟨by omega, by omega⟩) (by omega) (q135).symm (e_z136.symm).symm J_s134 T0_s134 G1_s134  (by omega)
      · rw [c5]
        refine x_B k231_33 rfl (fun _ => rfl) (fun _ => rfl) (fun _ _ => rfl) ?_
        show xe (some (N, xs)) 231 399 [(0, .ref 2000), (1, .ref 0), (2, .ref 256), (3, vi x3)] [] s 295 10442 _
        refine x_A k231_399 (fun _ => rfl) ?_
        refine x_A k231_400 (fun _ => rfl) ?_
        refine x_A k231_401 (fun _ => rfl) ?_
        refine x_A k231_402 (fun _ => rfl) ?_
        refine x_iadd k231_403 ?_
        refine x_top (fun z137 e_z137 => ?_)
        refine x_scr k231_404 hN ⟨by omega, by omega⟩ (fun z138 g_z138 e_z138 => ?_)
        unfold in32 at g_z138
        refine x_A k231_405 (fun _ => rfl) ?_
        refine x_A k231_406 (fun _ => rfl) ?_
        refine x_A k231_407 (fun _ => rfl) ?_
        refine x_iadd k231_408 ?_
        refine x_top (fun z139 e_z139 => ?_)
        refine x_scr k231_409 hN ⟨by omega, by omega⟩ (fun z140 g_z140 e_z140 => ?_)
        unfold in32 at g_z140
        refine x_A k231_410 (fun _ => rfl) ?_
        refine x_A k231_411 (fun _ => rfl) ?_
        refine x_A k231_412 (fun _ => rfl) ?_
        refine x_iadd k231_413 ?_
        refine x_top (fun z141 e_z141 => ?_)
        refine x_scr k231_414 hN ⟨by omega, by omega⟩ (fun z142 g_z142 e_z142 => ?_)
        unfold in32 at g_z142
        refine x_A k231_415 (fun _ => rfl) ?_
        refine x_A k231_416 (fun _ => rfl) ?_
        refine x_A k231_417 (fun _ => rfl) ?_
        refine x_iadd k231_418 ?_
        refine x_top (fun z143 e_z143 => ?_)
        refine x_scr k231_419 hN ⟨by omega, by omega⟩ (fun z144 g_z144 e_z144 => ?_)
        unfold in32 at g_z144
        have pq_s : s 46 3 = s 256 6 := by omega
        obtain ⟨z145, e_z145⟩ : ∃ z, z = s 50 6 := ⟨_, rfl⟩
        have g_z145 : (0 : Int) ≤ s 50 6 ∧ s 50 6 ≤ 120 := hG 50 6
        obtain ⟨z146, e_z146⟩ : ∃ z, z = s 1 4 := ⟨_, rfl⟩
        have g_z146 : (1 : Int) ≤ s 1 4 ∧ s 1 4 ≤ 40 := hG 1 4
        refine x_callV k231_420 (y := 98) (n := 4) (w0 := 0) (w1 := 4) (as := [vi z138, vi z140, vi z142, vi z144]) (rest := []) (by decide +kernel) (q := 0) (nq := 12) (kq := 3) ⟨by decide, rfl⟩ rfl rfl rfl rfl (xe_mono (E_X10_give_0 s hG z138 (by first | exact x_rbe e_z138 g_z138 rfl rfl | exact x_rb g_z138 rfl rfl | exact ⟨by omega, by omega⟩) z140 (by first | exact x_rbe e_z140 g_z140 rfl rfl | exact x_rb g_z140 rfl rfl | exact ⟨by omega, by omega⟩) z142 (by first | exact x_rbe e_z142 g_z142 rfl rfl | exact x_rb g_z142 rfl rfl | exact ⟨by omega, by omega⟩) z144 (by first | exact x_rbe e_z144 g_z144 rfl rfl | exact x_rb g_z144 rfl rfl | exact ⟨by omega, by omega⟩) ⟨by omega, by omega⟩ ⟨by omega, by omega⟩ ⟨by omega, by omega⟩) ?_)
        rintro s148 v ⟨hG_s148, t_s148, z147, rfl, g_z147, xp_z147⟩
        have q149 : s148 46 3 = x1000 := (t_s148 46 3 (show 452 ∉ [711, 768, 832, 896, 960, 1024, 1152, 3276, 3277] from by decide +kernel)).trans e_x1000.symm
        have q150 : s148 256 6 = x1001 := (t_s148 256 6 (show 4103 ∉ [711, 768, 832, 896, 960, 1024, 1152, 3276, 3277] from by decide +kernel)).trans e_x1001.symm
        have q151 : s148 1 4 = z146 := (t_s148 1 4 (show 69 ∉ [711, 768, 832, 896, 960, 1024, 1152, 3276, 3277] from by decide +kernel)).trans e_z146.symm
        have J_s148 : J s148 := J.fl i_J t_s148 (by decide +kernel)
        have T0_s148 : T0 s148 := T0.fl i_T0 t_s148 (by decide +kernel)
        obtain ⟨z152, e_z152⟩ : ∃ z, z = s148 50 6 := ⟨_, rfl⟩
        have g_z152 : (0 : Int) ≤ s148 50 6 ∧ s148 50 6 ≤ 120 := hG_s148 50 6
        show xe (some (N, xs)) 231 423 [(0, .ref 2000), (1, .ref 0), (2, .ref 256), (3, vi x3)] [vi z147] s148 295 10442 _
        refine x_A k231_423 (fun _ => rfl) ?_
        refine x_A k231_424 (fun _ => rfl) ?_
        refine x_A k231_425 (fun _ => rfl) ?_
        refine x_A k231_426 (fun _ => rfl) ?_
        refine x_A k231_427 (fun _ => rfl) ?_
        refine x_iadd k231_428 ?_
        refine x_top (fun z153 e_z153 => ?_)
        refine x_scr k231_429 hN ⟨by omega, by omega⟩ (fun z154 g_z154 e_z154 => ?_)
        unfold in32 at g_z154
        have q_z154 : z154 = z138 := by rw [e_z154, e_z138, show z153 = z137 by omega]
        refine x_A k231_430 (fun _ => rfl) ?_
        refine x_A k231_431 (fun _ => rfl) ?_
        refine x_A k231_432 (fun _ => rfl) ?_
        refine x_iadd k231_433 ?_
        refine x_top (fun z155 e_z155 => ?_)
        refine x_scr k231_434 hN ⟨by omega, by omega⟩ (fun z156 g_z156 e_z156 => ?_)
        unfold in32 at g_z156
        have q_z156 : z156 = z140 := by rw [e_z156, e_z140, show z155 = z139 by omega]
        refine x_A k231_435 (fun _ => rfl) ?_
        refine x_A k231_436 (fun _ => rfl) ?_
        refine x_A k231_437 (fun _ => rfl) ?_
        refine x_iadd k231_438 ?_
        refine x_top (fun z157 e_z157 => ?_)
        refine x_scr k231_439 hN ⟨by omega, by omega⟩ (fun z158 g_z158 e_z158 => ?_)
        unfold in32 at g_z158
        have q_z158 : z158 = z142 := by rw [e_z158, e_z142, show z157 = z141 by omega]
        refine x_A k231_440 (fun _ => rfl) ?_
        refine x_A k231_441 (fun _ => rfl) ?_
        refine x_A k231_442 (fun _ => rfl) ?_
        refine x_iadd k231_443 ?_
        refine x_top (fun z159 e_z159 => ?_)
        refine x_scr k231_444 hN ⟨by omega, by omega⟩ (fun z160 g_z160 e_z160 => ?_)
        unfold in32 at g_z160
        have q_z160 : z160 = z144 := by rw [e_z160, e_z144, show z159 = z143 by omega]
        obtain ⟨z161, e_z161⟩ : ∃ z, z = s148 256 10 := ⟨_, rfl⟩
        have g_z161 : (0 : Int) ≤ s148 256 10 ∧ s148 256 10 ≤ 120 := hG_s148 256 10
        obtain ⟨z162, e_z162⟩ : ∃ z, z = s148 256 1 := ⟨_, rfl⟩
        have g_z162 : (1 : Int) ≤ s148 256 1 ∧ s148 256 1 ≤ 40 := hG_s148 256 1
        refine x_callV k231_445 (y := 155) (n := 4) (w0 := 0) (w1 := 4) (as := [vi z154, vi z156, vi z158, vi z160]) (rest := []) (by decide +kernel) (q := 256) (nq := 62) (kq := 15) ⟨by decide, rfl⟩ rfl rfl rfl rfl (xe_mono (E_X11_give_256 s148 hG_s148 z154 (by first | exact x_rbe e_z154 g_z154 rfl rfl | exact x_rb g_z154 rfl rfl | exact ⟨by omega, by omega⟩) z156 (by first | exact x_rbe e_z156 g_z156 rfl rfl | exact x_rb g_z156 rfl rfl | exact ⟨by omega, by omega⟩) z158 (by first | exact x_rbe e_z158 g_z158 rfl rfl | exact x_rb g_z158 rfl rfl | exact ⟨by omega, by omega⟩) z160 (by first | exact x_rbe e_z160 g_z160 rfl rfl | exact x_rb g_z160 rfl rfl | exact ⟨by omega, by omega⟩) ⟨by omega, by omega⟩ ⟨by omega, by omega⟩ ⟨by omega, by omega⟩) ?_)
        rintro s164 v ⟨hG_s164, t_s164, z163, rfl, g_z163, xp_z163⟩
        have q165 : s164 46 3 = x1000 := (t_s164 46 3 (show 452 ∉ [4107, 4608, 4672, 4736, 4800, 4864, 4928] from by decide +kernel)).trans q149
        have q166 : s164 256 6 = x1001 := (t_s164 256 6 (show 4103 ∉ [4107, 4608, 4672, 4736, 4800, 4864, 4928] from by decide +kernel)).trans q150
        have q167 : s164 1 4 = z146 := (t_s164 1 4 (show 69 ∉ [4107, 4608, 4672, 4736, 4800, 4864, 4928] from by decide +kernel)).trans q151
        have q168 : s164 50 6 = z152 := (t_s164 50 6 (show 711 ∉ [4107, 4608, 4672, 4736, 4800, 4864, 4928] from by decide +kernel)).trans e_z152.symm
        have q169 : s164 256 1 = z162 := (t_s164 256 1 (show 4098 ∉ [4107, 4608, 4672, 4736, 4800, 4864, 4928] from by decide +kernel)).trans e_z162.symm
        have J_s164 : J s164 := J.fl J_s148 t_s164 (by decide +kernel)
        have T0_s164 : T0 s164 := T0.fl T0_s148 t_s164 (by decide +kernel)
        obtain ⟨z170, e_z170⟩ : ∃ z, z = s164 256 10 := ⟨_, rfl⟩
        have g_z170 : (0 : Int) ≤ s164 256 10 ∧ s164 256 10 ≤ 120 := hG_s164 256 10
        show xe (some (N, xs)) 231 448 [(0, .ref 2000), (1, .ref 0), (2, .ref 256), (3, vi x3)] [vi z163] s164 295 10442 _
        obtain ⟨ez_s164, G1_s164⟩ := G1.give i_G1 i_T0.2.1 pq_s hG t_s148 t_s164 (by decide) (by decide) xp_z147 (by rw [← q_z154, ← q_z156, ← q_z158, ← q_z160]; exact xp_z163)
        refine x_A k231_448 (fun _ => rfl) ?_
        refine x_goto k231_449 (t := 1300) rfl ?_
        refine x_iinc k231_1300 (ls' := [(3, vi (x3 + 7)), (0, .ref 2000), (1, .ref 0), (2, .ref 256)]) rfl (by decide) rfl ?_
        refine x_goto k231_1303 (t := 18) rfl ?_
        refine x_ls (l := [(0, .ref 2000), (1, .ref 0), (2, .ref 256), (3, vi (x3 + 7))]) (show ([0, 1, 2, 3] : List Nat).Nodup from by decide +kernel) ⟨rfl, rfl, rfl, rfl, trivial⟩ ?_
        exact ih s164 (x3 + 7) x1000 x1001 hG_s164 trivial ⟨by omega, by omega⟩ (by first | exact x_rb b_x1000 rfl rfl | exact ⟨by omega, by omega⟩) (by first | exact x_rb b_x1001 rfl rfl | exact ⟨by omega, by omega⟩) (by omega) (q165).symm (q166).symm J_s164 T0_s164 G1_s164  (by omega)
      · rw [c5]
        refine x_B k231_33 rfl (fun _ => rfl) (fun _ => rfl) (fun _ _ => rfl) ?_
        show xe (some (N, xs)) 231 452 [(0, .ref 2000), (1, .ref 0), (2, .ref 256), (3, vi x3)] [] s 295 10442 _
        refine x_A k231_452 (fun _ => rfl) ?_
        refine x_A k231_453 (fun _ => rfl) ?_
        refine x_A k231_454 (fun _ => rfl) ?_
        refine x_A k231_455 (fun _ => rfl) ?_
        refine x_iadd k231_456 ?_
        refine x_top (fun z171 e_z171 => ?_)
        refine x_scr k231_457 hN ⟨by omega, by omega⟩ (fun z172 g_z172 e_z172 => ?_)
        unfold in32 at g_z172
        refine x_A k231_458 (fun _ => rfl) ?_
        refine x_A k231_459 (fun _ => rfl) ?_
        refine x_A k231_460 (fun _ => rfl) ?_
        refine x_iadd k231_461 ?_
        refine x_top (fun z173 e_z173 => ?_)
        refine x_scr k231_462 hN ⟨by omega, by omega⟩ (fun z174 g_z174 e_z174 => ?_)
        unfold in32 at g_z174
        obtain ⟨z175, e_z175⟩ : ∃ z, z = s 50 6 := ⟨_, rfl⟩
        have g_z175 : (0 : Int) ≤ s 50 6 ∧ s 50 6 ≤ 120 := hG 50 6
        obtain ⟨z176, e_z176⟩ : ∃ z, z = s 0 10 := ⟨_, rfl⟩
        have g_z176 : (0 : Int) ≤ s 0 10 ∧ s 0 10 ≤ 9 := hG 0 10
        refine x_callV k231_463 (y := 99) (n := 2) (w0 := 0) (w1 := 2) (as := [vi z172, vi z174]) (rest := []) (by decide +kernel) (q := 0) (nq := 12) (kq := 3) ⟨by decide, rfl⟩ rfl rfl rfl rfl (xe_mono (E_X10_doubt_0 s hG z172 (by first | exact x_rbe e_z172 g_z172 rfl rfl | exact x_rb g_z172 rfl rfl | exact ⟨by omega, by omega⟩) z174 (by first | exact x_rbe e_z174 g_z174 rfl rfl | exact x_rb g_z174 rfl rfl | exact ⟨by omega, by omega⟩) ⟨by omega, by omega⟩ ⟨by omega, by omega⟩) ?_)
        rintro s178 v ⟨hG_s178, t_s178, z177, rfl, g_z177, xp_z177⟩
        have q179 : s178 46 3 = x1000 := (t_s178 46 3 (show 452 ∉ [1152, 3276, 3277] from by decide +kernel)).trans e_x1000.symm
        have q180 : s178 256 6 = x1001 := (t_s178 256 6 (show 4103 ∉ [1152, 3276, 3277] from by decide +kernel)).trans e_x1001.symm
        have q181 : s178 50 6 = z175 := (t_s178 50 6 (show 711 ∉ [1152, 3276, 3277] from by decide +kernel)).trans e_z175.symm
        have q182 : s178 0 10 = z176 := (t_s178 0 10 (show 11 ∉ [1152, 3276, 3277] from by decide +kernel)).trans e_z176.symm
        have J_s178 : J s178 := J.fl i_J t_s178 (by decide +kernel)
        have T0_s178 : T0 s178 := T0.fl i_T0 t_s178 (by decide +kernel)
        show xe (some (N, xs)) 231 466 [(0, .ref 2000), (1, .ref 0), (2, .ref 256), (3, vi x3)] [vi z177] s178 295 10442 _
        refine x_A k231_466 (fun _ => rfl) ?_
        refine x_A k231_467 (fun _ => rfl) ?_
        refine x_A k231_468 (fun _ => rfl) ?_
        refine x_A k231_469 (fun _ => rfl) ?_
        refine x_iadd k231_470 ?_
        refine x_top (fun z183 e_z183 => ?_)
        refine x_scr k231_471 hN ⟨by omega, by omega⟩ (fun z184 g_z184 e_z184 => ?_)
        unfold in32 at g_z184
        have q_z184 : z184 = z172 := by rw [e_z184, e_z172, show z183 = z171 by omega]
        refine x_A k231_472 (fun _ => rfl) ?_
        refine x_A k231_473 (fun _ => rfl) ?_
        refine x_A k231_474 (fun _ => rfl) ?_
        refine x_iadd k231_475 ?_
        refine x_top (fun z185 e_z185 => ?_)
        refine x_scr k231_476 hN ⟨by omega, by omega⟩ (fun z186 g_z186 e_z186 => ?_)
        unfold in32 at g_z186
        have q_z186 : z186 = z174 := by rw [e_z186, e_z174, show z185 = z173 by omega]
        obtain ⟨z187, e_z187⟩ : ∃ z, z = s178 256 10 := ⟨_, rfl⟩
        have g_z187 : (0 : Int) ≤ s178 256 10 ∧ s178 256 10 ≤ 120 := hG_s178 256 10
        obtain ⟨z188, e_z188⟩ : ∃ z, z = s178 256 0 := ⟨_, rfl⟩
        have g_z188 : (0 : Int) ≤ s178 256 0 ∧ s178 256 0 ≤ 9 := hG_s178 256 0
        refine x_callV k231_477 (y := 157) (n := 2) (w0 := 1) (w1 := 2) (as := [vi z184, vi z186]) (rest := [vi z177]) (by decide +kernel) (q := 256) (nq := 62) (kq := 15) ⟨by decide, rfl⟩ rfl rfl rfl rfl (xe_mono (E_X11_doubt_256 s178 hG_s178 z184 (by first | exact x_rbe e_z184 g_z184 rfl rfl | exact x_rb g_z184 rfl rfl | exact ⟨by omega, by omega⟩) z186 (by first | exact x_rbe e_z186 g_z186 rfl rfl | exact x_rb g_z186 rfl rfl | exact ⟨by omega, by omega⟩) ⟨by omega, by omega⟩ ⟨by omega, by omega⟩) ?_)
        rintro s190 v ⟨hG_s190, t_s190, z189, rfl, g_z189, xp_z189⟩
        have q191 : s190 46 3 = x1000 := (t_s190 46 3 (show 452 ∉ [4928] from by decide +kernel)).trans q179
        have q192 : s190 256 6 = x1001 := (t_s190 256 6 (show 4103 ∉ [4928] from by decide +kernel)).trans q180
        have q193 : s190 50 6 = z175 := (t_s190 50 6 (show 711 ∉ [4928] from by decide +kernel)).trans q181
        have q194 : s190 0 10 = z176 := (t_s190 0 10 (show 11 ∉ [4928] from by decide +kernel)).trans q182
        have q195 : s190 256 10 = z187 := (t_s190 256 10 (show 4107 ∉ [4928] from by decide +kernel)).trans e_z187.symm
        have q196 : s190 256 0 = z188 := (t_s190 256 0 (show 4097 ∉ [4928] from by decide +kernel)).trans e_z188.symm
        have J_s190 : J s190 := J.fl J_s178 t_s190 (by decide +kernel)
        have T0_s190 : T0 s190 := T0.fl T0_s178 t_s190 (by decide +kernel)
        show xe (some (N, xs)) 231 480 [(0, .ref 2000), (1, .ref 0), (2, .ref 256), (3, vi x3)] [vi z189, vi z177] s190 295 10442 _
        obtain ⟨ez_s190, G1_s190⟩ := G1.doubt i_G1 i_T0.1 hG t_s178 t_s190 (by decide) (by decide) xp_z177 (by rw [← q_z184, ← q_z186]; exact xp_z189)
        refine x_ic_eq k231_480 (t := 1300) rfl (by first | exact x_rbe e_z177 g_z177 rfl rfl | exact x_rb g_z177 rfl rfl | exact ⟨by omega, by omega⟩) (by first | exact x_rbe e_z189 g_z189 rfl rfl | exact x_rb g_z189 rfl rfl | exact ⟨by omega, by omega⟩) (fun c197 => ?_) (fun c197 => ?_)
        · skip
          refine x_iinc k231_1300 (ls' := [(3, vi (x3 + 7)), (0, .ref 2000), (1, .ref 0), (2, .ref 256)]) rfl (by decide) rfl ?_
          refine x_goto k231_1303 (t := 18) rfl ?_
          refine x_ls (l := [(0, .ref 2000), (1, .ref 0), (2, .ref 256), (3, vi (x3 + 7))]) (show ([0, 1, 2, 3] : List Nat).Nodup from by decide +kernel) ⟨rfl, rfl, rfl, rfl, trivial⟩ ?_
          exact ih s190 (x3 + 7) x1000 x1001 hG_s190 trivial ⟨by omega, by omega⟩ (by first | exact x_rb b_x1000 rfl rfl | exact ⟨by omega, by omega⟩) (by first | exact x_rb b_x1001 rfl rfl | exact ⟨by omega, by omega⟩) (by omega) (q191).symm (q192).symm J_s190 T0_s190 G1_s190  (by omega)
        · skip
          refine x_A k231_483 (fun _ => rfl) ?_
          exfalso; omega
      · rw [c5]
        refine x_B k231_33 rfl (fun _ => rfl) (fun _ => rfl) (fun _ _ => rfl) ?_
        show xe (some (N, xs)) 231 485 [(0, .ref 2000), (1, .ref 0), (2, .ref 256), (3, vi x3)] [] s 295 10442 _
        refine x_A k231_485 (fun _ => rfl) ?_
        refine x_A k231_486 (fun _ => rfl) ?_
        refine x_A k231_487 (fun _ => rfl) ?_
        refine x_A k231_488 (fun _ => rfl) ?_
        refine x_iadd k231_489 ?_
        refine x_top (fun z198 e_z198 => ?_)
        refine x_scr k231_490 hN ⟨by omega, by omega⟩ (fun z199 g_z199 e_z199 => ?_)
        unfold in32 at g_z199
        refine x_A k231_491 (fun _ => rfl) ?_
        refine x_A k231_492 (fun _ => rfl) ?_
        refine x_A k231_493 (fun _ => rfl) ?_
        refine x_iadd k231_494 ?_
        refine x_top (fun z200 e_z200 => ?_)
        refine x_scr k231_495 hN ⟨by omega, by omega⟩ (fun z201 g_z201 e_z201 => ?_)
        unfold in32 at g_z201
        refine x_callV k231_496 (y := 100) (n := 2) (w0 := 0) (w1 := 2) (as := [vi z199, vi z201]) (rest := []) (by decide +kernel) (q := 0) (nq := 12) (kq := 3) ⟨by decide, rfl⟩ rfl rfl rfl rfl (xe_mono (C_X10_told_0 s hG i_J z199 (by first | exact x_rbe e_z199 g_z199 rfl rfl | exact x_rb g_z199 rfl rfl | exact ⟨by omega, by omega⟩) z201 (by first | exact x_rbe e_z201 g_z201 rfl rfl | exact x_rb g_z201 rfl rfl | exact ⟨by omega, by omega⟩)) ?_)
        rintro s203 v ⟨hG_s203, t_s203, z202, rfl, g_z202⟩
        have q204 : s203 46 3 = x1000 := (t_s203 46 3 (show 452 ∉ [3329, 3334, 3335, 3336, 3392, 3456, 3520, 3584, 3276, 3648, 3712, 3776, 3840, 3904, 3968, 3277, 4032] from by decide +kernel)).trans e_x1000.symm
        have q205 : s203 256 6 = x1001 := (t_s203 256 6 (show 4103 ∉ [3329, 3334, 3335, 3336, 3392, 3456, 3520, 3584, 3276, 3648, 3712, 3776, 3840, 3904, 3968, 3277, 4032] from by decide +kernel)).trans e_x1001.symm
        have J_s203 : J s203 := J.fl i_J t_s203 (by decide +kernel)
        have T0_s203 : T0 s203 := T0.fl i_T0 t_s203 (by decide +kernel)
        have G1_s203 : G1 s203 := G1.fl i_G1 t_s203 (by decide +kernel)
        show xe (some (N, xs)) 231 499 [(0, .ref 2000), (1, .ref 0), (2, .ref 256), (3, vi x3)] [vi z202] s203 295 10442 _
        refine x_A k231_499 (fun _ => rfl) ?_
        refine x_A k231_500 (fun _ => rfl) ?_
        refine x_A k231_501 (fun _ => rfl) ?_
        refine x_A k231_502 (fun _ => rfl) ?_
        refine x_A k231_503 (fun _ => rfl) ?_
        refine x_iadd k231_504 ?_
        refine x_top (fun z206 e_z206 => ?_)
        refine x_scr k231_505 hN ⟨by omega, by omega⟩ (fun z207 g_z207 e_z207 => ?_)
        unfold in32 at g_z207
        have q_z207 : z207 = z199 := by rw [e_z207, e_z199, show z206 = z198 by omega]
        refine x_A k231_506 (fun _ => rfl) ?_
        refine x_A k231_507 (fun _ => rfl) ?_
        refine x_A k231_508 (fun _ => rfl) ?_
        refine x_iadd k231_509 ?_
        refine x_top (fun z208 e_z208 => ?_)
        refine x_scr k231_510 hN ⟨by omega, by omega⟩ (fun z209 g_z209 e_z209 => ?_)
        unfold in32 at g_z209
        have q_z209 : z209 = z201 := by rw [e_z209, e_z201, show z208 = z200 by omega]
        refine x_callV k231_511 (y := 158) (n := 2) (w0 := 0) (w1 := 2) (as := [vi z207, vi z209]) (rest := []) (by decide +kernel) (q := 256) (nq := 62) (kq := 15) ⟨by decide, rfl⟩ rfl rfl rfl rfl (xe_mono (C_X11_told_256 s203 hG_s203 J_s203 z207 (by first | exact x_rbe e_z207 g_z207 rfl rfl | exact x_rb g_z207 rfl rfl | exact ⟨by omega, by omega⟩) z209 (by first | exact x_rbe e_z209 g_z209 rfl rfl | exact x_rb g_z209 rfl rfl | exact ⟨by omega, by omega⟩)) ?_)
        rintro s211 v ⟨hG_s211, t_s211, z210, rfl, g_z210⟩
        have q212 : s211 46 3 = x1000 := (t_s211 46 3 (show 452 ∉ [5312, 5376, 4123, 5440, 5504, 5568] from by decide +kernel)).trans q204
        have q213 : s211 256 6 = x1001 := (t_s211 256 6 (show 4103 ∉ [5312, 5376, 4123, 5440, 5504, 5568] from by decide +kernel)).trans q205
        have J_s211 : J s211 := J.fl J_s203 t_s211 (by decide +kernel)
        have T0_s211 : T0 s211 := T0.fl T0_s203 t_s211 (by decide +kernel)
        have G1_s211 : G1 s211 := G1.fl G1_s203 t_s211 (by decide +kernel)
        show xe (some (N, xs)) 231 514 [(0, .ref 2000), (1, .ref 0), (2, .ref 256), (3, vi x3)] [vi z210] s211 295 10442 _
        refine x_A k231_514 (fun _ => rfl) ?_
        refine x_goto k231_515 (t := 1300) rfl ?_
        refine x_iinc k231_1300 (ls' := [(3, vi (x3 + 7)), (0, .ref 2000), (1, .ref 0), (2, .ref 256)]) rfl (by decide) rfl ?_
        refine x_goto k231_1303 (t := 18) rfl ?_
        refine x_ls (l := [(0, .ref 2000), (1, .ref 0), (2, .ref 256), (3, vi (x3 + 7))]) (show ([0, 1, 2, 3] : List Nat).Nodup from by decide +kernel) ⟨rfl, rfl, rfl, rfl, trivial⟩ ?_
        exact ih s211 (x3 + 7) x1000 x1001 hG_s211 trivial ⟨by omega, by omega⟩ (by first | exact x_rb b_x1000 rfl rfl | exact ⟨by omega, by omega⟩) (by first | exact x_rb b_x1001 rfl rfl | exact ⟨by omega, by omega⟩) (by omega) (q212).symm (q213).symm J_s211 T0_s211 G1_s211  (by omega)
      · rw [c5]
        refine x_B k231_33 rfl (fun _ => rfl) (fun _ => rfl) (fun _ _ => rfl) ?_
        show xe (some (N, xs)) 231 518 [(0, .ref 2000), (1, .ref 0), (2, .ref 256), (3, vi x3)] [] s 295 10442 _
        refine x_A k231_518 (fun _ => rfl) ?_
        refine x_A k231_519 (fun _ => rfl) ?_
        refine x_A k231_520 (fun _ => rfl) ?_
        refine x_A k231_521 (fun _ => rfl) ?_
        refine x_iadd k231_522 ?_
        refine x_top (fun z214 e_z214 => ?_)
        refine x_scr k231_523 hN ⟨by omega, by omega⟩ (fun z215 g_z215 e_z215 => ?_)
        unfold in32 at g_z215
        refine x_A k231_524 (fun _ => rfl) ?_
        refine x_A k231_525 (fun _ => rfl) ?_
        refine x_A k231_526 (fun _ => rfl) ?_
        refine x_iadd k231_527 ?_
        refine x_top (fun z216 e_z216 => ?_)
        refine x_scr k231_528 hN ⟨by omega, by omega⟩ (fun z217 g_z217 e_z217 => ?_)
        unfold in32 at g_z217
        refine x_A k231_529 (fun _ => rfl) ?_
        refine x_A k231_530 (fun _ => rfl) ?_
        refine x_A k231_531 (fun _ => rfl) ?_
        refine x_iadd k231_532 ?_
        refine x_top (fun z218 e_z218 => ?_)
        refine x_scr k231_533 hN ⟨by omega, by omega⟩ (fun z219 g_z219 e_z219 => ?_)
        unfold in32 at g_z219
        refine x_callV k231_534 (y := 101) (n := 3) (w0 := 0) (w1 := 3) (as := [vi z215, vi z217, vi z219]) (rest := []) (by decide +kernel) (q := 0) (nq := 12) (kq := 3) ⟨by decide, rfl⟩ rfl rfl rfl rfl (xe_mono (C_X10_means_0 s hG i_J z215 (by first | exact x_rbe e_z215 g_z215 rfl rfl | exact x_rb g_z215 rfl rfl | exact ⟨by omega, by omega⟩) z217 (by first | exact x_rbe e_z217 g_z217 rfl rfl | exact x_rb g_z217 rfl rfl | exact ⟨by omega, by omega⟩) z219 (by first | exact x_rbe e_z219 g_z219 rfl rfl | exact x_rb g_z219 rfl rfl | exact ⟨by omega, by omega⟩)) ?_)
        rintro s221 v ⟨hG_s221, t_s221, z220, rfl, g_z220⟩
        have q222 : s221 46 3 = x1000 := (t_s221 46 3 (show 452 ∉ [3329, 3334, 3335, 3336, 3392, 3456, 3520, 3584, 3276, 3648, 3712, 3776, 3840, 3904, 3968, 3277, 4032, 1921, 1926, 1927, 1928, 1984, 2048, 2112, 2176] from by decide +kernel)).trans e_x1000.symm
        have q223 : s221 256 6 = x1001 := (t_s221 256 6 (show 4103 ∉ [3329, 3334, 3335, 3336, 3392, 3456, 3520, 3584, 3276, 3648, 3712, 3776, 3840, 3904, 3968, 3277, 4032, 1921, 1926, 1927, 1928, 1984, 2048, 2112, 2176] from by decide +kernel)).trans e_x1001.symm
        have J_s221 : J s221 := J.fl i_J t_s221 (by decide +kernel)
        have T0_s221 : T0 s221 := T0.fl i_T0 t_s221 (by decide +kernel)
        have G1_s221 : G1 s221 := G1.fl i_G1 t_s221 (by decide +kernel)
        show xe (some (N, xs)) 231 537 [(0, .ref 2000), (1, .ref 0), (2, .ref 256), (3, vi x3)] [vi z220] s221 295 10442 _
        refine x_A k231_537 (fun _ => rfl) ?_
        refine x_A k231_538 (fun _ => rfl) ?_
        refine x_A k231_539 (fun _ => rfl) ?_
        refine x_A k231_540 (fun _ => rfl) ?_
        refine x_A k231_541 (fun _ => rfl) ?_
        refine x_iadd k231_542 ?_
        refine x_top (fun z224 e_z224 => ?_)
        refine x_scr k231_543 hN ⟨by omega, by omega⟩ (fun z225 g_z225 e_z225 => ?_)
        unfold in32 at g_z225
        have q_z225 : z225 = z215 := by rw [e_z225, e_z215, show z224 = z214 by omega]
        refine x_A k231_544 (fun _ => rfl) ?_
        refine x_A k231_545 (fun _ => rfl) ?_
        refine x_A k231_546 (fun _ => rfl) ?_
        refine x_iadd k231_547 ?_
        refine x_top (fun z226 e_z226 => ?_)
        refine x_scr k231_548 hN ⟨by omega, by omega⟩ (fun z227 g_z227 e_z227 => ?_)
        unfold in32 at g_z227
        have q_z227 : z227 = z217 := by rw [e_z227, e_z217, show z226 = z216 by omega]
        refine x_A k231_549 (fun _ => rfl) ?_
        refine x_A k231_550 (fun _ => rfl) ?_
        refine x_A k231_551 (fun _ => rfl) ?_
        refine x_iadd k231_552 ?_
        refine x_top (fun z228 e_z228 => ?_)
        refine x_scr k231_553 hN ⟨by omega, by omega⟩ (fun z229 g_z229 e_z229 => ?_)
        unfold in32 at g_z229
        have q_z229 : z229 = z219 := by rw [e_z229, e_z219, show z228 = z218 by omega]
        refine x_callV k231_554 (y := 172) (n := 3) (w0 := 0) (w1 := 3) (as := [vi z225, vi z227, vi z229]) (rest := []) (by decide +kernel) (q := 256) (nq := 62) (kq := 15) ⟨by decide, rfl⟩ rfl rfl rfl rfl (xe_mono (C_X11_means_256 s221 hG_s221 J_s221 z225 (by first | exact x_rbe e_z225 g_z225 rfl rfl | exact x_rb g_z225 rfl rfl | exact ⟨by omega, by omega⟩) z227 (by first | exact x_rbe e_z227 g_z227 rfl rfl | exact x_rb g_z227 rfl rfl | exact ⟨by omega, by omega⟩) z229 (by first | exact x_rbe e_z229 g_z229 rfl rfl | exact x_rb g_z229 rfl rfl | exact ⟨by omega, by omega⟩)) ?_)
        rintro s231 v ⟨hG_s231, t_s231, z230, rfl, g_z230⟩
        have q232 : s231 46 3 = x1000 := (t_s231 46 3 (show 452 ∉ [5312, 5376, 4123, 5440, 5504, 5568, 5632, 5696, 5760] from by decide +kernel)).trans q222
        have q233 : s231 256 6 = x1001 := (t_s231 256 6 (show 4103 ∉ [5312, 5376, 4123, 5440, 5504, 5568, 5632, 5696, 5760] from by decide +kernel)).trans q223
        have J_s231 : J s231 := J.fl J_s221 t_s231 (by decide +kernel)
        have T0_s231 : T0 s231 := T0.fl T0_s221 t_s231 (by decide +kernel)
        have G1_s231 : G1 s231 := G1.fl G1_s221 t_s231 (by decide +kernel)
        show xe (some (N, xs)) 231 557 [(0, .ref 2000), (1, .ref 0), (2, .ref 256), (3, vi x3)] [vi z230] s231 295 10442 _
        refine x_A k231_557 (fun _ => rfl) ?_
        refine x_goto k231_558 (t := 1300) rfl ?_
        refine x_iinc k231_1300 (ls' := [(3, vi (x3 + 7)), (0, .ref 2000), (1, .ref 0), (2, .ref 256)]) rfl (by decide) rfl ?_
        refine x_goto k231_1303 (t := 18) rfl ?_
        refine x_ls (l := [(0, .ref 2000), (1, .ref 0), (2, .ref 256), (3, vi (x3 + 7))]) (show ([0, 1, 2, 3] : List Nat).Nodup from by decide +kernel) ⟨rfl, rfl, rfl, rfl, trivial⟩ ?_
        exact ih s231 (x3 + 7) x1000 x1001 hG_s231 trivial ⟨by omega, by omega⟩ (by first | exact x_rb b_x1000 rfl rfl | exact ⟨by omega, by omega⟩) (by first | exact x_rb b_x1001 rfl rfl | exact ⟨by omega, by omega⟩) (by omega) (q232).symm (q233).symm J_s231 T0_s231 G1_s231  (by omega)
      · rw [c5]
        refine x_B k231_33 rfl (fun _ => rfl) (fun _ => rfl) (fun _ _ => rfl) ?_
        show xe (some (N, xs)) 231 561 [(0, .ref 2000), (1, .ref 0), (2, .ref 256), (3, vi x3)] [] s 295 10442 _
        refine x_A k231_561 (fun _ => rfl) ?_
        refine x_A k231_562 (fun _ => rfl) ?_
        refine x_A k231_563 (fun _ => rfl) ?_
        refine x_A k231_564 (fun _ => rfl) ?_
        refine x_iadd k231_565 ?_
        refine x_top (fun z234 e_z234 => ?_)
        refine x_scr k231_566 hN ⟨by omega, by omega⟩ (fun z235 g_z235 e_z235 => ?_)
        unfold in32 at g_z235
        refine x_A k231_567 (fun _ => rfl) ?_
        refine x_A k231_568 (fun _ => rfl) ?_
        refine x_A k231_569 (fun _ => rfl) ?_
        refine x_iadd k231_570 ?_
        refine x_top (fun z236 e_z236 => ?_)
        refine x_scr k231_571 hN ⟨by omega, by omega⟩ (fun z237 g_z237 e_z237 => ?_)
        unfold in32 at g_z237
        refine x_A k231_572 (fun _ => rfl) ?_
        refine x_A k231_573 (fun _ => rfl) ?_
        refine x_A k231_574 (fun _ => rfl) ?_
        refine x_iadd k231_575 ?_
        refine x_top (fun z238 e_z238 => ?_)
        refine x_scr k231_576 hN ⟨by omega, by omega⟩ (fun z239 g_z239 e_z239 => ?_)
        unfold in32 at g_z239
        refine x_callV k231_577 (y := 102) (n := 3) (w0 := 0) (w1 := 3) (as := [vi z235, vi z237, vi z239]) (rest := []) (by decide +kernel) (q := 0) (nq := 12) (kq := 3) ⟨by decide, rfl⟩ rfl rfl rfl rfl (xe_mono (C_X10_led_0 s hG i_J z235 (by first | exact x_rbe e_z235 g_z235 rfl rfl | exact x_rb g_z235 rfl rfl | exact ⟨by omega, by omega⟩) z237 (by first | exact x_rbe e_z237 g_z237 rfl rfl | exact x_rb g_z237 rfl rfl | exact ⟨by omega, by omega⟩) z239 (by first | exact x_rbe e_z239 g_z239 rfl rfl | exact x_rb g_z239 rfl rfl | exact ⟨by omega, by omega⟩)) ?_)
        rintro s241 v ⟨hG_s241, t_s241, z240, rfl, g_z240⟩
        have q242 : s241 46 3 = x1000 := (t_s241 46 3 (show 452 ∉ [3329, 3334, 3335, 3336, 3392, 3456, 3520, 3584, 3276, 3648, 3712, 3776, 3840, 3904, 3968, 3277, 4032] from by decide +kernel)).trans e_x1000.symm
        have q243 : s241 256 6 = x1001 := (t_s241 256 6 (show 4103 ∉ [3329, 3334, 3335, 3336, 3392, 3456, 3520, 3584, 3276, 3648, 3712, 3776, 3840, 3904, 3968, 3277, 4032] from by decide +kernel)).trans e_x1001.symm
        have J_s241 : J s241 := J.fl i_J t_s241 (by decide +kernel)
        have T0_s241 : T0 s241 := T0.fl i_T0 t_s241 (by decide +kernel)
        have G1_s241 : G1 s241 := G1.fl i_G1 t_s241 (by decide +kernel)
        show xe (some (N, xs)) 231 580 [(0, .ref 2000), (1, .ref 0), (2, .ref 256), (3, vi x3)] [vi z240] s241 295 10442 _
        refine x_A k231_580 (fun _ => rfl) ?_
        refine x_A k231_581 (fun _ => rfl) ?_
        refine x_A k231_582 (fun _ => rfl) ?_
        refine x_A k231_583 (fun _ => rfl) ?_
        refine x_A k231_584 (fun _ => rfl) ?_
        refine x_iadd k231_585 ?_
        refine x_top (fun z244 e_z244 => ?_)
        refine x_scr k231_586 hN ⟨by omega, by omega⟩ (fun z245 g_z245 e_z245 => ?_)
        unfold in32 at g_z245
        have q_z245 : z245 = z235 := by rw [e_z245, e_z235, show z244 = z234 by omega]
        refine x_A k231_587 (fun _ => rfl) ?_
        refine x_A k231_588 (fun _ => rfl) ?_
        refine x_A k231_589 (fun _ => rfl) ?_
        refine x_iadd k231_590 ?_
        refine x_top (fun z246 e_z246 => ?_)
        refine x_scr k231_591 hN ⟨by omega, by omega⟩ (fun z247 g_z247 e_z247 => ?_)
        unfold in32 at g_z247
        have q_z247 : z247 = z237 := by rw [e_z247, e_z237, show z246 = z236 by omega]
        refine x_A k231_592 (fun _ => rfl) ?_
        refine x_A k231_593 (fun _ => rfl) ?_
        refine x_A k231_594 (fun _ => rfl) ?_
        refine x_iadd k231_595 ?_
        refine x_top (fun z248 e_z248 => ?_)
        refine x_scr k231_596 hN ⟨by omega, by omega⟩ (fun z249 g_z249 e_z249 => ?_)
        unfold in32 at g_z249
        have q_z249 : z249 = z239 := by rw [e_z249, e_z239, show z248 = z238 by omega]
        refine x_callV k231_597 (y := 173) (n := 3) (w0 := 0) (w1 := 3) (as := [vi z245, vi z247, vi z249]) (rest := []) (by decide +kernel) (q := 256) (nq := 62) (kq := 15) ⟨by decide, rfl⟩ rfl rfl rfl rfl (xe_mono (C_X11_led_256 s241 hG_s241 J_s241 z245 (by first | exact x_rbe e_z245 g_z245 rfl rfl | exact x_rb g_z245 rfl rfl | exact ⟨by omega, by omega⟩) z247 (by first | exact x_rbe e_z247 g_z247 rfl rfl | exact x_rb g_z247 rfl rfl | exact ⟨by omega, by omega⟩) z249 (by first | exact x_rbe e_z249 g_z249 rfl rfl | exact x_rb g_z249 rfl rfl | exact ⟨by omega, by omega⟩)) ?_)
        rintro s251 v ⟨hG_s251, t_s251, z250, rfl, g_z250⟩
        have q252 : s251 46 3 = x1000 := (t_s251 46 3 (show 452 ∉ [5312, 5376, 4123, 5440, 5504, 5568, 5632, 5696, 5760] from by decide +kernel)).trans q242
        have q253 : s251 256 6 = x1001 := (t_s251 256 6 (show 4103 ∉ [5312, 5376, 4123, 5440, 5504, 5568, 5632, 5696, 5760] from by decide +kernel)).trans q243
        have J_s251 : J s251 := J.fl J_s241 t_s251 (by decide +kernel)
        have T0_s251 : T0 s251 := T0.fl T0_s241 t_s251 (by decide +kernel)
        have G1_s251 : G1 s251 := G1.fl G1_s241 t_s251 (by decide +kernel)
        show xe (some (N, xs)) 231 600 [(0, .ref 2000), (1, .ref 0), (2, .ref 256), (3, vi x3)] [vi z250] s251 295 10442 _
        refine x_A k231_600 (fun _ => rfl) ?_
        refine x_goto k231_601 (t := 1300) rfl ?_
        refine x_iinc k231_1300 (ls' := [(3, vi (x3 + 7)), (0, .ref 2000), (1, .ref 0), (2, .ref 256)]) rfl (by decide) rfl ?_
        refine x_goto k231_1303 (t := 18) rfl ?_
        refine x_ls (l := [(0, .ref 2000), (1, .ref 0), (2, .ref 256), (3, vi (x3 + 7))]) (show ([0, 1, 2, 3] : List Nat).Nodup from by decide +kernel) ⟨rfl, rfl, rfl, rfl, trivial⟩ ?_
        exact ih s251 (x3 + 7) x1000 x1001 hG_s251 trivial ⟨by omega, by omega⟩ (by first | exact x_rb b_x1000 rfl rfl | exact ⟨by omega, by omega⟩) (by first | exact x_rb b_x1001 rfl rfl | exact ⟨by omega, by omega⟩) (by omega) (q252).symm (q253).symm J_s251 T0_s251 G1_s251  (by omega)
      · rw [c5]
        refine x_B k231_33 rfl (fun _ => rfl) (fun _ => rfl) (fun _ _ => rfl) ?_
        show xe (some (N, xs)) 231 604 [(0, .ref 2000), (1, .ref 0), (2, .ref 256), (3, vi x3)] [] s 295 10442 _
        refine x_A k231_604 (fun _ => rfl) ?_
        refine x_A k231_605 (fun _ => rfl) ?_
        refine x_A k231_606 (fun _ => rfl) ?_
        refine x_A k231_607 (fun _ => rfl) ?_
        refine x_iadd k231_608 ?_
        refine x_top (fun z254 e_z254 => ?_)
        refine x_scr k231_609 hN ⟨by omega, by omega⟩ (fun z255 g_z255 e_z255 => ?_)
        unfold in32 at g_z255
        refine x_callV k231_610 (y := 103) (n := 1) (w0 := 0) (w1 := 1) (as := [vi z255]) (rest := []) (by decide +kernel) (q := 0) (nq := 12) (kq := 3) ⟨by decide, rfl⟩ rfl rfl rfl rfl (xe_mono (C_X10_count_0 s hG i_J z255 (by first | exact x_rbe e_z255 g_z255 rfl rfl | exact x_rb g_z255 rfl rfl | exact ⟨by omega, by omega⟩)) ?_)
        rintro s257 v ⟨hG_s257, t_s257, z256, rfl, g_z256⟩
        have q258 : s257 46 3 = x1000 := (t_s257 46 3 (show 452 ∉ [3329, 3334, 3335, 3336, 3392, 3456, 3520, 3584, 3276, 3648, 3712, 3776, 3840, 3904, 3968, 3277, 4032, 1921, 1926, 1927, 1928, 1984, 2048, 2112, 2176] from by decide +kernel)).trans e_x1000.symm
        have q259 : s257 256 6 = x1001 := (t_s257 256 6 (show 4103 ∉ [3329, 3334, 3335, 3336, 3392, 3456, 3520, 3584, 3276, 3648, 3712, 3776, 3840, 3904, 3968, 3277, 4032, 1921, 1926, 1927, 1928, 1984, 2048, 2112, 2176] from by decide +kernel)).trans e_x1001.symm
        have J_s257 : J s257 := J.fl i_J t_s257 (by decide +kernel)
        have T0_s257 : T0 s257 := T0.fl i_T0 t_s257 (by decide +kernel)
        have G1_s257 : G1 s257 := G1.fl i_G1 t_s257 (by decide +kernel)
        show xe (some (N, xs)) 231 613 [(0, .ref 2000), (1, .ref 0), (2, .ref 256), (3, vi x3)] [vi z256] s257 295 10442 _
        refine x_A k231_613 (fun _ => rfl) ?_
        refine x_A k231_614 (fun _ => rfl) ?_
        refine x_A k231_615 (fun _ => rfl) ?_
        refine x_A k231_616 (fun _ => rfl) ?_
        refine x_A k231_617 (fun _ => rfl) ?_
        refine x_iadd k231_618 ?_
        refine x_top (fun z260 e_z260 => ?_)
        refine x_scr k231_619 hN ⟨by omega, by omega⟩ (fun z261 g_z261 e_z261 => ?_)
        unfold in32 at g_z261
        have q_z261 : z261 = z255 := by rw [e_z261, e_z255, show z260 = z254 by omega]
        refine x_callV k231_620 (y := 174) (n := 1) (w0 := 0) (w1 := 1) (as := [vi z261]) (rest := []) (by decide +kernel) (q := 256) (nq := 62) (kq := 15) ⟨by decide, rfl⟩ rfl rfl rfl rfl (xe_mono (C_X11_count_256 s257 hG_s257 J_s257 z261 (by first | exact x_rbe e_z261 g_z261 rfl rfl | exact x_rb g_z261 rfl rfl | exact ⟨by omega, by omega⟩)) ?_)
        rintro s263 v ⟨hG_s263, t_s263, z262, rfl, g_z262⟩
        have q264 : s263 46 3 = x1000 := (t_s263 46 3 (show 452 ∉ [5312, 5376, 4123, 5440, 5504, 5568, 5632, 5696, 5760] from by decide +kernel)).trans q258
        have q265 : s263 256 6 = x1001 := (t_s263 256 6 (show 4103 ∉ [5312, 5376, 4123, 5440, 5504, 5568, 5632, 5696, 5760] from by decide +kernel)).trans q259
        have J_s263 : J s263 := J.fl J_s257 t_s263 (by decide +kernel)
        have T0_s263 : T0 s263 := T0.fl T0_s257 t_s263 (by decide +kernel)
        have G1_s263 : G1 s263 := G1.fl G1_s257 t_s263 (by decide +kernel)
        show xe (some (N, xs)) 231 623 [(0, .ref 2000), (1, .ref 0), (2, .ref 256), (3, vi x3)] [vi z262] s263 295 10442 _
        refine x_A k231_623 (fun _ => rfl) ?_
        refine x_goto k231_624 (t := 1300) rfl ?_
        refine x_iinc k231_1300 (ls' := [(3, vi (x3 + 7)), (0, .ref 2000), (1, .ref 0), (2, .ref 256)]) rfl (by decide) rfl ?_
        refine x_goto k231_1303 (t := 18) rfl ?_
        refine x_ls (l := [(0, .ref 2000), (1, .ref 0), (2, .ref 256), (3, vi (x3 + 7))]) (show ([0, 1, 2, 3] : List Nat).Nodup from by decide +kernel) ⟨rfl, rfl, rfl, rfl, trivial⟩ ?_
        exact ih s263 (x3 + 7) x1000 x1001 hG_s263 trivial ⟨by omega, by omega⟩ (by first | exact x_rb b_x1000 rfl rfl | exact ⟨by omega, by omega⟩) (by first | exact x_rb b_x1001 rfl rfl | exact ⟨by omega, by omega⟩) (by omega) (q264).symm (q265).symm J_s263 T0_s263 G1_s263  (by omega)
      · rw [c5]
        refine x_B k231_33 rfl (fun _ => rfl) (fun _ => rfl) (fun _ _ => rfl) ?_
        show xe (some (N, xs)) 231 627 [(0, .ref 2000), (1, .ref 0), (2, .ref 256), (3, vi x3)] [] s 295 10442 _
        refine x_A k231_627 (fun _ => rfl) ?_
        refine x_A k231_628 (fun _ => rfl) ?_
        refine x_A k231_629 (fun _ => rfl) ?_
        refine x_A k231_630 (fun _ => rfl) ?_
        refine x_iadd k231_631 ?_
        refine x_top (fun z266 e_z266 => ?_)
        refine x_scr k231_632 hN ⟨by omega, by omega⟩ (fun z267 g_z267 e_z267 => ?_)
        unfold in32 at g_z267
        refine x_A k231_633 (fun _ => rfl) ?_
        refine x_A k231_634 (fun _ => rfl) ?_
        refine x_A k231_635 (fun _ => rfl) ?_
        refine x_iadd k231_636 ?_
        refine x_top (fun z268 e_z268 => ?_)
        refine x_scr k231_637 hN ⟨by omega, by omega⟩ (fun z269 g_z269 e_z269 => ?_)
        unfold in32 at g_z269
        refine x_i2l k231_638 (by first | exact x_rbe e_z269 g_z269 rfl rfl | exact x_rb g_z269 rfl rfl | exact ⟨by omega, by omega⟩) ?_
        refine x_bipush k231_639 (by decide +kernel) ?_
        refine x_lshl_any k231_641 (fun z270 b_z270 => ?_)
        refine x_A k231_642 (fun _ => rfl) ?_
        refine x_A k231_643 (fun _ => rfl) ?_
        refine x_A k231_644 (fun _ => rfl) ?_
        refine x_iadd k231_645 ?_
        refine x_top (fun z271 e_z271 => ?_)
        refine x_scr k231_646 hN ⟨by omega, by omega⟩ (fun z272 g_z272 e_z272 => ?_)
        unfold in32 at g_z272
        refine x_i2l k231_647 (by first | exact x_rbe e_z272 g_z272 rfl rfl | exact x_rb g_z272 rfl rfl | exact ⟨by omega, by omega⟩) ?_
        refine x_ldc2 k231_648 (z := 4294967295) rfl (by decide +kernel) ?_
        refine x_land_mask k231_651 ⟨by omega, by omega⟩ (fun z273 g_z273 => ?_)
        refine x_lor_any k231_652 (fun z274 b_z274 => ?_)
        refine x_callV k231_653 (y := 104) (n := 2) (w0 := 0) (w1 := 3) (as := [vi z267, vj z274]) (rest := []) (by decide +kernel) (q := 0) (nq := 12) (kq := 3) ⟨by decide, rfl⟩ rfl rfl rfl rfl (xe_mono (C_X10_feed_0 s hG z267 (by first | exact x_rbe e_z267 g_z267 rfl rfl | exact x_rb g_z267 rfl rfl | exact ⟨by omega, by omega⟩) z274 b_z274) ?_)
        rintro s276 v ⟨hG_s276, t_s276, z275, rfl, g_z275⟩
        have q277 : s276 46 3 = x1000 := (t_s276 46 3 (show 452 ∉ [1218, 1280] from by decide +kernel)).trans e_x1000.symm
        have q278 : s276 256 6 = x1001 := (t_s276 256 6 (show 4103 ∉ [1218, 1280] from by decide +kernel)).trans e_x1001.symm
        have J_s276 : J s276 := J.fl i_J t_s276 (by decide +kernel)
        have T0_s276 : T0 s276 := T0.fl i_T0 t_s276 (by decide +kernel)
        have G1_s276 : G1 s276 := G1.fl i_G1 t_s276 (by decide +kernel)
        show xe (some (N, xs)) 231 656 [(0, .ref 2000), (1, .ref 0), (2, .ref 256), (3, vi x3)] [vi z275] s276 295 10442 _
        refine x_A k231_656 (fun _ => rfl) ?_
        refine x_A k231_657 (fun _ => rfl) ?_
        refine x_A k231_658 (fun _ => rfl) ?_
        refine x_A k231_659 (fun _ => rfl) ?_
        refine x_A k231_660 (fun _ => rfl) ?_
        refine x_iadd k231_661 ?_
        refine x_top (fun z279 e_z279 => ?_)
        refine x_scr k231_662 hN ⟨by omega, by omega⟩ (fun z280 g_z280 e_z280 => ?_)
        unfold in32 at g_z280
        have q_z280 : z280 = z267 := by rw [e_z280, e_z267, show z279 = z266 by omega]
        refine x_A k231_663 (fun _ => rfl) ?_
        refine x_A k231_664 (fun _ => rfl) ?_
        refine x_A k231_665 (fun _ => rfl) ?_
        refine x_iadd k231_666 ?_
        refine x_top (fun z281 e_z281 => ?_)
        refine x_scr k231_667 hN ⟨by omega, by omega⟩ (fun z282 g_z282 e_z282 => ?_)
        unfold in32 at g_z282
        have q_z282 : z282 = z269 := by rw [e_z282, e_z269, show z281 = z268 by omega]
        refine x_i2l k231_668 (by first | exact x_rbe e_z282 g_z282 rfl rfl | exact x_rb g_z282 rfl rfl | exact ⟨by omega, by omega⟩) ?_
        refine x_bipush k231_669 (by decide +kernel) ?_
        refine x_lshl_any k231_671 (fun z283 b_z283 => ?_)
        refine x_A k231_672 (fun _ => rfl) ?_
        refine x_A k231_673 (fun _ => rfl) ?_
        refine x_A k231_674 (fun _ => rfl) ?_
        refine x_iadd k231_675 ?_
        refine x_top (fun z284 e_z284 => ?_)
        refine x_scr k231_676 hN ⟨by omega, by omega⟩ (fun z285 g_z285 e_z285 => ?_)
        unfold in32 at g_z285
        have q_z285 : z285 = z272 := by rw [e_z285, e_z272, show z284 = z271 by omega]
        refine x_i2l k231_677 (by first | exact x_rbe e_z285 g_z285 rfl rfl | exact x_rb g_z285 rfl rfl | exact ⟨by omega, by omega⟩) ?_
        refine x_ldc2 k231_678 (z := 4294967295) rfl (by decide +kernel) ?_
        refine x_land_mask k231_681 ⟨by omega, by omega⟩ (fun z286 g_z286 => ?_)
        refine x_lor_any k231_682 (fun z287 b_z287 => ?_)
        refine x_callV k231_683 (y := 175) (n := 2) (w0 := 0) (w1 := 3) (as := [vi z280, vj z287]) (rest := []) (by decide +kernel) (q := 256) (nq := 62) (kq := 15) ⟨by decide, rfl⟩ rfl rfl rfl rfl (xe_mono (C_X11_feed_256 s276 hG_s276 z280 (by first | exact x_rbe e_z280 g_z280 rfl rfl | exact x_rb g_z280 rfl rfl | exact ⟨by omega, by omega⟩) z287 b_z287) ?_)
        rintro s289 v ⟨hG_s289, t_s289, z288, rfl, g_z288⟩
        have q290 : s289 46 3 = x1000 := (t_s289 46 3 (show 452 ∉ [4131, 5824] from by decide +kernel)).trans q277
        have q291 : s289 256 6 = x1001 := (t_s289 256 6 (show 4103 ∉ [4131, 5824] from by decide +kernel)).trans q278
        have J_s289 : J s289 := J.fl J_s276 t_s289 (by decide +kernel)
        have T0_s289 : T0 s289 := T0.fl T0_s276 t_s289 (by decide +kernel)
        have G1_s289 : G1 s289 := G1.fl G1_s276 t_s289 (by decide +kernel)
        show xe (some (N, xs)) 231 686 [(0, .ref 2000), (1, .ref 0), (2, .ref 256), (3, vi x3)] [vi z288] s289 295 10442 _
        refine x_A k231_686 (fun _ => rfl) ?_
        refine x_goto k231_687 (t := 1300) rfl ?_
        refine x_iinc k231_1300 (ls' := [(3, vi (x3 + 7)), (0, .ref 2000), (1, .ref 0), (2, .ref 256)]) rfl (by decide) rfl ?_
        refine x_goto k231_1303 (t := 18) rfl ?_
        refine x_ls (l := [(0, .ref 2000), (1, .ref 0), (2, .ref 256), (3, vi (x3 + 7))]) (show ([0, 1, 2, 3] : List Nat).Nodup from by decide +kernel) ⟨rfl, rfl, rfl, rfl, trivial⟩ ?_
        exact ih s289 (x3 + 7) x1000 x1001 hG_s289 trivial ⟨by omega, by omega⟩ (by first | exact x_rb b_x1000 rfl rfl | exact ⟨by omega, by omega⟩) (by first | exact x_rb b_x1001 rfl rfl | exact ⟨by omega, by omega⟩) (by omega) (q290).symm (q291).symm J_s289 T0_s289 G1_s289  (by omega)
      · rw [c5]
        refine x_B k231_33 rfl (fun _ => rfl) (fun _ => rfl) (fun _ _ => rfl) ?_
        show xe (some (N, xs)) 231 690 [(0, .ref 2000), (1, .ref 0), (2, .ref 256), (3, vi x3)] [] s 295 10442 _
        refine x_A k231_690 (fun _ => rfl) ?_
        refine x_A k231_691 (fun _ => rfl) ?_
        refine x_A k231_692 (fun _ => rfl) ?_
        refine x_A k231_693 (fun _ => rfl) ?_
        refine x_iadd k231_694 ?_
        refine x_top (fun z292 e_z292 => ?_)
        refine x_scr k231_695 hN ⟨by omega, by omega⟩ (fun z293 g_z293 e_z293 => ?_)
        unfold in32 at g_z293
        refine x_callV k231_696 (y := 105) (n := 1) (w0 := 0) (w1 := 1) (as := [vi z293]) (rest := []) (by decide +kernel) (q := 0) (nq := 12) (kq := 3) ⟨by decide, rfl⟩ rfl rfl rfl rfl (xe_mono (C_X10_rule_0 s hG z293 (by first | exact x_rbe e_z293 g_z293 rfl rfl | exact x_rb g_z293 rfl rfl | exact ⟨by omega, by omega⟩) i_J) ?_)
        rintro s295 v ⟨hG_s295, t_s295, z294, rfl, g_z294, J_s295⟩
        have q296 : s295 46 3 = x1000 := (t_s295 46 3 (show 452 ∉ [1219, 1220, 1221, 1222, 1223, 1600, 1728, 1856, 1408, 1472, 1350, 3276, 3277, 12, 1218] from by decide +kernel)).trans e_x1000.symm
        have q297 : s295 256 6 = x1001 := (t_s295 256 6 (show 4103 ∉ [1219, 1220, 1221, 1222, 1223, 1600, 1728, 1856, 1408, 1472, 1350, 3276, 3277, 12, 1218] from by decide +kernel)).trans e_x1001.symm
        have T0_s295 : T0 s295 := T0.fl i_T0 t_s295 (by decide +kernel)
        have G1_s295 : G1 s295 := G1.fl i_G1 t_s295 (by decide +kernel)
        show xe (some (N, xs)) 231 699 [(0, .ref 2000), (1, .ref 0), (2, .ref 256), (3, vi x3)] [vi z294] s295 295 10442 _
        refine x_A k231_699 (fun _ => rfl) ?_
        refine x_A k231_700 (fun _ => rfl) ?_
        refine x_A k231_701 (fun _ => rfl) ?_
        refine x_A k231_702 (fun _ => rfl) ?_
        refine x_A k231_703 (fun _ => rfl) ?_
        refine x_iadd k231_704 ?_
        refine x_top (fun z298 e_z298 => ?_)
        refine x_scr k231_705 hN ⟨by omega, by omega⟩ (fun z299 g_z299 e_z299 => ?_)
        unfold in32 at g_z299
        have q_z299 : z299 = z293 := by rw [e_z299, e_z293, show z298 = z292 by omega]
        obtain ⟨z300, e_z300⟩ : ∃ z, z = s295 256 20 := ⟨_, rfl⟩
        have g_z300 : (0 : Int) ≤ s295 256 20 ∧ s295 256 20 ≤ 64 := hG_s295 256 20
        obtain ⟨z301, e_z301⟩ : ∃ z, z = s295 256 17 := ⟨_, rfl⟩
        have g_z301 : (0 : Int) ≤ s295 256 17 ∧ s295 256 17 ≤ 8 := hG_s295 256 17
        refine x_callV k231_706 (y := 187) (n := 1) (w0 := 0) (w1 := 1) (as := [vi z299]) (rest := []) (by decide +kernel) (q := 256) (nq := 62) (kq := 15) ⟨by decide, rfl⟩ rfl rfl rfl rfl (xe_mono (C_X11_rule_256 s295 hG_s295 z299 (by first | exact x_rbe e_z299 g_z299 rfl rfl | exact x_rb g_z299 rfl rfl | exact ⟨by omega, by omega⟩) ⟨by omega, by omega⟩ ⟨by omega, by omega⟩ J_s295) ?_)
        rintro s303 v ⟨hG_s303, t_s303, z302, rfl, g_z302, J_s303⟩
        have q304 : s303 46 3 = x1000 := (t_s303 46 3 (show 452 ∉ [4133, 4136, 4132, 4134, 4135, 5120, 5184, 5248, 4131, 4992, 5056, 4117, 4114] from by decide +kernel)).trans q296
        have q305 : s303 256 6 = x1001 := (t_s303 256 6 (show 4103 ∉ [4133, 4136, 4132, 4134, 4135, 5120, 5184, 5248, 4131, 4992, 5056, 4117, 4114] from by decide +kernel)).trans q297
        have T0_s303 : T0 s303 := T0.fl T0_s295 t_s303 (by decide +kernel)
        have G1_s303 : G1 s303 := G1.fl G1_s295 t_s303 (by decide +kernel)
        show xe (some (N, xs)) 231 709 [(0, .ref 2000), (1, .ref 0), (2, .ref 256), (3, vi x3)] [vi z302] s303 295 10442 _
        refine x_A k231_709 (fun _ => rfl) ?_
        refine x_goto k231_710 (t := 1300) rfl ?_
        refine x_iinc k231_1300 (ls' := [(3, vi (x3 + 7)), (0, .ref 2000), (1, .ref 0), (2, .ref 256)]) rfl (by decide) rfl ?_
        refine x_goto k231_1303 (t := 18) rfl ?_
        refine x_ls (l := [(0, .ref 2000), (1, .ref 0), (2, .ref 256), (3, vi (x3 + 7))]) (show ([0, 1, 2, 3] : List Nat).Nodup from by decide +kernel) ⟨rfl, rfl, rfl, rfl, trivial⟩ ?_
        exact ih s303 (x3 + 7) x1000 x1001 hG_s303 trivial ⟨by omega, by omega⟩ (by first | exact x_rb b_x1000 rfl rfl | exact ⟨by omega, by omega⟩) (by first | exact x_rb b_x1001 rfl rfl | exact ⟨by omega, by omega⟩) (by omega) (q304).symm (q305).symm J_s303 T0_s303 G1_s303  (by omega)
      · rw [c5]
        refine x_B k231_33 rfl (fun _ => rfl) (fun _ => rfl) (fun _ _ => rfl) ?_
        show xe (some (N, xs)) 231 713 [(0, .ref 2000), (1, .ref 0), (2, .ref 256), (3, vi x3)] [] s 295 10442 _
        refine x_A k231_713 (fun _ => rfl) ?_
        refine x_callV k231_714 (y := 106) (n := 0) (w0 := 0) (w1 := 0) (as := []) (rest := []) (by decide +kernel) (q := 0) (nq := 12) (kq := 3) ⟨by decide, rfl⟩ rfl rfl rfl rfl (xe_mono (C_X10_fault_0 s hG) ?_)
        rintro s307 v ⟨-, t_s307, z306, rfl, g_z306⟩
        rw [t_s307.nil]
        show xe (some (N, xs)) 231 717 [(0, .ref 2000), (1, .ref 0), (2, .ref 256), (3, vi x3)] [vi z306] s 295 10442 _
        refine x_A k231_717 (fun _ => rfl) ?_
        refine x_A k231_718 (fun _ => rfl) ?_
        refine x_callV k231_719 (y := 188) (n := 0) (w0 := 0) (w1 := 0) (as := []) (rest := []) (by decide +kernel) (q := 256) (nq := 62) (kq := 15) ⟨by decide, rfl⟩ rfl rfl rfl rfl (xe_mono (C_X11_fault_256 s hG) ?_)
        rintro s309 v ⟨-, t_s309, z308, rfl, g_z308⟩
        rw [t_s309.nil]
        show xe (some (N, xs)) 231 722 [(0, .ref 2000), (1, .ref 0), (2, .ref 256), (3, vi x3)] [vi z308] s 295 10442 _
        refine x_A k231_722 (fun _ => rfl) ?_
        refine x_goto k231_723 (t := 1300) rfl ?_
        refine x_iinc k231_1300 (ls' := [(3, vi (x3 + 7)), (0, .ref 2000), (1, .ref 0), (2, .ref 256)]) rfl (by decide) rfl ?_
        refine x_goto k231_1303 (t := 18) rfl ?_
        refine x_ls (l := [(0, .ref 2000), (1, .ref 0), (2, .ref 256), (3, vi (x3 + 7))]) (show ([0, 1, 2, 3] : List Nat).Nodup from by decide +kernel) ⟨rfl, rfl, rfl, rfl, trivial⟩ ?_
        exact ih s (x3 + 7) x1000 x1001 hG f ⟨by omega, by omega⟩ (by first | exact x_rb b_x1000 rfl rfl | exact ⟨by omega, by omega⟩) (by first | exact x_rb b_x1001 rfl rfl | exact ⟨by omega, by omega⟩) (by omega) (e_x1000.symm).symm (e_x1001.symm).symm i_J i_T0 i_G1  (by omega)
      · rw [c5]
        refine x_B k231_33 rfl (fun _ => rfl) (fun _ => rfl) (fun _ _ => rfl) ?_
        show xe (some (N, xs)) 231 726 [(0, .ref 2000), (1, .ref 0), (2, .ref 256), (3, vi x3)] [] s 295 10442 _
        refine x_A k231_726 (fun _ => rfl) ?_
        refine x_A k231_727 (fun _ => rfl) ?_
        refine x_A k231_728 (fun _ => rfl) ?_
        refine x_A k231_729 (fun _ => rfl) ?_
        refine x_iadd k231_730 ?_
        refine x_top (fun z310 e_z310 => ?_)
        refine x_scr k231_731 hN ⟨by omega, by omega⟩ (fun z311 g_z311 e_z311 => ?_)
        unfold in32 at g_z311
        refine x_A k231_732 (fun _ => rfl) ?_
        refine x_A k231_733 (fun _ => rfl) ?_
        refine x_A k231_734 (fun _ => rfl) ?_
        refine x_iadd k231_735 ?_
        refine x_top (fun z312 e_z312 => ?_)
        refine x_scr k231_736 hN ⟨by omega, by omega⟩ (fun z313 g_z313 e_z313 => ?_)
        unfold in32 at g_z313
        refine x_callV k231_737 (y := 107) (n := 2) (w0 := 0) (w1 := 2) (as := [vi z311, vi z313]) (rest := []) (by decide +kernel) (q := 0) (nq := 12) (kq := 3) ⟨by decide, rfl⟩ rfl rfl rfl rfl (xe_mono (C_X10_force_0 s hG i_J z311 (by first | exact x_rbe e_z311 g_z311 rfl rfl | exact x_rb g_z311 rfl rfl | exact ⟨by omega, by omega⟩) z313 (by first | exact x_rbe e_z313 g_z313 rfl rfl | exact x_rb g_z313 rfl rfl | exact ⟨by omega, by omega⟩)) ?_)
        rintro s315 v ⟨hG_s315, t_s315, z314, rfl, g_z314⟩
        have q316 : s315 46 3 = x1000 := (t_s315 46 3 (show 452 ∉ [1921, 1926, 1927, 1928, 1984, 2048, 2112, 2176] from by decide +kernel)).trans e_x1000.symm
        have q317 : s315 256 6 = x1001 := (t_s315 256 6 (show 4103 ∉ [1921, 1926, 1927, 1928, 1984, 2048, 2112, 2176] from by decide +kernel)).trans e_x1001.symm
        have J_s315 : J s315 := J.fl i_J t_s315 (by decide +kernel)
        have T0_s315 : T0 s315 := T0.fl i_T0 t_s315 (by decide +kernel)
        have G1_s315 : G1 s315 := G1.fl i_G1 t_s315 (by decide +kernel)
        show xe (some (N, xs)) 231 740 [(0, .ref 2000), (1, .ref 0), (2, .ref 256), (3, vi x3)] [vi z314] s315 295 10442 _
        refine x_A k231_740 (fun _ => rfl) ?_
        refine x_A k231_741 (fun _ => rfl) ?_
        refine x_A k231_742 (fun _ => rfl) ?_
        refine x_A k231_743 (fun _ => rfl) ?_
        refine x_A k231_744 (fun _ => rfl) ?_
        refine x_iadd k231_745 ?_
        refine x_top (fun z318 e_z318 => ?_)
        refine x_scr k231_746 hN ⟨by omega, by omega⟩ (fun z319 g_z319 e_z319 => ?_)
        unfold in32 at g_z319
        have q_z319 : z319 = z311 := by rw [e_z319, e_z311, show z318 = z310 by omega]
        refine x_A k231_747 (fun _ => rfl) ?_
        refine x_A k231_748 (fun _ => rfl) ?_
        refine x_A k231_749 (fun _ => rfl) ?_
        refine x_iadd k231_750 ?_
        refine x_top (fun z320 e_z320 => ?_)
        refine x_scr k231_751 hN ⟨by omega, by omega⟩ (fun z321 g_z321 e_z321 => ?_)
        unfold in32 at g_z321
        have q_z321 : z321 = z313 := by rw [e_z321, e_z313, show z320 = z312 by omega]
        refine x_callV k231_752 (y := 189) (n := 2) (w0 := 0) (w1 := 2) (as := [vi z319, vi z321]) (rest := []) (by decide +kernel) (q := 256) (nq := 62) (kq := 15) ⟨by decide, rfl⟩ rfl rfl rfl rfl (xe_mono (C_X11_force_256 s315 hG_s315 J_s315 z319 (by first | exact x_rbe e_z319 g_z319 rfl rfl | exact x_rb g_z319 rfl rfl | exact ⟨by omega, by omega⟩) z321 (by first | exact x_rbe e_z321 g_z321 rfl rfl | exact x_rb g_z321 rfl rfl | exact ⟨by omega, by omega⟩)) ?_)
        rintro s323 v ⟨hG_s323, t_s323, z322, rfl, g_z322⟩
        have q324 : s323 46 3 = x1000 := (t_s323 46 3 (show 452 ∉ [5312, 5376, 4123] from by decide +kernel)).trans q316
        have q325 : s323 256 6 = x1001 := (t_s323 256 6 (show 4103 ∉ [5312, 5376, 4123] from by decide +kernel)).trans q317
        have J_s323 : J s323 := J.fl J_s315 t_s323 (by decide +kernel)
        have T0_s323 : T0 s323 := T0.fl T0_s315 t_s323 (by decide +kernel)
        have G1_s323 : G1 s323 := G1.fl G1_s315 t_s323 (by decide +kernel)
        show xe (some (N, xs)) 231 755 [(0, .ref 2000), (1, .ref 0), (2, .ref 256), (3, vi x3)] [vi z322] s323 295 10442 _
        refine x_A k231_755 (fun _ => rfl) ?_
        refine x_goto k231_756 (t := 1300) rfl ?_
        refine x_iinc k231_1300 (ls' := [(3, vi (x3 + 7)), (0, .ref 2000), (1, .ref 0), (2, .ref 256)]) rfl (by decide) rfl ?_
        refine x_goto k231_1303 (t := 18) rfl ?_
        refine x_ls (l := [(0, .ref 2000), (1, .ref 0), (2, .ref 256), (3, vi (x3 + 7))]) (show ([0, 1, 2, 3] : List Nat).Nodup from by decide +kernel) ⟨rfl, rfl, rfl, rfl, trivial⟩ ?_
        exact ih s323 (x3 + 7) x1000 x1001 hG_s323 trivial ⟨by omega, by omega⟩ (by first | exact x_rb b_x1000 rfl rfl | exact ⟨by omega, by omega⟩) (by first | exact x_rb b_x1001 rfl rfl | exact ⟨by omega, by omega⟩) (by omega) (q324).symm (q325).symm J_s323 T0_s323 G1_s323  (by omega)
      · rw [c5]
        refine x_B k231_33 rfl (fun _ => rfl) (fun _ => rfl) (fun _ _ => rfl) ?_
        show xe (some (N, xs)) 231 759 [(0, .ref 2000), (1, .ref 0), (2, .ref 256), (3, vi x3)] [] s 295 10442 _
        refine x_A k231_759 (fun _ => rfl) ?_
        refine x_A k231_760 (fun _ => rfl) ?_
        refine x_A k231_761 (fun _ => rfl) ?_
        refine x_A k231_762 (fun _ => rfl) ?_
        refine x_iadd k231_763 ?_
        refine x_top (fun z326 e_z326 => ?_)
        refine x_scr k231_764 hN ⟨by omega, by omega⟩ (fun z327 g_z327 e_z327 => ?_)
        unfold in32 at g_z327
        refine x_A k231_765 (fun _ => rfl) ?_
        refine x_A k231_766 (fun _ => rfl) ?_
        refine x_A k231_767 (fun _ => rfl) ?_
        refine x_iadd k231_768 ?_
        refine x_top (fun z328 e_z328 => ?_)
        refine x_scr k231_769 hN ⟨by omega, by omega⟩ (fun z329 g_z329 e_z329 => ?_)
        unfold in32 at g_z329
        refine x_A k231_770 (fun _ => rfl) ?_
        refine x_A k231_771 (fun _ => rfl) ?_
        refine x_A k231_772 (fun _ => rfl) ?_
        refine x_iadd k231_773 ?_
        refine x_top (fun z330 e_z330 => ?_)
        refine x_scr k231_774 hN ⟨by omega, by omega⟩ (fun z331 g_z331 e_z331 => ?_)
        unfold in32 at g_z331
        refine x_callV k231_775 (y := 108) (n := 3) (w0 := 0) (w1 := 3) (as := [vi z327, vi z329, vi z331]) (rest := []) (by decide +kernel) (q := 0) (nq := 12) (kq := 3) ⟨by decide, rfl⟩ rfl rfl rfl rfl (xe_mono (C_X10_word_0 s hG z327 (by first | exact x_rbe e_z327 g_z327 rfl rfl | exact x_rb g_z327 rfl rfl | exact ⟨by omega, by omega⟩) z329 (by first | exact x_rbe e_z329 g_z329 rfl rfl | exact x_rb g_z329 rfl rfl | exact ⟨by omega, by omega⟩) z331 (by first | exact x_rbe e_z331 g_z331 rfl rfl | exact x_rb g_z331 rfl rfl | exact ⟨by omega, by omega⟩)) ?_)
        rintro s333 v ⟨hG_s333, t_s333, z332, rfl, g_z332⟩
        have q334 : s333 46 3 = x1000 := (t_s333 46 3 (show 452 ∉ [2244, 2304, 2368, 2432] from by decide +kernel)).trans e_x1000.symm
        have q335 : s333 256 6 = x1001 := (t_s333 256 6 (show 4103 ∉ [2244, 2304, 2368, 2432] from by decide +kernel)).trans e_x1001.symm
        have J_s333 : J s333 := J.fl i_J t_s333 (by decide +kernel)
        have T0_s333 : T0 s333 := T0.fl i_T0 t_s333 (by decide +kernel)
        have G1_s333 : G1 s333 := G1.fl i_G1 t_s333 (by decide +kernel)
        show xe (some (N, xs)) 231 778 [(0, .ref 2000), (1, .ref 0), (2, .ref 256), (3, vi x3)] [vi z332] s333 295 10442 _
        refine x_A k231_778 (fun _ => rfl) ?_
        refine x_A k231_779 (fun _ => rfl) ?_
        refine x_A k231_780 (fun _ => rfl) ?_
        refine x_A k231_781 (fun _ => rfl) ?_
        refine x_A k231_782 (fun _ => rfl) ?_
        refine x_iadd k231_783 ?_
        refine x_top (fun z336 e_z336 => ?_)
        refine x_scr k231_784 hN ⟨by omega, by omega⟩ (fun z337 g_z337 e_z337 => ?_)
        unfold in32 at g_z337
        have q_z337 : z337 = z327 := by rw [e_z337, e_z327, show z336 = z326 by omega]
        refine x_A k231_785 (fun _ => rfl) ?_
        refine x_A k231_786 (fun _ => rfl) ?_
        refine x_A k231_787 (fun _ => rfl) ?_
        refine x_iadd k231_788 ?_
        refine x_top (fun z338 e_z338 => ?_)
        refine x_scr k231_789 hN ⟨by omega, by omega⟩ (fun z339 g_z339 e_z339 => ?_)
        unfold in32 at g_z339
        have q_z339 : z339 = z329 := by rw [e_z339, e_z329, show z338 = z328 by omega]
        refine x_A k231_790 (fun _ => rfl) ?_
        refine x_A k231_791 (fun _ => rfl) ?_
        refine x_A k231_792 (fun _ => rfl) ?_
        refine x_iadd k231_793 ?_
        refine x_top (fun z340 e_z340 => ?_)
        refine x_scr k231_794 hN ⟨by omega, by omega⟩ (fun z341 g_z341 e_z341 => ?_)
        unfold in32 at g_z341
        have q_z341 : z341 = z331 := by rw [e_z341, e_z331, show z340 = z330 by omega]
        refine x_callV k231_795 (y := 192) (n := 3) (w0 := 0) (w1 := 3) (as := [vi z337, vi z339, vi z341]) (rest := []) (by decide +kernel) (q := 256) (nq := 62) (kq := 15) ⟨by decide, rfl⟩ rfl rfl rfl rfl (xe_mono (C_X11_word_256 s333 hG_s333 z337 (by first | exact x_rbe e_z337 g_z337 rfl rfl | exact x_rb g_z337 rfl rfl | exact ⟨by omega, by omega⟩) z339 (by first | exact x_rbe e_z339 g_z339 rfl rfl | exact x_rb g_z339 rfl rfl | exact ⟨by omega, by omega⟩) z341 (by first | exact x_rbe e_z341 g_z341 rfl rfl | exact x_rb g_z341 rfl rfl | exact ⟨by omega, by omega⟩)) ?_)
        rintro s343 v ⟨hG_s343, t_s343, z342, rfl, g_z342⟩
        have q344 : s343 46 3 = x1000 := (t_s343 46 3 (show 452 ∉ [4137, 5888, 5952] from by decide +kernel)).trans q334
        have q345 : s343 256 6 = x1001 := (t_s343 256 6 (show 4103 ∉ [4137, 5888, 5952] from by decide +kernel)).trans q335
        have J_s343 : J s343 := J.fl J_s333 t_s343 (by decide +kernel)
        have T0_s343 : T0 s343 := T0.fl T0_s333 t_s343 (by decide +kernel)
        have G1_s343 : G1 s343 := G1.fl G1_s333 t_s343 (by decide +kernel)
        show xe (some (N, xs)) 231 798 [(0, .ref 2000), (1, .ref 0), (2, .ref 256), (3, vi x3)] [vi z342] s343 295 10442 _
        refine x_A k231_798 (fun _ => rfl) ?_
        refine x_goto k231_799 (t := 1300) rfl ?_
        refine x_iinc k231_1300 (ls' := [(3, vi (x3 + 7)), (0, .ref 2000), (1, .ref 0), (2, .ref 256)]) rfl (by decide) rfl ?_
        refine x_goto k231_1303 (t := 18) rfl ?_
        refine x_ls (l := [(0, .ref 2000), (1, .ref 0), (2, .ref 256), (3, vi (x3 + 7))]) (show ([0, 1, 2, 3] : List Nat).Nodup from by decide +kernel) ⟨rfl, rfl, rfl, rfl, trivial⟩ ?_
        exact ih s343 (x3 + 7) x1000 x1001 hG_s343 trivial ⟨by omega, by omega⟩ (by first | exact x_rb b_x1000 rfl rfl | exact ⟨by omega, by omega⟩) (by first | exact x_rb b_x1001 rfl rfl | exact ⟨by omega, by omega⟩) (by omega) (q344).symm (q345).symm J_s343 T0_s343 G1_s343  (by omega)
      · rw [c5]
        refine x_B k231_33 rfl (fun _ => rfl) (fun _ => rfl) (fun _ _ => rfl) ?_
        show xe (some (N, xs)) 231 802 [(0, .ref 2000), (1, .ref 0), (2, .ref 256), (3, vi x3)] [] s 295 10442 _
        refine x_A k231_802 (fun _ => rfl) ?_
        refine x_A k231_803 (fun _ => rfl) ?_
        refine x_A k231_804 (fun _ => rfl) ?_
        refine x_A k231_805 (fun _ => rfl) ?_
        refine x_iadd k231_806 ?_
        refine x_top (fun z346 e_z346 => ?_)
        refine x_scr k231_807 hN ⟨by omega, by omega⟩ (fun z347 g_z347 e_z347 => ?_)
        unfold in32 at g_z347
        refine x_A k231_808 (fun _ => rfl) ?_
        refine x_A k231_809 (fun _ => rfl) ?_
        refine x_A k231_810 (fun _ => rfl) ?_
        refine x_iadd k231_811 ?_
        refine x_top (fun z348 e_z348 => ?_)
        refine x_scr k231_812 hN ⟨by omega, by omega⟩ (fun z349 g_z349 e_z349 => ?_)
        unfold in32 at g_z349
        refine x_callV k231_813 (y := 109) (n := 2) (w0 := 0) (w1 := 2) (as := [vi z347, vi z349]) (rest := []) (by decide +kernel) (q := 0) (nq := 12) (kq := 3) ⟨by decide, rfl⟩ rfl rfl rfl rfl (xe_mono (C_X10_leads_0 s hG z347 (by first | exact x_rbe e_z347 g_z347 rfl rfl | exact x_rb g_z347 rfl rfl | exact ⟨by omega, by omega⟩) z349 (by first | exact x_rbe e_z349 g_z349 rfl rfl | exact x_rb g_z349 rfl rfl | exact ⟨by omega, by omega⟩)) ?_)
        rintro s351 v ⟨-, t_s351, z350, rfl, g_z350⟩
        rw [t_s351.nil]
        show xe (some (N, xs)) 231 816 [(0, .ref 2000), (1, .ref 0), (2, .ref 256), (3, vi x3)] [vi z350] s 295 10442 _
        refine x_A k231_816 (fun _ => rfl) ?_
        refine x_A k231_817 (fun _ => rfl) ?_
        refine x_A k231_818 (fun _ => rfl) ?_
        refine x_A k231_819 (fun _ => rfl) ?_
        refine x_A k231_820 (fun _ => rfl) ?_
        refine x_iadd k231_821 ?_
        refine x_top (fun z352 e_z352 => ?_)
        refine x_scr k231_822 hN ⟨by omega, by omega⟩ (fun z353 g_z353 e_z353 => ?_)
        unfold in32 at g_z353
        have q_z353 : z353 = z347 := by rw [e_z353, e_z347, show z352 = z346 by omega]
        refine x_A k231_823 (fun _ => rfl) ?_
        refine x_A k231_824 (fun _ => rfl) ?_
        refine x_A k231_825 (fun _ => rfl) ?_
        refine x_iadd k231_826 ?_
        refine x_top (fun z354 e_z354 => ?_)
        refine x_scr k231_827 hN ⟨by omega, by omega⟩ (fun z355 g_z355 e_z355 => ?_)
        unfold in32 at g_z355
        have q_z355 : z355 = z349 := by rw [e_z355, e_z349, show z354 = z348 by omega]
        refine x_callV k231_828 (y := 193) (n := 2) (w0 := 0) (w1 := 2) (as := [vi z353, vi z355]) (rest := []) (by decide +kernel) (q := 256) (nq := 62) (kq := 15) ⟨by decide, rfl⟩ rfl rfl rfl rfl (xe_mono (C_X11_leads_256 s hG z353 (by first | exact x_rbe e_z353 g_z353 rfl rfl | exact x_rb g_z353 rfl rfl | exact ⟨by omega, by omega⟩) z355 (by first | exact x_rbe e_z355 g_z355 rfl rfl | exact x_rb g_z355 rfl rfl | exact ⟨by omega, by omega⟩)) ?_)
        rintro s357 v ⟨-, t_s357, z356, rfl, g_z356⟩
        rw [t_s357.nil]
        show xe (some (N, xs)) 231 831 [(0, .ref 2000), (1, .ref 0), (2, .ref 256), (3, vi x3)] [vi z356] s 295 10442 _
        refine x_A k231_831 (fun _ => rfl) ?_
        refine x_goto k231_832 (t := 1300) rfl ?_
        refine x_iinc k231_1300 (ls' := [(3, vi (x3 + 7)), (0, .ref 2000), (1, .ref 0), (2, .ref 256)]) rfl (by decide) rfl ?_
        refine x_goto k231_1303 (t := 18) rfl ?_
        refine x_ls (l := [(0, .ref 2000), (1, .ref 0), (2, .ref 256), (3, vi (x3 + 7))]) (show ([0, 1, 2, 3] : List Nat).Nodup from by decide +kernel) ⟨rfl, rfl, rfl, rfl, trivial⟩ ?_
        exact ih s (x3 + 7) x1000 x1001 hG f ⟨by omega, by omega⟩ (by first | exact x_rb b_x1000 rfl rfl | exact ⟨by omega, by omega⟩) (by first | exact x_rb b_x1001 rfl rfl | exact ⟨by omega, by omega⟩) (by omega) (e_x1000.symm).symm (e_x1001.symm).symm i_J i_T0 i_G1  (by omega)
      · rw [c5]
        refine x_B k231_33 rfl (fun _ => rfl) (fun _ => rfl) (fun _ _ => rfl) ?_
        show xe (some (N, xs)) 231 835 [(0, .ref 2000), (1, .ref 0), (2, .ref 256), (3, vi x3)] [] s 295 10442 _
        refine x_A k231_835 (fun _ => rfl) ?_
        refine x_callV k231_836 (y := 110) (n := 0) (w0 := 0) (w1 := 0) (as := []) (rest := []) (by decide +kernel) (q := 0) (nq := 12) (kq := 3) ⟨by decide, rfl⟩ rfl rfl rfl rfl (xe_mono (C_X10_ask_0 s hG) ?_)
        rintro s359 v ⟨hG_s359, t_s359, z358, rfl, g_z358⟩
        have q360 : s359 46 3 = x1000 := (t_s359 46 3 (show 452 ∉ [2501, 2502, 2560, 2688, 2816, 1219, 1220, 1221, 1222, 1223, 2503, 12, 1218] from by decide +kernel)).trans e_x1000.symm
        have q361 : s359 256 6 = x1001 := (t_s359 256 6 (show 4103 ∉ [2501, 2502, 2560, 2688, 2816, 1219, 1220, 1221, 1222, 1223, 2503, 12, 1218] from by decide +kernel)).trans e_x1001.symm
        have J_s359 : J s359 := J.fl i_J t_s359 (by decide +kernel)
        have T0_s359 : T0 s359 := T0.fl i_T0 t_s359 (by decide +kernel)
        have G1_s359 : G1 s359 := G1.fl i_G1 t_s359 (by decide +kernel)
        show xe (some (N, xs)) 231 839 [(0, .ref 2000), (1, .ref 0), (2, .ref 256), (3, vi x3)] [vi z358] s359 295 10442 _
        refine x_A k231_839 (fun _ => rfl) ?_
        refine x_A k231_840 (fun _ => rfl) ?_
        obtain ⟨z362, e_z362⟩ : ∃ z, z = s359 256 47 := ⟨_, rfl⟩
        have g_z362 : (0 : Int) ≤ s359 256 47 ∧ s359 256 47 ≤ 110 := hG_s359 256 47
        obtain ⟨z363, e_z363⟩ : ∃ z, z = s359 256 48 := ⟨_, rfl⟩
        have g_z363 : (0 : Int) ≤ s359 256 48 ∧ s359 256 48 ≤ 120 := hG_s359 256 48
        obtain ⟨z364, e_z364⟩ : ∃ z, z = s359 256 36 := ⟨_, rfl⟩
        have g_z364 : (0 : Int) ≤ s359 256 36 ∧ s359 256 36 ≤ 160 := hG_s359 256 36
        obtain ⟨z365, e_z365⟩ : ∃ z, z = s359 256 34 := ⟨_, rfl⟩
        have g_z365 : (0 : Int) ≤ s359 256 34 ∧ s359 256 34 ≤ 160 := hG_s359 256 34
        obtain ⟨z366, e_z366⟩ : ∃ z, z = s359 256 43 := ⟨_, rfl⟩
        have g_z366 : (0 : Int) ≤ s359 256 43 ∧ s359 256 43 ≤ 8 := hG_s359 256 43
        obtain ⟨z367, e_z367⟩ : ∃ z, z = s359 256 50 := ⟨_, rfl⟩
        have g_z367 : (0 : Int) ≤ s359 256 50 ∧ s359 256 50 ≤ 5 := hG_s359 256 50
        obtain ⟨z368, e_z368⟩ : ∃ z, z = s359 256 51 := ⟨_, rfl⟩
        have g_z368 : (0 : Int) ≤ s359 256 51 ∧ s359 256 51 ≤ 1 := hG_s359 256 51
        refine x_callV k231_841 (y := 200) (n := 0) (w0 := 0) (w1 := 0) (as := []) (rest := []) (by decide +kernel) (q := 256) (nq := 62) (kq := 15) ⟨by decide, rfl⟩ rfl rfl rfl rfl (xe_mono (C_X11_ask_256 s359 hG_s359 ⟨by omega, by omega⟩ ⟨by omega, by omega⟩ ⟨by omega, by omega⟩ ⟨by omega, by omega⟩ ⟨by omega, by omega⟩ ⟨by omega, by omega⟩ ⟨by omega, by omega⟩ J_s359) ?_)
        rintro s370 v ⟨hG_s370, t_s370, z369, rfl, g_z369, J_s370⟩
        have q371 : s370 46 3 = x1000 := (t_s370 46 3 (show 452 ∉ [4133, 4136, 4132, 4134, 4135, 6080, 6144, 4144, 4145, 4148, 4147, 6208, 4131, 6016, 4140] from by decide +kernel)).trans q360
        have q372 : s370 256 6 = x1001 := (t_s370 256 6 (show 4103 ∉ [4133, 4136, 4132, 4134, 4135, 6080, 6144, 4144, 4145, 4148, 4147, 6208, 4131, 6016, 4140] from by decide +kernel)).trans q361
        have T0_s370 : T0 s370 := T0.fl T0_s359 t_s370 (by decide +kernel)
        have G1_s370 : G1 s370 := G1.fl G1_s359 t_s370 (by decide +kernel)
        show xe (some (N, xs)) 231 844 [(0, .ref 2000), (1, .ref 0), (2, .ref 256), (3, vi x3)] [vi z369] s370 295 10442 _
        refine x_A k231_844 (fun _ => rfl) ?_
        refine x_goto k231_845 (t := 1300) rfl ?_
        refine x_iinc k231_1300 (ls' := [(3, vi (x3 + 7)), (0, .ref 2000), (1, .ref 0), (2, .ref 256)]) rfl (by decide) rfl ?_
        refine x_goto k231_1303 (t := 18) rfl ?_
        refine x_ls (l := [(0, .ref 2000), (1, .ref 0), (2, .ref 256), (3, vi (x3 + 7))]) (show ([0, 1, 2, 3] : List Nat).Nodup from by decide +kernel) ⟨rfl, rfl, rfl, rfl, trivial⟩ ?_
        exact ih s370 (x3 + 7) x1000 x1001 hG_s370 trivial ⟨by omega, by omega⟩ (by first | exact x_rb b_x1000 rfl rfl | exact ⟨by omega, by omega⟩) (by first | exact x_rb b_x1001 rfl rfl | exact ⟨by omega, by omega⟩) (by omega) (q371).symm (q372).symm J_s370 T0_s370 G1_s370  (by omega)
      · rw [c5]
        refine x_B k231_33 rfl (fun _ => rfl) (fun _ => rfl) (fun _ _ => rfl) ?_
        show xe (some (N, xs)) 231 848 [(0, .ref 2000), (1, .ref 0), (2, .ref 256), (3, vi x3)] [] s 295 10442 _
        refine x_A k231_848 (fun _ => rfl) ?_
        refine x_A k231_849 (fun _ => rfl) ?_
        refine x_A k231_850 (fun _ => rfl) ?_
        refine x_A k231_851 (fun _ => rfl) ?_
        refine x_iadd k231_852 ?_
        refine x_top (fun z373 e_z373 => ?_)
        refine x_scr k231_853 hN ⟨by omega, by omega⟩ (fun z374 g_z374 e_z374 => ?_)
        unfold in32 at g_z374
        refine x_A k231_854 (fun _ => rfl) ?_
        refine x_A k231_855 (fun _ => rfl) ?_
        refine x_A k231_856 (fun _ => rfl) ?_
        refine x_iadd k231_857 ?_
        refine x_top (fun z375 e_z375 => ?_)
        refine x_scr k231_858 hN ⟨by omega, by omega⟩ (fun z376 g_z376 e_z376 => ?_)
        unfold in32 at g_z376
        refine x_A k231_859 (fun _ => rfl) ?_
        refine x_A k231_860 (fun _ => rfl) ?_
        refine x_A k231_861 (fun _ => rfl) ?_
        refine x_iadd k231_862 ?_
        refine x_top (fun z377 e_z377 => ?_)
        refine x_scr k231_863 hN ⟨by omega, by omega⟩ (fun z378 g_z378 e_z378 => ?_)
        unfold in32 at g_z378
        refine x_callV k231_864 (y := 111) (n := 3) (w0 := 0) (w1 := 3) (as := [vi z374, vi z376, vi z378]) (rest := []) (by decide +kernel) (q := 0) (nq := 12) (kq := 3) ⟨by decide, rfl⟩ rfl rfl rfl rfl (xe_mono (C_X10_met_0 s hG i_J z374 (by first | exact x_rbe e_z374 g_z374 rfl rfl | exact x_rb g_z374 rfl rfl | exact ⟨by omega, by omega⟩) z376 (by first | exact x_rbe e_z376 g_z376 rfl rfl | exact x_rb g_z376 rfl rfl | exact ⟨by omega, by omega⟩) z378 (by first | exact x_rbe e_z378 g_z378 rfl rfl | exact x_rb g_z378 rfl rfl | exact ⟨by omega, by omega⟩)) ?_)
        rintro s380 v ⟨hG_s380, t_s380, z379, rfl, g_z379⟩
        have q381 : s380 46 3 = x1000 := (t_s380 46 3 (show 452 ∉ [3329, 3334, 3335, 3336, 3392, 3456, 3520, 3584, 3276, 3648, 3712, 3776, 3840, 3904, 3968, 3277, 4032, 2752] from by decide +kernel)).trans e_x1000.symm
        have q382 : s380 256 6 = x1001 := (t_s380 256 6 (show 4103 ∉ [3329, 3334, 3335, 3336, 3392, 3456, 3520, 3584, 3276, 3648, 3712, 3776, 3840, 3904, 3968, 3277, 4032, 2752] from by decide +kernel)).trans e_x1001.symm
        have J_s380 : J s380 := J.fl i_J t_s380 (by decide +kernel)
        have T0_s380 : T0 s380 := T0.fl i_T0 t_s380 (by decide +kernel)
        have G1_s380 : G1 s380 := G1.fl i_G1 t_s380 (by decide +kernel)
        show xe (some (N, xs)) 231 867 [(0, .ref 2000), (1, .ref 0), (2, .ref 256), (3, vi x3)] [vi z379] s380 295 10442 _
        refine x_A k231_867 (fun _ => rfl) ?_
        refine x_A k231_868 (fun _ => rfl) ?_
        refine x_A k231_869 (fun _ => rfl) ?_
        refine x_A k231_870 (fun _ => rfl) ?_
        refine x_A k231_871 (fun _ => rfl) ?_
        refine x_iadd k231_872 ?_
        refine x_top (fun z383 e_z383 => ?_)
        refine x_scr k231_873 hN ⟨by omega, by omega⟩ (fun z384 g_z384 e_z384 => ?_)
        unfold in32 at g_z384
        have q_z384 : z384 = z374 := by rw [e_z384, e_z374, show z383 = z373 by omega]
        refine x_A k231_874 (fun _ => rfl) ?_
        refine x_A k231_875 (fun _ => rfl) ?_
        refine x_A k231_876 (fun _ => rfl) ?_
        refine x_iadd k231_877 ?_
        refine x_top (fun z385 e_z385 => ?_)
        refine x_scr k231_878 hN ⟨by omega, by omega⟩ (fun z386 g_z386 e_z386 => ?_)
        unfold in32 at g_z386
        have q_z386 : z386 = z376 := by rw [e_z386, e_z376, show z385 = z375 by omega]
        refine x_A k231_879 (fun _ => rfl) ?_
        refine x_A k231_880 (fun _ => rfl) ?_
        refine x_A k231_881 (fun _ => rfl) ?_
        refine x_iadd k231_882 ?_
        refine x_top (fun z387 e_z387 => ?_)
        refine x_scr k231_883 hN ⟨by omega, by omega⟩ (fun z388 g_z388 e_z388 => ?_)
        unfold in32 at g_z388
        have q_z388 : z388 = z378 := by rw [e_z388, e_z378, show z387 = z377 by omega]
        refine x_callV k231_884 (y := 204) (n := 3) (w0 := 0) (w1 := 3) (as := [vi z384, vi z386, vi z388]) (rest := []) (by decide +kernel) (q := 256) (nq := 62) (kq := 15) ⟨by decide, rfl⟩ rfl rfl rfl rfl (xe_mono (C_X11_met_256 s380 hG_s380 J_s380 z384 (by first | exact x_rbe e_z384 g_z384 rfl rfl | exact x_rb g_z384 rfl rfl | exact ⟨by omega, by omega⟩) z386 (by first | exact x_rbe e_z386 g_z386 rfl rfl | exact x_rb g_z386 rfl rfl | exact ⟨by omega, by omega⟩) z388 (by first | exact x_rbe e_z388 g_z388 rfl rfl | exact x_rb g_z388 rfl rfl | exact ⟨by omega, by omega⟩)) ?_)
        rintro s390 v ⟨hG_s390, t_s390, z389, rfl, g_z389⟩
        have q391 : s390 46 3 = x1000 := (t_s390 46 3 (show 452 ∉ [5312, 5376, 4123, 5440, 5504, 5568, 5632, 5696, 5760, 6272] from by decide +kernel)).trans q381
        have q392 : s390 256 6 = x1001 := (t_s390 256 6 (show 4103 ∉ [5312, 5376, 4123, 5440, 5504, 5568, 5632, 5696, 5760, 6272] from by decide +kernel)).trans q382
        have J_s390 : J s390 := J.fl J_s380 t_s390 (by decide +kernel)
        have T0_s390 : T0 s390 := T0.fl T0_s380 t_s390 (by decide +kernel)
        have G1_s390 : G1 s390 := G1.fl G1_s380 t_s390 (by decide +kernel)
        show xe (some (N, xs)) 231 887 [(0, .ref 2000), (1, .ref 0), (2, .ref 256), (3, vi x3)] [vi z389] s390 295 10442 _
        refine x_A k231_887 (fun _ => rfl) ?_
        refine x_goto k231_888 (t := 1300) rfl ?_
        refine x_iinc k231_1300 (ls' := [(3, vi (x3 + 7)), (0, .ref 2000), (1, .ref 0), (2, .ref 256)]) rfl (by decide) rfl ?_
        refine x_goto k231_1303 (t := 18) rfl ?_
        refine x_ls (l := [(0, .ref 2000), (1, .ref 0), (2, .ref 256), (3, vi (x3 + 7))]) (show ([0, 1, 2, 3] : List Nat).Nodup from by decide +kernel) ⟨rfl, rfl, rfl, rfl, trivial⟩ ?_
        exact ih s390 (x3 + 7) x1000 x1001 hG_s390 trivial ⟨by omega, by omega⟩ (by first | exact x_rb b_x1000 rfl rfl | exact ⟨by omega, by omega⟩) (by first | exact x_rb b_x1001 rfl rfl | exact ⟨by omega, by omega⟩) (by omega) (q391).symm (q392).symm J_s390 T0_s390 G1_s390  (by omega)
      · rw [c5]
        refine x_B k231_33 rfl (fun _ => rfl) (fun _ => rfl) (fun _ _ => rfl) ?_
        show xe (some (N, xs)) 231 891 [(0, .ref 2000), (1, .ref 0), (2, .ref 256), (3, vi x3)] [] s 295 10442 _
        refine x_A k231_891 (fun _ => rfl) ?_
        refine x_A k231_892 (fun _ => rfl) ?_
        refine x_A k231_893 (fun _ => rfl) ?_
        refine x_A k231_894 (fun _ => rfl) ?_
        refine x_iadd k231_895 ?_
        refine x_top (fun z393 e_z393 => ?_)
        refine x_scr k231_896 hN ⟨by omega, by omega⟩ (fun z394 g_z394 e_z394 => ?_)
        unfold in32 at g_z394
        refine x_A k231_897 (fun _ => rfl) ?_
        refine x_A k231_898 (fun _ => rfl) ?_
        refine x_A k231_899 (fun _ => rfl) ?_
        refine x_iadd k231_900 ?_
        refine x_top (fun z395 e_z395 => ?_)
        refine x_scr k231_901 hN ⟨by omega, by omega⟩ (fun z396 g_z396 e_z396 => ?_)
        unfold in32 at g_z396
        refine x_A k231_902 (fun _ => rfl) ?_
        refine x_A k231_903 (fun _ => rfl) ?_
        refine x_A k231_904 (fun _ => rfl) ?_
        refine x_iadd k231_905 ?_
        refine x_top (fun z397 e_z397 => ?_)
        refine x_scr k231_906 hN ⟨by omega, by omega⟩ (fun z398 g_z398 e_z398 => ?_)
        unfold in32 at g_z398
        refine x_A k231_907 (fun _ => rfl) ?_
        refine x_A k231_908 (fun _ => rfl) ?_
        refine x_A k231_909 (fun _ => rfl) ?_
        refine x_iadd k231_910 ?_
        refine x_top (fun z399 e_z399 => ?_)
        refine x_scr k231_911 hN ⟨by omega, by omega⟩ (fun z400 g_z400 e_z400 => ?_)
        unfold in32 at g_z400
        refine x_A k231_912 (fun _ => rfl) ?_
        refine x_A k231_913 (fun _ => rfl) ?_
        refine x_A k231_914 (fun _ => rfl) ?_
        refine x_iadd k231_915 ?_
        refine x_top (fun z401 e_z401 => ?_)
        refine x_scr k231_916 hN ⟨by omega, by omega⟩ (fun z402 g_z402 e_z402 => ?_)
        unfold in32 at g_z402
        refine x_callV k231_917 (y := 112) (n := 5) (w0 := 0) (w1 := 5) (as := [vi z394, vi z396, vi z398, vi z400, vi z402]) (rest := []) (by decide +kernel) (q := 0) (nq := 12) (kq := 3) ⟨by decide, rfl⟩ rfl rfl rfl rfl (xe_mono (C_X10_hands_0 s hG i_J z394 (by first | exact x_rbe e_z394 g_z394 rfl rfl | exact x_rb g_z394 rfl rfl | exact ⟨by omega, by omega⟩) z396 (by first | exact x_rbe e_z396 g_z396 rfl rfl | exact x_rb g_z396 rfl rfl | exact ⟨by omega, by omega⟩) z398 (by first | exact x_rbe e_z398 g_z398 rfl rfl | exact x_rb g_z398 rfl rfl | exact ⟨by omega, by omega⟩) z400 (by first | exact x_rbe e_z400 g_z400 rfl rfl | exact x_rb g_z400 rfl rfl | exact ⟨by omega, by omega⟩) z402 (by first | exact x_rbe e_z402 g_z402 rfl rfl | exact x_rb g_z402 rfl rfl | exact ⟨by omega, by omega⟩)) ?_)
        rintro s404 v ⟨hG_s404, t_s404, z403, rfl, g_z403⟩
        have q405 : s404 46 3 = x1000 := (t_s404 46 3 (show 452 ∉ [3329, 3334, 3335, 3336, 3392, 3456, 3520, 3584, 3276, 3648, 3712, 3776, 3840, 3904, 3968, 3277, 4032] from by decide +kernel)).trans e_x1000.symm
        have q406 : s404 256 6 = x1001 := (t_s404 256 6 (show 4103 ∉ [3329, 3334, 3335, 3336, 3392, 3456, 3520, 3584, 3276, 3648, 3712, 3776, 3840, 3904, 3968, 3277, 4032] from by decide +kernel)).trans e_x1001.symm
        have J_s404 : J s404 := J.fl i_J t_s404 (by decide +kernel)
        have T0_s404 : T0 s404 := T0.fl i_T0 t_s404 (by decide +kernel)
        have G1_s404 : G1 s404 := G1.fl i_G1 t_s404 (by decide +kernel)
        show xe (some (N, xs)) 231 920 [(0, .ref 2000), (1, .ref 0), (2, .ref 256), (3, vi x3)] [vi z403] s404 295 10442 _
        refine x_A k231_920 (fun _ => rfl) ?_
        refine x_A k231_921 (fun _ => rfl) ?_
        refine x_A k231_922 (fun _ => rfl) ?_
        refine x_A k231_923 (fun _ => rfl) ?_
        refine x_A k231_924 (fun _ => rfl) ?_
        refine x_iadd k231_925 ?_
        refine x_top (fun z407 e_z407 => ?_)
        refine x_scr k231_926 hN ⟨by omega, by omega⟩ (fun z408 g_z408 e_z408 => ?_)
        unfold in32 at g_z408
        have q_z408 : z408 = z394 := by rw [e_z408, e_z394, show z407 = z393 by omega]
        refine x_A k231_927 (fun _ => rfl) ?_
        refine x_A k231_928 (fun _ => rfl) ?_
        refine x_A k231_929 (fun _ => rfl) ?_
        refine x_iadd k231_930 ?_
        refine x_top (fun z409 e_z409 => ?_)
        refine x_scr k231_931 hN ⟨by omega, by omega⟩ (fun z410 g_z410 e_z410 => ?_)
        unfold in32 at g_z410
        have q_z410 : z410 = z396 := by rw [e_z410, e_z396, show z409 = z395 by omega]
        refine x_A k231_932 (fun _ => rfl) ?_
        refine x_A k231_933 (fun _ => rfl) ?_
        refine x_A k231_934 (fun _ => rfl) ?_
        refine x_iadd k231_935 ?_
        refine x_top (fun z411 e_z411 => ?_)
        refine x_scr k231_936 hN ⟨by omega, by omega⟩ (fun z412 g_z412 e_z412 => ?_)
        unfold in32 at g_z412
        have q_z412 : z412 = z398 := by rw [e_z412, e_z398, show z411 = z397 by omega]
        refine x_A k231_937 (fun _ => rfl) ?_
        refine x_A k231_938 (fun _ => rfl) ?_
        refine x_A k231_939 (fun _ => rfl) ?_
        refine x_iadd k231_940 ?_
        refine x_top (fun z413 e_z413 => ?_)
        refine x_scr k231_941 hN ⟨by omega, by omega⟩ (fun z414 g_z414 e_z414 => ?_)
        unfold in32 at g_z414
        have q_z414 : z414 = z400 := by rw [e_z414, e_z400, show z413 = z399 by omega]
        refine x_A k231_942 (fun _ => rfl) ?_
        refine x_A k231_943 (fun _ => rfl) ?_
        refine x_A k231_944 (fun _ => rfl) ?_
        refine x_iadd k231_945 ?_
        refine x_top (fun z415 e_z415 => ?_)
        refine x_scr k231_946 hN ⟨by omega, by omega⟩ (fun z416 g_z416 e_z416 => ?_)
        unfold in32 at g_z416
        have q_z416 : z416 = z402 := by rw [e_z416, e_z402, show z415 = z401 by omega]
        refine x_callV k231_947 (y := 206) (n := 5) (w0 := 0) (w1 := 5) (as := [vi z408, vi z410, vi z412, vi z414, vi z416]) (rest := []) (by decide +kernel) (q := 256) (nq := 62) (kq := 15) ⟨by decide, rfl⟩ rfl rfl rfl rfl (xe_mono (C_X11_hands_256 s404 hG_s404 J_s404 z408 (by first | exact x_rbe e_z408 g_z408 rfl rfl | exact x_rb g_z408 rfl rfl | exact ⟨by omega, by omega⟩) z410 (by first | exact x_rbe e_z410 g_z410 rfl rfl | exact x_rb g_z410 rfl rfl | exact ⟨by omega, by omega⟩) z412 (by first | exact x_rbe e_z412 g_z412 rfl rfl | exact x_rb g_z412 rfl rfl | exact ⟨by omega, by omega⟩) z414 (by first | exact x_rbe e_z414 g_z414 rfl rfl | exact x_rb g_z414 rfl rfl | exact ⟨by omega, by omega⟩) z416 (by first | exact x_rbe e_z416 g_z416 rfl rfl | exact x_rb g_z416 rfl rfl | exact ⟨by omega, by omega⟩)) ?_)
        rintro s418 v ⟨hG_s418, t_s418, z417, rfl, g_z417⟩
        have q419 : s418 46 3 = x1000 := (t_s418 46 3 (show 452 ∉ [5312, 5376, 4123, 5440, 5504, 5568, 5632, 5696, 5760] from by decide +kernel)).trans q405
        have q420 : s418 256 6 = x1001 := (t_s418 256 6 (show 4103 ∉ [5312, 5376, 4123, 5440, 5504, 5568, 5632, 5696, 5760] from by decide +kernel)).trans q406
        have J_s418 : J s418 := J.fl J_s404 t_s418 (by decide +kernel)
        have T0_s418 : T0 s418 := T0.fl T0_s404 t_s418 (by decide +kernel)
        have G1_s418 : G1 s418 := G1.fl G1_s404 t_s418 (by decide +kernel)
        show xe (some (N, xs)) 231 950 [(0, .ref 2000), (1, .ref 0), (2, .ref 256), (3, vi x3)] [vi z417] s418 295 10442 _
        refine x_A k231_950 (fun _ => rfl) ?_
        refine x_goto k231_951 (t := 1300) rfl ?_
        refine x_iinc k231_1300 (ls' := [(3, vi (x3 + 7)), (0, .ref 2000), (1, .ref 0), (2, .ref 256)]) rfl (by decide) rfl ?_
        refine x_goto k231_1303 (t := 18) rfl ?_
        refine x_ls (l := [(0, .ref 2000), (1, .ref 0), (2, .ref 256), (3, vi (x3 + 7))]) (show ([0, 1, 2, 3] : List Nat).Nodup from by decide +kernel) ⟨rfl, rfl, rfl, rfl, trivial⟩ ?_
        exact ih s418 (x3 + 7) x1000 x1001 hG_s418 trivial ⟨by omega, by omega⟩ (by first | exact x_rb b_x1000 rfl rfl | exact ⟨by omega, by omega⟩) (by first | exact x_rb b_x1001 rfl rfl | exact ⟨by omega, by omega⟩) (by omega) (q419).symm (q420).symm J_s418 T0_s418 G1_s418  (by omega)
      · rw [c5]
        refine x_B k231_33 rfl (fun _ => rfl) (fun _ => rfl) (fun _ _ => rfl) ?_
        show xe (some (N, xs)) 231 954 [(0, .ref 2000), (1, .ref 0), (2, .ref 256), (3, vi x3)] [] s 295 10442 _
        refine x_A k231_954 (fun _ => rfl) ?_
        refine x_A k231_955 (fun _ => rfl) ?_
        refine x_A k231_956 (fun _ => rfl) ?_
        refine x_A k231_957 (fun _ => rfl) ?_
        refine x_iadd k231_958 ?_
        refine x_top (fun z421 e_z421 => ?_)
        refine x_scr k231_959 hN ⟨by omega, by omega⟩ (fun z422 g_z422 e_z422 => ?_)
        unfold in32 at g_z422
        refine x_A k231_960 (fun _ => rfl) ?_
        refine x_A k231_961 (fun _ => rfl) ?_
        refine x_A k231_962 (fun _ => rfl) ?_
        refine x_iadd k231_963 ?_
        refine x_top (fun z423 e_z423 => ?_)
        refine x_scr k231_964 hN ⟨by omega, by omega⟩ (fun z424 g_z424 e_z424 => ?_)
        unfold in32 at g_z424
        refine x_A k231_965 (fun _ => rfl) ?_
        refine x_A k231_966 (fun _ => rfl) ?_
        refine x_A k231_967 (fun _ => rfl) ?_
        refine x_iadd k231_968 ?_
        refine x_top (fun z425 e_z425 => ?_)
        refine x_scr k231_969 hN ⟨by omega, by omega⟩ (fun z426 g_z426 e_z426 => ?_)
        unfold in32 at g_z426
        refine x_A k231_970 (fun _ => rfl) ?_
        refine x_A k231_971 (fun _ => rfl) ?_
        refine x_A k231_972 (fun _ => rfl) ?_
        refine x_iadd k231_973 ?_
        refine x_top (fun z427 e_z427 => ?_)
        refine x_scr k231_974 hN ⟨by omega, by omega⟩ (fun z428 g_z428 e_z428 => ?_)
        unfold in32 at g_z428
        refine x_A k231_975 (fun _ => rfl) ?_
        refine x_A k231_976 (fun _ => rfl) ?_
        refine x_A k231_977 (fun _ => rfl) ?_
        refine x_iadd k231_978 ?_
        refine x_top (fun z429 e_z429 => ?_)
        refine x_scr k231_979 hN ⟨by omega, by omega⟩ (fun z430 g_z430 e_z430 => ?_)
        unfold in32 at g_z430
        refine x_A k231_980 (fun _ => rfl) ?_
        refine x_A k231_981 (fun _ => rfl) ?_
        refine x_bipush k231_982 (by decide +kernel) ?_
        refine x_iadd k231_984 ?_
        refine x_top (fun z431 e_z431 => ?_)
        refine x_scr k231_985 hN ⟨by omega, by omega⟩ (fun z432 g_z432 e_z432 => ?_)
        unfold in32 at g_z432
        refine x_callV k231_986 (y := 113) (n := 6) (w0 := 0) (w1 := 6) (as := [vi z422, vi z424, vi z426, vi z428, vi z430, vi z432]) (rest := []) (by decide +kernel) (q := 0) (nq := 12) (kq := 3) ⟨by decide, rfl⟩ rfl rfl rfl rfl (xe_mono (C_X10_together_0 s hG i_J z422 (by first | exact x_rbe e_z422 g_z422 rfl rfl | exact x_rb g_z422 rfl rfl | exact ⟨by omega, by omega⟩) z424 (by first | exact x_rbe e_z424 g_z424 rfl rfl | exact x_rb g_z424 rfl rfl | exact ⟨by omega, by omega⟩) z426 (by first | exact x_rbe e_z426 g_z426 rfl rfl | exact x_rb g_z426 rfl rfl | exact ⟨by omega, by omega⟩) z428 (by first | exact x_rbe e_z428 g_z428 rfl rfl | exact x_rb g_z428 rfl rfl | exact ⟨by omega, by omega⟩) z430 (by first | exact x_rbe e_z430 g_z430 rfl rfl | exact x_rb g_z430 rfl rfl | exact ⟨by omega, by omega⟩) z432 (by first | exact x_rbe e_z432 g_z432 rfl rfl | exact x_rb g_z432 rfl rfl | exact ⟨by omega, by omega⟩)) ?_)
        rintro s434 v ⟨hG_s434, t_s434, z433, rfl, g_z433⟩
        have q435 : s434 46 3 = x1000 := (t_s434 46 3 (show 452 ∉ [3329, 3334, 3335, 3336, 3392, 3456, 3520, 3584, 3276, 3648, 3712, 3776, 3840, 3904, 3968, 3277, 4032] from by decide +kernel)).trans e_x1000.symm
        have q436 : s434 256 6 = x1001 := (t_s434 256 6 (show 4103 ∉ [3329, 3334, 3335, 3336, 3392, 3456, 3520, 3584, 3276, 3648, 3712, 3776, 3840, 3904, 3968, 3277, 4032] from by decide +kernel)).trans e_x1001.symm
        have J_s434 : J s434 := J.fl i_J t_s434 (by decide +kernel)
        have T0_s434 : T0 s434 := T0.fl i_T0 t_s434 (by decide +kernel)
        have G1_s434 : G1 s434 := G1.fl i_G1 t_s434 (by decide +kernel)
        show xe (some (N, xs)) 231 989 [(0, .ref 2000), (1, .ref 0), (2, .ref 256), (3, vi x3)] [vi z433] s434 295 10442 _
        refine x_A k231_989 (fun _ => rfl) ?_
        refine x_A k231_990 (fun _ => rfl) ?_
        refine x_A k231_991 (fun _ => rfl) ?_
        refine x_A k231_992 (fun _ => rfl) ?_
        refine x_A k231_993 (fun _ => rfl) ?_
        refine x_iadd k231_994 ?_
        refine x_top (fun z437 e_z437 => ?_)
        refine x_scr k231_995 hN ⟨by omega, by omega⟩ (fun z438 g_z438 e_z438 => ?_)
        unfold in32 at g_z438
        have q_z438 : z438 = z422 := by rw [e_z438, e_z422, show z437 = z421 by omega]
        refine x_A k231_996 (fun _ => rfl) ?_
        refine x_A k231_997 (fun _ => rfl) ?_
        refine x_A k231_998 (fun _ => rfl) ?_
        refine x_iadd k231_999 ?_
        refine x_top (fun z439 e_z439 => ?_)
        refine x_scr k231_1000 hN ⟨by omega, by omega⟩ (fun z440 g_z440 e_z440 => ?_)
        unfold in32 at g_z440
        have q_z440 : z440 = z424 := by rw [e_z440, e_z424, show z439 = z423 by omega]
        refine x_A k231_1001 (fun _ => rfl) ?_
        refine x_A k231_1002 (fun _ => rfl) ?_
        refine x_A k231_1003 (fun _ => rfl) ?_
        refine x_iadd k231_1004 ?_
        refine x_top (fun z441 e_z441 => ?_)
        refine x_scr k231_1005 hN ⟨by omega, by omega⟩ (fun z442 g_z442 e_z442 => ?_)
        unfold in32 at g_z442
        have q_z442 : z442 = z426 := by rw [e_z442, e_z426, show z441 = z425 by omega]
        refine x_A k231_1006 (fun _ => rfl) ?_
        refine x_A k231_1007 (fun _ => rfl) ?_
        refine x_A k231_1008 (fun _ => rfl) ?_
        refine x_iadd k231_1009 ?_
        refine x_top (fun z443 e_z443 => ?_)
        refine x_scr k231_1010 hN ⟨by omega, by omega⟩ (fun z444 g_z444 e_z444 => ?_)
        unfold in32 at g_z444
        have q_z444 : z444 = z428 := by rw [e_z444, e_z428, show z443 = z427 by omega]
        refine x_A k231_1011 (fun _ => rfl) ?_
        refine x_A k231_1012 (fun _ => rfl) ?_
        refine x_A k231_1013 (fun _ => rfl) ?_
        refine x_iadd k231_1014 ?_
        refine x_top (fun z445 e_z445 => ?_)
        refine x_scr k231_1015 hN ⟨by omega, by omega⟩ (fun z446 g_z446 e_z446 => ?_)
        unfold in32 at g_z446
        have q_z446 : z446 = z430 := by rw [e_z446, e_z430, show z445 = z429 by omega]
        refine x_A k231_1016 (fun _ => rfl) ?_
        refine x_A k231_1017 (fun _ => rfl) ?_
        refine x_bipush k231_1018 (by decide +kernel) ?_
        refine x_iadd k231_1020 ?_
        refine x_top (fun z447 e_z447 => ?_)
        refine x_scr k231_1021 hN ⟨by omega, by omega⟩ (fun z448 g_z448 e_z448 => ?_)
        unfold in32 at g_z448
        have q_z448 : z448 = z432 := by rw [e_z448, e_z432, show z447 = z431 by omega]
        refine x_callV k231_1022 (y := 208) (n := 6) (w0 := 0) (w1 := 6) (as := [vi z438, vi z440, vi z442, vi z444, vi z446, vi z448]) (rest := []) (by decide +kernel) (q := 256) (nq := 62) (kq := 15) ⟨by decide, rfl⟩ rfl rfl rfl rfl (xe_mono (C_X11_together_256 s434 hG_s434 J_s434 z438 (by first | exact x_rbe e_z438 g_z438 rfl rfl | exact x_rb g_z438 rfl rfl | exact ⟨by omega, by omega⟩) z440 (by first | exact x_rbe e_z440 g_z440 rfl rfl | exact x_rb g_z440 rfl rfl | exact ⟨by omega, by omega⟩) z442 (by first | exact x_rbe e_z442 g_z442 rfl rfl | exact x_rb g_z442 rfl rfl | exact ⟨by omega, by omega⟩) z444 (by first | exact x_rbe e_z444 g_z444 rfl rfl | exact x_rb g_z444 rfl rfl | exact ⟨by omega, by omega⟩) z446 (by first | exact x_rbe e_z446 g_z446 rfl rfl | exact x_rb g_z446 rfl rfl | exact ⟨by omega, by omega⟩) z448 (by first | exact x_rbe e_z448 g_z448 rfl rfl | exact x_rb g_z448 rfl rfl | exact ⟨by omega, by omega⟩)) ?_)
        rintro s450 v ⟨hG_s450, t_s450, z449, rfl, g_z449⟩
        have q451 : s450 46 3 = x1000 := (t_s450 46 3 (show 452 ∉ [5312, 5376, 4123, 5440, 5504, 5568, 5632, 5696, 5760, 4150, 4151, 4152, 4153] from by decide +kernel)).trans q435
        have q452 : s450 256 6 = x1001 := (t_s450 256 6 (show 4103 ∉ [5312, 5376, 4123, 5440, 5504, 5568, 5632, 5696, 5760, 4150, 4151, 4152, 4153] from by decide +kernel)).trans q436
        have J_s450 : J s450 := J.fl J_s434 t_s450 (by decide +kernel)
        have T0_s450 : T0 s450 := T0.fl T0_s434 t_s450 (by decide +kernel)
        have G1_s450 : G1 s450 := G1.fl G1_s434 t_s450 (by decide +kernel)
        show xe (some (N, xs)) 231 1025 [(0, .ref 2000), (1, .ref 0), (2, .ref 256), (3, vi x3)] [vi z449] s450 295 10442 _
        refine x_A k231_1025 (fun _ => rfl) ?_
        refine x_goto k231_1026 (t := 1300) rfl ?_
        refine x_iinc k231_1300 (ls' := [(3, vi (x3 + 7)), (0, .ref 2000), (1, .ref 0), (2, .ref 256)]) rfl (by decide) rfl ?_
        refine x_goto k231_1303 (t := 18) rfl ?_
        refine x_ls (l := [(0, .ref 2000), (1, .ref 0), (2, .ref 256), (3, vi (x3 + 7))]) (show ([0, 1, 2, 3] : List Nat).Nodup from by decide +kernel) ⟨rfl, rfl, rfl, rfl, trivial⟩ ?_
        exact ih s450 (x3 + 7) x1000 x1001 hG_s450 trivial ⟨by omega, by omega⟩ (by first | exact x_rb b_x1000 rfl rfl | exact ⟨by omega, by omega⟩) (by first | exact x_rb b_x1001 rfl rfl | exact ⟨by omega, by omega⟩) (by omega) (q451).symm (q452).symm J_s450 T0_s450 G1_s450  (by omega)
      · rw [c5]
        refine x_B k231_33 rfl (fun _ => rfl) (fun _ => rfl) (fun _ _ => rfl) ?_
        show xe (some (N, xs)) 231 1029 [(0, .ref 2000), (1, .ref 0), (2, .ref 256), (3, vi x3)] [] s 295 10442 _
        refine x_A k231_1029 (fun _ => rfl) ?_
        refine x_A k231_1030 (fun _ => rfl) ?_
        refine x_A k231_1031 (fun _ => rfl) ?_
        refine x_A k231_1032 (fun _ => rfl) ?_
        refine x_iadd k231_1033 ?_
        refine x_top (fun z453 e_z453 => ?_)
        refine x_scr k231_1034 hN ⟨by omega, by omega⟩ (fun z454 g_z454 e_z454 => ?_)
        unfold in32 at g_z454
        refine x_A k231_1035 (fun _ => rfl) ?_
        refine x_A k231_1036 (fun _ => rfl) ?_
        refine x_A k231_1037 (fun _ => rfl) ?_
        refine x_iadd k231_1038 ?_
        refine x_top (fun z455 e_z455 => ?_)
        refine x_scr k231_1039 hN ⟨by omega, by omega⟩ (fun z456 g_z456 e_z456 => ?_)
        unfold in32 at g_z456
        refine x_A k231_1040 (fun _ => rfl) ?_
        refine x_A k231_1041 (fun _ => rfl) ?_
        refine x_A k231_1042 (fun _ => rfl) ?_
        refine x_iadd k231_1043 ?_
        refine x_top (fun z457 e_z457 => ?_)
        refine x_scr k231_1044 hN ⟨by omega, by omega⟩ (fun z458 g_z458 e_z458 => ?_)
        unfold in32 at g_z458
        refine x_callV k231_1045 (y := 114) (n := 3) (w0 := 0) (w1 := 3) (as := [vi z454, vi z456, vi z458]) (rest := []) (by decide +kernel) (q := 0) (nq := 12) (kq := 3) ⟨by decide, rfl⟩ rfl rfl rfl rfl (xe_mono (C_X10_along_0 s hG i_J z454 (by first | exact x_rbe e_z454 g_z454 rfl rfl | exact x_rb g_z454 rfl rfl | exact ⟨by omega, by omega⟩) z456 (by first | exact x_rbe e_z456 g_z456 rfl rfl | exact x_rb g_z456 rfl rfl | exact ⟨by omega, by omega⟩) z458 (by first | exact x_rbe e_z458 g_z458 rfl rfl | exact x_rb g_z458 rfl rfl | exact ⟨by omega, by omega⟩)) ?_)
        rintro s460 v ⟨hG_s460, t_s460, z459, rfl, g_z459⟩
        have q461 : s460 46 3 = x1000 := (t_s460 46 3 (show 452 ∉ [3329, 3334, 3335, 3336, 3392, 3456, 3520, 3584, 3276, 3648, 3712, 3776, 3840, 3904, 3968, 3277, 4032] from by decide +kernel)).trans e_x1000.symm
        have q462 : s460 256 6 = x1001 := (t_s460 256 6 (show 4103 ∉ [3329, 3334, 3335, 3336, 3392, 3456, 3520, 3584, 3276, 3648, 3712, 3776, 3840, 3904, 3968, 3277, 4032] from by decide +kernel)).trans e_x1001.symm
        have J_s460 : J s460 := J.fl i_J t_s460 (by decide +kernel)
        have T0_s460 : T0 s460 := T0.fl i_T0 t_s460 (by decide +kernel)
        have G1_s460 : G1 s460 := G1.fl i_G1 t_s460 (by decide +kernel)
        show xe (some (N, xs)) 231 1048 [(0, .ref 2000), (1, .ref 0), (2, .ref 256), (3, vi x3)] [vi z459] s460 295 10442 _
        refine x_A k231_1048 (fun _ => rfl) ?_
        refine x_A k231_1049 (fun _ => rfl) ?_
        refine x_A k231_1050 (fun _ => rfl) ?_
        refine x_A k231_1051 (fun _ => rfl) ?_
        refine x_A k231_1052 (fun _ => rfl) ?_
        refine x_iadd k231_1053 ?_
        refine x_top (fun z463 e_z463 => ?_)
        refine x_scr k231_1054 hN ⟨by omega, by omega⟩ (fun z464 g_z464 e_z464 => ?_)
        unfold in32 at g_z464
        have q_z464 : z464 = z454 := by rw [e_z464, e_z454, show z463 = z453 by omega]
        refine x_A k231_1055 (fun _ => rfl) ?_
        refine x_A k231_1056 (fun _ => rfl) ?_
        refine x_A k231_1057 (fun _ => rfl) ?_
        refine x_iadd k231_1058 ?_
        refine x_top (fun z465 e_z465 => ?_)
        refine x_scr k231_1059 hN ⟨by omega, by omega⟩ (fun z466 g_z466 e_z466 => ?_)
        unfold in32 at g_z466
        have q_z466 : z466 = z456 := by rw [e_z466, e_z456, show z465 = z455 by omega]
        refine x_A k231_1060 (fun _ => rfl) ?_
        refine x_A k231_1061 (fun _ => rfl) ?_
        refine x_A k231_1062 (fun _ => rfl) ?_
        refine x_iadd k231_1063 ?_
        refine x_top (fun z467 e_z467 => ?_)
        refine x_scr k231_1064 hN ⟨by omega, by omega⟩ (fun z468 g_z468 e_z468 => ?_)
        unfold in32 at g_z468
        have q_z468 : z468 = z458 := by rw [e_z468, e_z458, show z467 = z457 by omega]
        refine x_callV k231_1065 (y := 211) (n := 3) (w0 := 0) (w1 := 3) (as := [vi z464, vi z466, vi z468]) (rest := []) (by decide +kernel) (q := 256) (nq := 62) (kq := 15) ⟨by decide, rfl⟩ rfl rfl rfl rfl (xe_mono (C_X11_along_256 s460 hG_s460 J_s460 z464 (by first | exact x_rbe e_z464 g_z464 rfl rfl | exact x_rb g_z464 rfl rfl | exact ⟨by omega, by omega⟩) z466 (by first | exact x_rbe e_z466 g_z466 rfl rfl | exact x_rb g_z466 rfl rfl | exact ⟨by omega, by omega⟩) z468 (by first | exact x_rbe e_z468 g_z468 rfl rfl | exact x_rb g_z468 rfl rfl | exact ⟨by omega, by omega⟩)) ?_)
        rintro s470 v ⟨hG_s470, t_s470, z469, rfl, g_z469⟩
        have q471 : s470 46 3 = x1000 := (t_s470 46 3 (show 452 ∉ [5312, 5376, 4123, 5440, 5504, 5568, 5632, 5696, 5760, 4150, 4151, 4152, 4153] from by decide +kernel)).trans q461
        have q472 : s470 256 6 = x1001 := (t_s470 256 6 (show 4103 ∉ [5312, 5376, 4123, 5440, 5504, 5568, 5632, 5696, 5760, 4150, 4151, 4152, 4153] from by decide +kernel)).trans q462
        have J_s470 : J s470 := J.fl J_s460 t_s470 (by decide +kernel)
        have T0_s470 : T0 s470 := T0.fl T0_s460 t_s470 (by decide +kernel)
        have G1_s470 : G1 s470 := G1.fl G1_s460 t_s470 (by decide +kernel)
        show xe (some (N, xs)) 231 1068 [(0, .ref 2000), (1, .ref 0), (2, .ref 256), (3, vi x3)] [vi z469] s470 295 10442 _
        refine x_A k231_1068 (fun _ => rfl) ?_
        refine x_goto k231_1069 (t := 1300) rfl ?_
        refine x_iinc k231_1300 (ls' := [(3, vi (x3 + 7)), (0, .ref 2000), (1, .ref 0), (2, .ref 256)]) rfl (by decide) rfl ?_
        refine x_goto k231_1303 (t := 18) rfl ?_
        refine x_ls (l := [(0, .ref 2000), (1, .ref 0), (2, .ref 256), (3, vi (x3 + 7))]) (show ([0, 1, 2, 3] : List Nat).Nodup from by decide +kernel) ⟨rfl, rfl, rfl, rfl, trivial⟩ ?_
        exact ih s470 (x3 + 7) x1000 x1001 hG_s470 trivial ⟨by omega, by omega⟩ (by first | exact x_rb b_x1000 rfl rfl | exact ⟨by omega, by omega⟩) (by first | exact x_rb b_x1001 rfl rfl | exact ⟨by omega, by omega⟩) (by omega) (q471).symm (q472).symm J_s470 T0_s470 G1_s470  (by omega)
      · rw [c5]
        refine x_B k231_33 rfl (fun _ => rfl) (fun _ => rfl) (fun _ _ => rfl) ?_
        show xe (some (N, xs)) 231 1072 [(0, .ref 2000), (1, .ref 0), (2, .ref 256), (3, vi x3)] [] s 295 10442 _
        refine x_A k231_1072 (fun _ => rfl) ?_
        refine x_A k231_1073 (fun _ => rfl) ?_
        refine x_A k231_1074 (fun _ => rfl) ?_
        refine x_A k231_1075 (fun _ => rfl) ?_
        refine x_iadd k231_1076 ?_
        refine x_top (fun z473 e_z473 => ?_)
        refine x_scr k231_1077 hN ⟨by omega, by omega⟩ (fun z474 g_z474 e_z474 => ?_)
        unfold in32 at g_z474
        refine x_A k231_1078 (fun _ => rfl) ?_
        refine x_A k231_1079 (fun _ => rfl) ?_
        refine x_A k231_1080 (fun _ => rfl) ?_
        refine x_iadd k231_1081 ?_
        refine x_top (fun z475 e_z475 => ?_)
        refine x_scr k231_1082 hN ⟨by omega, by omega⟩ (fun z476 g_z476 e_z476 => ?_)
        unfold in32 at g_z476
        refine x_A k231_1083 (fun _ => rfl) ?_
        refine x_A k231_1084 (fun _ => rfl) ?_
        refine x_A k231_1085 (fun _ => rfl) ?_
        refine x_iadd k231_1086 ?_
        refine x_top (fun z477 e_z477 => ?_)
        refine x_scr k231_1087 hN ⟨by omega, by omega⟩ (fun z478 g_z478 e_z478 => ?_)
        unfold in32 at g_z478
        refine x_callV k231_1088 (y := 115) (n := 3) (w0 := 0) (w1 := 3) (as := [vi z474, vi z476, vi z478]) (rest := []) (by decide +kernel) (q := 0) (nq := 12) (kq := 3) ⟨by decide, rfl⟩ rfl rfl rfl rfl (xe_mono (C_X10_likely_0 s hG i_J z474 (by first | exact x_rbe e_z474 g_z474 rfl rfl | exact x_rb g_z474 rfl rfl | exact ⟨by omega, by omega⟩) z476 (by first | exact x_rbe e_z476 g_z476 rfl rfl | exact x_rb g_z476 rfl rfl | exact ⟨by omega, by omega⟩) z478 (by first | exact x_rbe e_z478 g_z478 rfl rfl | exact x_rb g_z478 rfl rfl | exact ⟨by omega, by omega⟩)) ?_)
        rintro s480 v ⟨hG_s480, t_s480, z479, rfl, g_z479⟩
        have q481 : s480 46 3 = x1000 := (t_s480 46 3 (show 452 ∉ [3329, 3334, 3335, 3336, 3392, 3456, 3520, 3584, 3276, 3648, 3712, 3776, 3840, 3904, 3968, 3277, 4032] from by decide +kernel)).trans e_x1000.symm
        have q482 : s480 256 6 = x1001 := (t_s480 256 6 (show 4103 ∉ [3329, 3334, 3335, 3336, 3392, 3456, 3520, 3584, 3276, 3648, 3712, 3776, 3840, 3904, 3968, 3277, 4032] from by decide +kernel)).trans e_x1001.symm
        have J_s480 : J s480 := J.fl i_J t_s480 (by decide +kernel)
        have T0_s480 : T0 s480 := T0.fl i_T0 t_s480 (by decide +kernel)
        have G1_s480 : G1 s480 := G1.fl i_G1 t_s480 (by decide +kernel)
        show xe (some (N, xs)) 231 1091 [(0, .ref 2000), (1, .ref 0), (2, .ref 256), (3, vi x3)] [vi z479] s480 295 10442 _
        refine x_A k231_1091 (fun _ => rfl) ?_
        refine x_A k231_1092 (fun _ => rfl) ?_
        refine x_A k231_1093 (fun _ => rfl) ?_
        refine x_A k231_1094 (fun _ => rfl) ?_
        refine x_A k231_1095 (fun _ => rfl) ?_
        refine x_iadd k231_1096 ?_
        refine x_top (fun z483 e_z483 => ?_)
        refine x_scr k231_1097 hN ⟨by omega, by omega⟩ (fun z484 g_z484 e_z484 => ?_)
        unfold in32 at g_z484
        have q_z484 : z484 = z474 := by rw [e_z484, e_z474, show z483 = z473 by omega]
        refine x_A k231_1098 (fun _ => rfl) ?_
        refine x_A k231_1099 (fun _ => rfl) ?_
        refine x_A k231_1100 (fun _ => rfl) ?_
        refine x_iadd k231_1101 ?_
        refine x_top (fun z485 e_z485 => ?_)
        refine x_scr k231_1102 hN ⟨by omega, by omega⟩ (fun z486 g_z486 e_z486 => ?_)
        unfold in32 at g_z486
        have q_z486 : z486 = z476 := by rw [e_z486, e_z476, show z485 = z475 by omega]
        refine x_A k231_1103 (fun _ => rfl) ?_
        refine x_A k231_1104 (fun _ => rfl) ?_
        refine x_A k231_1105 (fun _ => rfl) ?_
        refine x_iadd k231_1106 ?_
        refine x_top (fun z487 e_z487 => ?_)
        refine x_scr k231_1107 hN ⟨by omega, by omega⟩ (fun z488 g_z488 e_z488 => ?_)
        unfold in32 at g_z488
        have q_z488 : z488 = z478 := by rw [e_z488, e_z478, show z487 = z477 by omega]
        refine x_callV k231_1108 (y := 212) (n := 3) (w0 := 0) (w1 := 3) (as := [vi z484, vi z486, vi z488]) (rest := []) (by decide +kernel) (q := 256) (nq := 62) (kq := 15) ⟨by decide, rfl⟩ rfl rfl rfl rfl (xe_mono (C_X11_likely_256 s480 hG_s480 J_s480 z484 (by first | exact x_rbe e_z484 g_z484 rfl rfl | exact x_rb g_z484 rfl rfl | exact ⟨by omega, by omega⟩) z486 (by first | exact x_rbe e_z486 g_z486 rfl rfl | exact x_rb g_z486 rfl rfl | exact ⟨by omega, by omega⟩) z488 (by first | exact x_rbe e_z488 g_z488 rfl rfl | exact x_rb g_z488 rfl rfl | exact ⟨by omega, by omega⟩)) ?_)
        rintro s490 v ⟨hG_s490, t_s490, z489, rfl, g_z489⟩
        have q491 : s490 46 3 = x1000 := (t_s490 46 3 (show 452 ∉ [5312, 5376, 4123, 5440, 5504, 5568, 5632, 5696, 5760, 4150, 4151, 4152, 4153, 6336] from by decide +kernel)).trans q481
        have q492 : s490 256 6 = x1001 := (t_s490 256 6 (show 4103 ∉ [5312, 5376, 4123, 5440, 5504, 5568, 5632, 5696, 5760, 4150, 4151, 4152, 4153, 6336] from by decide +kernel)).trans q482
        have J_s490 : J s490 := J.fl J_s480 t_s490 (by decide +kernel)
        have T0_s490 : T0 s490 := T0.fl T0_s480 t_s490 (by decide +kernel)
        have G1_s490 : G1 s490 := G1.fl G1_s480 t_s490 (by decide +kernel)
        show xe (some (N, xs)) 231 1111 [(0, .ref 2000), (1, .ref 0), (2, .ref 256), (3, vi x3)] [vi z489] s490 295 10442 _
        refine x_A k231_1111 (fun _ => rfl) ?_
        refine x_goto k231_1112 (t := 1300) rfl ?_
        refine x_iinc k231_1300 (ls' := [(3, vi (x3 + 7)), (0, .ref 2000), (1, .ref 0), (2, .ref 256)]) rfl (by decide) rfl ?_
        refine x_goto k231_1303 (t := 18) rfl ?_
        refine x_ls (l := [(0, .ref 2000), (1, .ref 0), (2, .ref 256), (3, vi (x3 + 7))]) (show ([0, 1, 2, 3] : List Nat).Nodup from by decide +kernel) ⟨rfl, rfl, rfl, rfl, trivial⟩ ?_
        exact ih s490 (x3 + 7) x1000 x1001 hG_s490 trivial ⟨by omega, by omega⟩ (by first | exact x_rb b_x1000 rfl rfl | exact ⟨by omega, by omega⟩) (by first | exact x_rb b_x1001 rfl rfl | exact ⟨by omega, by omega⟩) (by omega) (q491).symm (q492).symm J_s490 T0_s490 G1_s490  (by omega)
      · rw [c5]
        refine x_B k231_33 rfl (fun _ => rfl) (fun _ => rfl) (fun _ _ => rfl) ?_
        show xe (some (N, xs)) 231 1115 [(0, .ref 2000), (1, .ref 0), (2, .ref 256), (3, vi x3)] [] s 295 10442 _
        refine x_A k231_1115 (fun _ => rfl) ?_
        refine x_A k231_1116 (fun _ => rfl) ?_
        refine x_A k231_1117 (fun _ => rfl) ?_
        refine x_A k231_1118 (fun _ => rfl) ?_
        refine x_iadd k231_1119 ?_
        refine x_top (fun z493 e_z493 => ?_)
        refine x_scr k231_1120 hN ⟨by omega, by omega⟩ (fun z494 g_z494 e_z494 => ?_)
        unfold in32 at g_z494
        refine x_A k231_1121 (fun _ => rfl) ?_
        refine x_A k231_1122 (fun _ => rfl) ?_
        refine x_A k231_1123 (fun _ => rfl) ?_
        refine x_iadd k231_1124 ?_
        refine x_top (fun z495 e_z495 => ?_)
        refine x_scr k231_1125 hN ⟨by omega, by omega⟩ (fun z496 g_z496 e_z496 => ?_)
        unfold in32 at g_z496
        refine x_callV k231_1126 (y := 116) (n := 2) (w0 := 0) (w1 := 2) (as := [vi z494, vi z496]) (rest := []) (by decide +kernel) (q := 0) (nq := 12) (kq := 3) ⟨by decide, rfl⟩ rfl rfl rfl rfl (xe_mono (C_X10_lacking_0 s hG i_J z494 (by first | exact x_rbe e_z494 g_z494 rfl rfl | exact x_rb g_z494 rfl rfl | exact ⟨by omega, by omega⟩) z496 (by first | exact x_rbe e_z496 g_z496 rfl rfl | exact x_rb g_z496 rfl rfl | exact ⟨by omega, by omega⟩)) ?_)
        rintro s498 v ⟨hG_s498, t_s498, z497, rfl, b_z497⟩
        have q499 : s498 46 3 = x1000 := (t_s498 46 3 (show 452 ∉ [3329, 3334, 3335, 3336, 3392, 3456, 3520, 3584, 3276, 3648, 3712, 3776, 3840, 3904, 3968, 3277, 4032] from by decide +kernel)).trans e_x1000.symm
        have q500 : s498 256 6 = x1001 := (t_s498 256 6 (show 4103 ∉ [3329, 3334, 3335, 3336, 3392, 3456, 3520, 3584, 3276, 3648, 3712, 3776, 3840, 3904, 3968, 3277, 4032] from by decide +kernel)).trans e_x1001.symm
        have J_s498 : J s498 := J.fl i_J t_s498 (by decide +kernel)
        have T0_s498 : T0 s498 := T0.fl i_T0 t_s498 (by decide +kernel)
        have G1_s498 : G1 s498 := G1.fl i_G1 t_s498 (by decide +kernel)
        show xe (some (N, xs)) 231 1129 [(0, .ref 2000), (1, .ref 0), (2, .ref 256), (3, vi x3)] [vj z497] s498 295 10442 _
        refine x_A k231_1129 (fun _ => rfl) ?_
        refine x_A k231_1130 (fun _ => rfl) ?_
        refine x_A k231_1131 (fun _ => rfl) ?_
        refine x_A k231_1132 (fun _ => rfl) ?_
        refine x_A k231_1133 (fun _ => rfl) ?_
        refine x_iadd k231_1134 ?_
        refine x_top (fun z501 e_z501 => ?_)
        refine x_scr k231_1135 hN ⟨by omega, by omega⟩ (fun z502 g_z502 e_z502 => ?_)
        unfold in32 at g_z502
        have q_z502 : z502 = z494 := by rw [e_z502, e_z494, show z501 = z493 by omega]
        refine x_A k231_1136 (fun _ => rfl) ?_
        refine x_A k231_1137 (fun _ => rfl) ?_
        refine x_A k231_1138 (fun _ => rfl) ?_
        refine x_iadd k231_1139 ?_
        refine x_top (fun z503 e_z503 => ?_)
        refine x_scr k231_1140 hN ⟨by omega, by omega⟩ (fun z504 g_z504 e_z504 => ?_)
        unfold in32 at g_z504
        have q_z504 : z504 = z496 := by rw [e_z504, e_z496, show z503 = z495 by omega]
        refine x_callV k231_1141 (y := 214) (n := 2) (w0 := 0) (w1 := 2) (as := [vi z502, vi z504]) (rest := []) (by decide +kernel) (q := 256) (nq := 62) (kq := 15) ⟨by decide, rfl⟩ rfl rfl rfl rfl (xe_mono (C_X11_lacking_256 s498 hG_s498 J_s498 z502 (by first | exact x_rbe e_z502 g_z502 rfl rfl | exact x_rb g_z502 rfl rfl | exact ⟨by omega, by omega⟩) z504 (by first | exact x_rbe e_z504 g_z504 rfl rfl | exact x_rb g_z504 rfl rfl | exact ⟨by omega, by omega⟩)) ?_)
        rintro s506 v ⟨hG_s506, t_s506, z505, rfl, b_z505⟩
        have q507 : s506 46 3 = x1000 := (t_s506 46 3 (show 452 ∉ [5312, 5376, 4123, 5440, 5504, 5568, 5632, 5696, 5760] from by decide +kernel)).trans q499
        have q508 : s506 256 6 = x1001 := (t_s506 256 6 (show 4103 ∉ [5312, 5376, 4123, 5440, 5504, 5568, 5632, 5696, 5760] from by decide +kernel)).trans q500
        have J_s506 : J s506 := J.fl J_s498 t_s506 (by decide +kernel)
        have T0_s506 : T0 s506 := T0.fl T0_s498 t_s506 (by decide +kernel)
        have G1_s506 : G1 s506 := G1.fl G1_s498 t_s506 (by decide +kernel)
        show xe (some (N, xs)) 231 1144 [(0, .ref 2000), (1, .ref 0), (2, .ref 256), (3, vi x3)] [vj z505] s506 295 10442 _
        refine x_A k231_1144 (fun _ => rfl) ?_
        refine x_goto k231_1145 (t := 1300) rfl ?_
        refine x_iinc k231_1300 (ls' := [(3, vi (x3 + 7)), (0, .ref 2000), (1, .ref 0), (2, .ref 256)]) rfl (by decide) rfl ?_
        refine x_goto k231_1303 (t := 18) rfl ?_
        refine x_ls (l := [(0, .ref 2000), (1, .ref 0), (2, .ref 256), (3, vi (x3 + 7))]) (show ([0, 1, 2, 3] : List Nat).Nodup from by decide +kernel) ⟨rfl, rfl, rfl, rfl, trivial⟩ ?_
        exact ih s506 (x3 + 7) x1000 x1001 hG_s506 trivial ⟨by omega, by omega⟩ (by first | exact x_rb b_x1000 rfl rfl | exact ⟨by omega, by omega⟩) (by first | exact x_rb b_x1001 rfl rfl | exact ⟨by omega, by omega⟩) (by omega) (q507).symm (q508).symm J_s506 T0_s506 G1_s506  (by omega)
      · rw [c5]
        refine x_B k231_33 rfl (fun _ => rfl) (fun _ => rfl) (fun _ _ => rfl) ?_
        show xe (some (N, xs)) 231 1148 [(0, .ref 2000), (1, .ref 0), (2, .ref 256), (3, vi x3)] [] s 295 10442 _
        refine x_A k231_1148 (fun _ => rfl) ?_
        refine x_callV k231_1149 (y := 117) (n := 0) (w0 := 0) (w1 := 0) (as := []) (rest := []) (by decide +kernel) (q := 0) (nq := 12) (kq := 3) ⟨by decide, rfl⟩ rfl rfl rfl rfl (xe_mono (C_X10_story_0 s hG) ?_)
        rintro s510 v ⟨hG_s510, t_s510, z509, rfl, g_z509⟩
        have q511 : s510 46 3 = x1000 := (t_s510 46 3 (show 452 ∉ [2884] from by decide +kernel)).trans e_x1000.symm
        have q512 : s510 256 6 = x1001 := (t_s510 256 6 (show 4103 ∉ [2884] from by decide +kernel)).trans e_x1001.symm
        have J_s510 : J s510 := J.fl i_J t_s510 (by decide +kernel)
        have T0_s510 : T0 s510 := T0.fl i_T0 t_s510 (by decide +kernel)
        have G1_s510 : G1 s510 := G1.fl i_G1 t_s510 (by decide +kernel)
        show xe (some (N, xs)) 231 1152 [(0, .ref 2000), (1, .ref 0), (2, .ref 256), (3, vi x3)] [vi z509] s510 295 10442 _
        refine x_A k231_1152 (fun _ => rfl) ?_
        refine x_A k231_1153 (fun _ => rfl) ?_
        refine x_callV k231_1154 (y := 215) (n := 0) (w0 := 0) (w1 := 0) (as := []) (rest := []) (by decide +kernel) (q := 256) (nq := 62) (kq := 15) ⟨by decide, rfl⟩ rfl rfl rfl rfl (xe_mono (C_X11_story_256 s510 hG_s510) ?_)
        rintro s514 v ⟨hG_s514, t_s514, z513, rfl, g_z513⟩
        have q515 : s514 46 3 = x1000 := (t_s514 46 3 (show 452 ∉ [4155, 6400] from by decide +kernel)).trans q511
        have q516 : s514 256 6 = x1001 := (t_s514 256 6 (show 4103 ∉ [4155, 6400] from by decide +kernel)).trans q512
        have J_s514 : J s514 := J.fl J_s510 t_s514 (by decide +kernel)
        have T0_s514 : T0 s514 := T0.fl T0_s510 t_s514 (by decide +kernel)
        have G1_s514 : G1 s514 := G1.fl G1_s510 t_s514 (by decide +kernel)
        show xe (some (N, xs)) 231 1157 [(0, .ref 2000), (1, .ref 0), (2, .ref 256), (3, vi x3)] [vi z513] s514 295 10442 _
        refine x_A k231_1157 (fun _ => rfl) ?_
        refine x_goto k231_1158 (t := 1300) rfl ?_
        refine x_iinc k231_1300 (ls' := [(3, vi (x3 + 7)), (0, .ref 2000), (1, .ref 0), (2, .ref 256)]) rfl (by decide) rfl ?_
        refine x_goto k231_1303 (t := 18) rfl ?_
        refine x_ls (l := [(0, .ref 2000), (1, .ref 0), (2, .ref 256), (3, vi (x3 + 7))]) (show ([0, 1, 2, 3] : List Nat).Nodup from by decide +kernel) ⟨rfl, rfl, rfl, rfl, trivial⟩ ?_
        exact ih s514 (x3 + 7) x1000 x1001 hG_s514 trivial ⟨by omega, by omega⟩ (by first | exact x_rb b_x1000 rfl rfl | exact ⟨by omega, by omega⟩) (by first | exact x_rb b_x1001 rfl rfl | exact ⟨by omega, by omega⟩) (by omega) (q515).symm (q516).symm J_s514 T0_s514 G1_s514  (by omega)
      · rw [c5]
        refine x_B k231_33 rfl (fun _ => rfl) (fun _ => rfl) (fun _ _ => rfl) ?_
        show xe (some (N, xs)) 231 1161 [(0, .ref 2000), (1, .ref 0), (2, .ref 256), (3, vi x3)] [] s 295 10442 _
        refine x_A k231_1161 (fun _ => rfl) ?_
        refine x_A k231_1162 (fun _ => rfl) ?_
        refine x_A k231_1163 (fun _ => rfl) ?_
        refine x_A k231_1164 (fun _ => rfl) ?_
        refine x_iadd k231_1165 ?_
        refine x_top (fun z517 e_z517 => ?_)
        refine x_scr k231_1166 hN ⟨by omega, by omega⟩ (fun z518 g_z518 e_z518 => ?_)
        unfold in32 at g_z518
        refine x_A k231_1167 (fun _ => rfl) ?_
        refine x_A k231_1168 (fun _ => rfl) ?_
        refine x_A k231_1169 (fun _ => rfl) ?_
        refine x_iadd k231_1170 ?_
        refine x_top (fun z519 e_z519 => ?_)
        refine x_scr k231_1171 hN ⟨by omega, by omega⟩ (fun z520 g_z520 e_z520 => ?_)
        unfold in32 at g_z520
        refine x_A k231_1172 (fun _ => rfl) ?_
        refine x_A k231_1173 (fun _ => rfl) ?_
        refine x_A k231_1174 (fun _ => rfl) ?_
        refine x_iadd k231_1175 ?_
        refine x_top (fun z521 e_z521 => ?_)
        refine x_scr k231_1176 hN ⟨by omega, by omega⟩ (fun z522 g_z522 e_z522 => ?_)
        unfold in32 at g_z522
        refine x_callV k231_1177 (y := 118) (n := 3) (w0 := 0) (w1 := 3) (as := [vi z518, vi z520, vi z522]) (rest := []) (by decide +kernel) (q := 0) (nq := 12) (kq := 3) ⟨by decide, rfl⟩ rfl rfl rfl rfl (xe_mono (C_X10_moment_0 s hG z518 (by first | exact x_rbe e_z518 g_z518 rfl rfl | exact x_rb g_z518 rfl rfl | exact ⟨by omega, by omega⟩) z520 (by first | exact x_rbe e_z520 g_z520 rfl rfl | exact x_rb g_z520 rfl rfl | exact ⟨by omega, by omega⟩) z522 (by first | exact x_rbe e_z522 g_z522 rfl rfl | exact x_rb g_z522 rfl rfl | exact ⟨by omega, by omega⟩)) ?_)
        rintro s524 v ⟨hG_s524, t_s524, z523, rfl, g_z523⟩
        have q525 : s524 46 3 = x1000 := (t_s524 46 3 (show 452 ∉ [2944, 3072, 3200] from by decide +kernel)).trans e_x1000.symm
        have q526 : s524 256 6 = x1001 := (t_s524 256 6 (show 4103 ∉ [2944, 3072, 3200] from by decide +kernel)).trans e_x1001.symm
        have J_s524 : J s524 := J.fl i_J t_s524 (by decide +kernel)
        have T0_s524 : T0 s524 := T0.fl i_T0 t_s524 (by decide +kernel)
        have G1_s524 : G1 s524 := G1.fl i_G1 t_s524 (by decide +kernel)
        show xe (some (N, xs)) 231 1180 [(0, .ref 2000), (1, .ref 0), (2, .ref 256), (3, vi x3)] [vi z523] s524 295 10442 _
        refine x_A k231_1180 (fun _ => rfl) ?_
        refine x_A k231_1181 (fun _ => rfl) ?_
        refine x_A k231_1182 (fun _ => rfl) ?_
        refine x_A k231_1183 (fun _ => rfl) ?_
        refine x_A k231_1184 (fun _ => rfl) ?_
        refine x_iadd k231_1185 ?_
        refine x_top (fun z527 e_z527 => ?_)
        refine x_scr k231_1186 hN ⟨by omega, by omega⟩ (fun z528 g_z528 e_z528 => ?_)
        unfold in32 at g_z528
        have q_z528 : z528 = z518 := by rw [e_z528, e_z518, show z527 = z517 by omega]
        refine x_A k231_1187 (fun _ => rfl) ?_
        refine x_A k231_1188 (fun _ => rfl) ?_
        refine x_A k231_1189 (fun _ => rfl) ?_
        refine x_iadd k231_1190 ?_
        refine x_top (fun z529 e_z529 => ?_)
        refine x_scr k231_1191 hN ⟨by omega, by omega⟩ (fun z530 g_z530 e_z530 => ?_)
        unfold in32 at g_z530
        have q_z530 : z530 = z520 := by rw [e_z530, e_z520, show z529 = z519 by omega]
        refine x_A k231_1192 (fun _ => rfl) ?_
        refine x_A k231_1193 (fun _ => rfl) ?_
        refine x_A k231_1194 (fun _ => rfl) ?_
        refine x_iadd k231_1195 ?_
        refine x_top (fun z531 e_z531 => ?_)
        refine x_scr k231_1196 hN ⟨by omega, by omega⟩ (fun z532 g_z532 e_z532 => ?_)
        unfold in32 at g_z532
        have q_z532 : z532 = z522 := by rw [e_z532, e_z522, show z531 = z521 by omega]
        refine x_callV k231_1197 (y := 216) (n := 3) (w0 := 0) (w1 := 3) (as := [vi z528, vi z530, vi z532]) (rest := []) (by decide +kernel) (q := 256) (nq := 62) (kq := 15) ⟨by decide, rfl⟩ rfl rfl rfl rfl (xe_mono (C_X11_moment_256 s524 hG_s524 z528 (by first | exact x_rbe e_z528 g_z528 rfl rfl | exact x_rb g_z528 rfl rfl | exact ⟨by omega, by omega⟩) z530 (by first | exact x_rbe e_z530 g_z530 rfl rfl | exact x_rb g_z530 rfl rfl | exact ⟨by omega, by omega⟩) z532 (by first | exact x_rbe e_z532 g_z532 rfl rfl | exact x_rb g_z532 rfl rfl | exact ⟨by omega, by omega⟩)) ?_)
        rintro s534 v ⟨hG_s534, t_s534, z533, rfl, g_z533⟩
        have q535 : s534 46 3 = x1000 := (t_s534 46 3 (show 452 ∉ [6400, 6464, 6528] from by decide +kernel)).trans q525
        have q536 : s534 256 6 = x1001 := (t_s534 256 6 (show 4103 ∉ [6400, 6464, 6528] from by decide +kernel)).trans q526
        have J_s534 : J s534 := J.fl J_s524 t_s534 (by decide +kernel)
        have T0_s534 : T0 s534 := T0.fl T0_s524 t_s534 (by decide +kernel)
        have G1_s534 : G1 s534 := G1.fl G1_s524 t_s534 (by decide +kernel)
        show xe (some (N, xs)) 231 1200 [(0, .ref 2000), (1, .ref 0), (2, .ref 256), (3, vi x3)] [vi z533] s534 295 10442 _
        refine x_A k231_1200 (fun _ => rfl) ?_
        refine x_goto k231_1201 (t := 1300) rfl ?_
        refine x_iinc k231_1300 (ls' := [(3, vi (x3 + 7)), (0, .ref 2000), (1, .ref 0), (2, .ref 256)]) rfl (by decide) rfl ?_
        refine x_goto k231_1303 (t := 18) rfl ?_
        refine x_ls (l := [(0, .ref 2000), (1, .ref 0), (2, .ref 256), (3, vi (x3 + 7))]) (show ([0, 1, 2, 3] : List Nat).Nodup from by decide +kernel) ⟨rfl, rfl, rfl, rfl, trivial⟩ ?_
        exact ih s534 (x3 + 7) x1000 x1001 hG_s534 trivial ⟨by omega, by omega⟩ (by first | exact x_rb b_x1000 rfl rfl | exact ⟨by omega, by omega⟩) (by first | exact x_rb b_x1001 rfl rfl | exact ⟨by omega, by omega⟩) (by omega) (q535).symm (q536).symm J_s534 T0_s534 G1_s534  (by omega)
      · rw [c5]
        refine x_B k231_33 rfl (fun _ => rfl) (fun _ => rfl) (fun _ _ => rfl) ?_
        show xe (some (N, xs)) 231 1204 [(0, .ref 2000), (1, .ref 0), (2, .ref 256), (3, vi x3)] [] s 295 10442 _
        refine x_A k231_1204 (fun _ => rfl) ?_
        refine x_A k231_1205 (fun _ => rfl) ?_
        refine x_A k231_1206 (fun _ => rfl) ?_
        refine x_A k231_1207 (fun _ => rfl) ?_
        refine x_iadd k231_1208 ?_
        refine x_top (fun z537 e_z537 => ?_)
        refine x_scr k231_1209 hN ⟨by omega, by omega⟩ (fun z538 g_z538 e_z538 => ?_)
        unfold in32 at g_z538
        refine x_A k231_1210 (fun _ => rfl) ?_
        refine x_A k231_1211 (fun _ => rfl) ?_
        refine x_A k231_1212 (fun _ => rfl) ?_
        refine x_iadd k231_1213 ?_
        refine x_top (fun z539 e_z539 => ?_)
        refine x_scr k231_1214 hN ⟨by omega, by omega⟩ (fun z540 g_z540 e_z540 => ?_)
        unfold in32 at g_z540
        refine x_A k231_1215 (fun _ => rfl) ?_
        refine x_A k231_1216 (fun _ => rfl) ?_
        refine x_A k231_1217 (fun _ => rfl) ?_
        refine x_iadd k231_1218 ?_
        refine x_top (fun z541 e_z541 => ?_)
        refine x_scr k231_1219 hN ⟨by omega, by omega⟩ (fun z542 g_z542 e_z542 => ?_)
        unfold in32 at g_z542
        refine x_A k231_1220 (fun _ => rfl) ?_
        refine x_A k231_1221 (fun _ => rfl) ?_
        refine x_A k231_1222 (fun _ => rfl) ?_
        refine x_iadd k231_1223 ?_
        refine x_top (fun z543 e_z543 => ?_)
        refine x_scr k231_1224 hN ⟨by omega, by omega⟩ (fun z544 g_z544 e_z544 => ?_)
        unfold in32 at g_z544
        refine x_callV k231_1225 (y := 119) (n := 4) (w0 := 0) (w1 := 4) (as := [vi z538, vi z540, vi z542, vi z544]) (rest := []) (by decide +kernel) (q := 0) (nq := 12) (kq := 3) ⟨by decide, rfl⟩ rfl rfl rfl rfl (xe_mono (C_X10_of_0 s hG i_J z538 (by first | exact x_rbe e_z538 g_z538 rfl rfl | exact x_rb g_z538 rfl rfl | exact ⟨by omega, by omega⟩) z540 (by first | exact x_rbe e_z540 g_z540 rfl rfl | exact x_rb g_z540 rfl rfl | exact ⟨by omega, by omega⟩) z542 (by first | exact x_rbe e_z542 g_z542 rfl rfl | exact x_rb g_z542 rfl rfl | exact ⟨by omega, by omega⟩) z544 (by first | exact x_rbe e_z544 g_z544 rfl rfl | exact x_rb g_z544 rfl rfl | exact ⟨by omega, by omega⟩)) ?_)
        rintro s546 v ⟨hG_s546, t_s546, z545, rfl, g_z545⟩
        have q547 : s546 46 3 = x1000 := (t_s546 46 3 (show 452 ∉ [3329, 3334, 3335, 3336, 3392, 3456, 3520, 3584, 3276, 3648, 3712, 3776, 3840, 3904, 3968, 3277, 4032] from by decide +kernel)).trans e_x1000.symm
        have q548 : s546 256 6 = x1001 := (t_s546 256 6 (show 4103 ∉ [3329, 3334, 3335, 3336, 3392, 3456, 3520, 3584, 3276, 3648, 3712, 3776, 3840, 3904, 3968, 3277, 4032] from by decide +kernel)).trans e_x1001.symm
        have J_s546 : J s546 := J.fl i_J t_s546 (by decide +kernel)
        have T0_s546 : T0 s546 := T0.fl i_T0 t_s546 (by decide +kernel)
        have G1_s546 : G1 s546 := G1.fl i_G1 t_s546 (by decide +kernel)
        show xe (some (N, xs)) 231 1228 [(0, .ref 2000), (1, .ref 0), (2, .ref 256), (3, vi x3)] [vi z545] s546 295 10442 _
        refine x_A k231_1228 (fun _ => rfl) ?_
        refine x_A k231_1229 (fun _ => rfl) ?_
        refine x_A k231_1230 (fun _ => rfl) ?_
        refine x_A k231_1231 (fun _ => rfl) ?_
        refine x_A k231_1232 (fun _ => rfl) ?_
        refine x_iadd k231_1233 ?_
        refine x_top (fun z549 e_z549 => ?_)
        refine x_scr k231_1234 hN ⟨by omega, by omega⟩ (fun z550 g_z550 e_z550 => ?_)
        unfold in32 at g_z550
        have q_z550 : z550 = z538 := by rw [e_z550, e_z538, show z549 = z537 by omega]
        refine x_A k231_1235 (fun _ => rfl) ?_
        refine x_A k231_1236 (fun _ => rfl) ?_
        refine x_A k231_1237 (fun _ => rfl) ?_
        refine x_iadd k231_1238 ?_
        refine x_top (fun z551 e_z551 => ?_)
        refine x_scr k231_1239 hN ⟨by omega, by omega⟩ (fun z552 g_z552 e_z552 => ?_)
        unfold in32 at g_z552
        have q_z552 : z552 = z540 := by rw [e_z552, e_z540, show z551 = z539 by omega]
        refine x_A k231_1240 (fun _ => rfl) ?_
        refine x_A k231_1241 (fun _ => rfl) ?_
        refine x_A k231_1242 (fun _ => rfl) ?_
        refine x_iadd k231_1243 ?_
        refine x_top (fun z553 e_z553 => ?_)
        refine x_scr k231_1244 hN ⟨by omega, by omega⟩ (fun z554 g_z554 e_z554 => ?_)
        unfold in32 at g_z554
        have q_z554 : z554 = z542 := by rw [e_z554, e_z542, show z553 = z541 by omega]
        refine x_A k231_1245 (fun _ => rfl) ?_
        refine x_A k231_1246 (fun _ => rfl) ?_
        refine x_A k231_1247 (fun _ => rfl) ?_
        refine x_iadd k231_1248 ?_
        refine x_top (fun z555 e_z555 => ?_)
        refine x_scr k231_1249 hN ⟨by omega, by omega⟩ (fun z556 g_z556 e_z556 => ?_)
        unfold in32 at g_z556
        have q_z556 : z556 = z544 := by rw [e_z556, e_z544, show z555 = z543 by omega]
        refine x_callV k231_1250 (y := 217) (n := 4) (w0 := 0) (w1 := 4) (as := [vi z550, vi z552, vi z554, vi z556]) (rest := []) (by decide +kernel) (q := 256) (nq := 62) (kq := 15) ⟨by decide, rfl⟩ rfl rfl rfl rfl (xe_mono (C_X11_of_256 s546 hG_s546 J_s546 z550 (by first | exact x_rbe e_z550 g_z550 rfl rfl | exact x_rb g_z550 rfl rfl | exact ⟨by omega, by omega⟩) z552 (by first | exact x_rbe e_z552 g_z552 rfl rfl | exact x_rb g_z552 rfl rfl | exact ⟨by omega, by omega⟩) z554 (by first | exact x_rbe e_z554 g_z554 rfl rfl | exact x_rb g_z554 rfl rfl | exact ⟨by omega, by omega⟩) z556 (by first | exact x_rbe e_z556 g_z556 rfl rfl | exact x_rb g_z556 rfl rfl | exact ⟨by omega, by omega⟩)) ?_)
        rintro s558 v ⟨hG_s558, t_s558, z557, rfl, g_z557⟩
        have q559 : s558 46 3 = x1000 := (t_s558 46 3 (show 452 ∉ [5312, 5376, 4123, 5440, 5504, 5568, 5632, 5696, 5760] from by decide +kernel)).trans q547
        have q560 : s558 256 6 = x1001 := (t_s558 256 6 (show 4103 ∉ [5312, 5376, 4123, 5440, 5504, 5568, 5632, 5696, 5760] from by decide +kernel)).trans q548
        have J_s558 : J s558 := J.fl J_s546 t_s558 (by decide +kernel)
        have T0_s558 : T0 s558 := T0.fl T0_s546 t_s558 (by decide +kernel)
        have G1_s558 : G1 s558 := G1.fl G1_s546 t_s558 (by decide +kernel)
        show xe (some (N, xs)) 231 1253 [(0, .ref 2000), (1, .ref 0), (2, .ref 256), (3, vi x3)] [vi z557] s558 295 10442 _
        refine x_A k231_1253 (fun _ => rfl) ?_
        refine x_goto k231_1254 (t := 1300) rfl ?_
        refine x_iinc k231_1300 (ls' := [(3, vi (x3 + 7)), (0, .ref 2000), (1, .ref 0), (2, .ref 256)]) rfl (by decide) rfl ?_
        refine x_goto k231_1303 (t := 18) rfl ?_
        refine x_ls (l := [(0, .ref 2000), (1, .ref 0), (2, .ref 256), (3, vi (x3 + 7))]) (show ([0, 1, 2, 3] : List Nat).Nodup from by decide +kernel) ⟨rfl, rfl, rfl, rfl, trivial⟩ ?_
        exact ih s558 (x3 + 7) x1000 x1001 hG_s558 trivial ⟨by omega, by omega⟩ (by first | exact x_rb b_x1000 rfl rfl | exact ⟨by omega, by omega⟩) (by first | exact x_rb b_x1001 rfl rfl | exact ⟨by omega, by omega⟩) (by omega) (q559).symm (q560).symm J_s558 T0_s558 G1_s558  (by omega)
      · rw [c5]
        refine x_B k231_33 rfl (fun _ => rfl) (fun _ => rfl) (fun _ _ => rfl) ?_
        show xe (some (N, xs)) 231 1257 [(0, .ref 2000), (1, .ref 0), (2, .ref 256), (3, vi x3)] [] s 295 10442 _
        refine x_A k231_1257 (fun _ => rfl) ?_
        refine x_A k231_1258 (fun _ => rfl) ?_
        refine x_A k231_1259 (fun _ => rfl) ?_
        refine x_A k231_1260 (fun _ => rfl) ?_
        refine x_iadd k231_1261 ?_
        refine x_top (fun z561 e_z561 => ?_)
        refine x_scr k231_1262 hN ⟨by omega, by omega⟩ (fun z562 g_z562 e_z562 => ?_)
        unfold in32 at g_z562
        refine x_A k231_1263 (fun _ => rfl) ?_
        refine x_A k231_1264 (fun _ => rfl) ?_
        refine x_A k231_1265 (fun _ => rfl) ?_
        refine x_iadd k231_1266 ?_
        refine x_top (fun z563 e_z563 => ?_)
        refine x_scr k231_1267 hN ⟨by omega, by omega⟩ (fun z564 g_z564 e_z564 => ?_)
        unfold in32 at g_z564
        refine x_A k231_1268 (fun _ => rfl) ?_
        refine x_A k231_1269 (fun _ => rfl) ?_
        refine x_A k231_1270 (fun _ => rfl) ?_
        refine x_iadd k231_1271 ?_
        refine x_top (fun z565 e_z565 => ?_)
        refine x_scr k231_1272 hN ⟨by omega, by omega⟩ (fun z566 g_z566 e_z566 => ?_)
        unfold in32 at g_z566
        refine x_callV k231_1273 (y := 120) (n := 3) (w0 := 0) (w1 := 3) (as := [vi z562, vi z564, vi z566]) (rest := []) (by decide +kernel) (q := 0) (nq := 12) (kq := 3) ⟨by decide, rfl⟩ rfl rfl rfl rfl (xe_mono (C_X10_split_0 s hG i_J z562 (by first | exact x_rbe e_z562 g_z562 rfl rfl | exact x_rb g_z562 rfl rfl | exact ⟨by omega, by omega⟩) z564 (by first | exact x_rbe e_z564 g_z564 rfl rfl | exact x_rb g_z564 rfl rfl | exact ⟨by omega, by omega⟩) z566 (by first | exact x_rbe e_z566 g_z566 rfl rfl | exact x_rb g_z566 rfl rfl | exact ⟨by omega, by omega⟩)) ?_)
        rintro s568 v ⟨hG_s568, t_s568, z567, rfl, g_z567⟩
        have q569 : s568 46 3 = x1000 := (t_s568 46 3 (show 452 ∉ [3329, 3334, 3335, 3336, 3392, 3456, 3520, 3584, 3276, 3648, 3712, 3776, 3840, 3904, 3968, 3277, 4032] from by decide +kernel)).trans e_x1000.symm
        have q570 : s568 256 6 = x1001 := (t_s568 256 6 (show 4103 ∉ [3329, 3334, 3335, 3336, 3392, 3456, 3520, 3584, 3276, 3648, 3712, 3776, 3840, 3904, 3968, 3277, 4032] from by decide +kernel)).trans e_x1001.symm
        have J_s568 : J s568 := J.fl i_J t_s568 (by decide +kernel)
        have T0_s568 : T0 s568 := T0.fl i_T0 t_s568 (by decide +kernel)
        have G1_s568 : G1 s568 := G1.fl i_G1 t_s568 (by decide +kernel)
        show xe (some (N, xs)) 231 1276 [(0, .ref 2000), (1, .ref 0), (2, .ref 256), (3, vi x3)] [vi z567] s568 295 10442 _
        refine x_A k231_1276 (fun _ => rfl) ?_
        refine x_A k231_1277 (fun _ => rfl) ?_
        refine x_A k231_1278 (fun _ => rfl) ?_
        refine x_A k231_1279 (fun _ => rfl) ?_
        refine x_A k231_1280 (fun _ => rfl) ?_
        refine x_iadd k231_1281 ?_
        refine x_top (fun z571 e_z571 => ?_)
        refine x_scr k231_1282 hN ⟨by omega, by omega⟩ (fun z572 g_z572 e_z572 => ?_)
        unfold in32 at g_z572
        have q_z572 : z572 = z562 := by rw [e_z572, e_z562, show z571 = z561 by omega]
        refine x_A k231_1283 (fun _ => rfl) ?_
        refine x_A k231_1284 (fun _ => rfl) ?_
        refine x_A k231_1285 (fun _ => rfl) ?_
        refine x_iadd k231_1286 ?_
        refine x_top (fun z573 e_z573 => ?_)
        refine x_scr k231_1287 hN ⟨by omega, by omega⟩ (fun z574 g_z574 e_z574 => ?_)
        unfold in32 at g_z574
        have q_z574 : z574 = z564 := by rw [e_z574, e_z564, show z573 = z563 by omega]
        refine x_A k231_1288 (fun _ => rfl) ?_
        refine x_A k231_1289 (fun _ => rfl) ?_
        refine x_A k231_1290 (fun _ => rfl) ?_
        refine x_iadd k231_1291 ?_
        refine x_top (fun z575 e_z575 => ?_)
        refine x_scr k231_1292 hN ⟨by omega, by omega⟩ (fun z576 g_z576 e_z576 => ?_)
        unfold in32 at g_z576
        have q_z576 : z576 = z566 := by rw [e_z576, e_z566, show z575 = z565 by omega]
        refine x_callV k231_1293 (y := 218) (n := 3) (w0 := 0) (w1 := 3) (as := [vi z572, vi z574, vi z576]) (rest := []) (by decide +kernel) (q := 256) (nq := 62) (kq := 15) ⟨by decide, rfl⟩ rfl rfl rfl rfl (xe_mono (C_X11_split_256 s568 hG_s568 J_s568 z572 (by first | exact x_rbe e_z572 g_z572 rfl rfl | exact x_rb g_z572 rfl rfl | exact ⟨by omega, by omega⟩) z574 (by first | exact x_rbe e_z574 g_z574 rfl rfl | exact x_rb g_z574 rfl rfl | exact ⟨by omega, by omega⟩) z576 (by first | exact x_rbe e_z576 g_z576 rfl rfl | exact x_rb g_z576 rfl rfl | exact ⟨by omega, by omega⟩)) ?_)
        rintro s578 v ⟨hG_s578, t_s578, z577, rfl, g_z577⟩
        have q579 : s578 46 3 = x1000 := (t_s578 46 3 (show 452 ∉ [5312, 5376, 4123, 5440, 5504, 5568, 5632, 5696, 5760] from by decide +kernel)).trans q569
        have q580 : s578 256 6 = x1001 := (t_s578 256 6 (show 4103 ∉ [5312, 5376, 4123, 5440, 5504, 5568, 5632, 5696, 5760] from by decide +kernel)).trans q570
        have J_s578 : J s578 := J.fl J_s568 t_s578 (by decide +kernel)
        have T0_s578 : T0 s578 := T0.fl T0_s568 t_s578 (by decide +kernel)
        have G1_s578 : G1 s578 := G1.fl G1_s568 t_s578 (by decide +kernel)
        show xe (some (N, xs)) 231 1296 [(0, .ref 2000), (1, .ref 0), (2, .ref 256), (3, vi x3)] [vi z577] s578 295 10442 _
        refine x_A k231_1296 (fun _ => rfl) ?_
        refine x_goto k231_1297 (t := 1300) rfl ?_
        refine x_iinc k231_1300 (ls' := [(3, vi (x3 + 7)), (0, .ref 2000), (1, .ref 0), (2, .ref 256)]) rfl (by decide) rfl ?_
        refine x_goto k231_1303 (t := 18) rfl ?_
        refine x_ls (l := [(0, .ref 2000), (1, .ref 0), (2, .ref 256), (3, vi (x3 + 7))]) (show ([0, 1, 2, 3] : List Nat).Nodup from by decide +kernel) ⟨rfl, rfl, rfl, rfl, trivial⟩ ?_
        exact ih s578 (x3 + 7) x1000 x1001 hG_s578 trivial ⟨by omega, by omega⟩ (by first | exact x_rb b_x1000 rfl rfl | exact ⟨by omega, by omega⟩) (by first | exact x_rb b_x1001 rfl rfl | exact ⟨by omega, by omega⟩) (by omega) (q579).symm (q580).symm J_s578 T0_s578 G1_s578  (by omega)
      · refine x_tabD k231_33 ⟨by omega, by omega⟩ c5 (t0 := 1300) rfl ?_
        refine x_iinc k231_1300 (ls' := [(3, vi (x3 + 7)), (0, .ref 2000), (1, .ref 0), (2, .ref 256)]) rfl (by decide) rfl ?_
        refine x_goto k231_1303 (t := 18) rfl ?_
        refine x_ls (l := [(0, .ref 2000), (1, .ref 0), (2, .ref 256), (3, vi (x3 + 7))]) (show ([0, 1, 2, 3] : List Nat).Nodup from by decide +kernel) ⟨rfl, rfl, rfl, rfl, trivial⟩ ?_
        exact ih s (x3 + 7) x1000 x1001 hG f ⟨by omega, by omega⟩ (by first | exact x_rb b_x1000 rfl rfl | exact ⟨by omega, by omega⟩) (by first | exact x_rb b_x1001 rfl rfl | exact ⟨by omega, by omega⟩) (by omega) (e_x1000.symm).symm (e_x1001.symm).symm i_J i_T0 i_G1  (by omega)
