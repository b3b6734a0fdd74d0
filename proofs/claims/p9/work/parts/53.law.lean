set_option maxHeartbeats 8000000 in
theorem law_loop (N : Nat) (xs : Nat → Int32) (hN : N ≤ 3584)  : ∀ (n : Nat) (s : xS) (x3 : Int) (x1000 : Int) (x1001 : Int) (x1002 : Int) (x1003 : Int) (hG : GI s) (f : True) (b_x3 : 0 ≤ x3 ∧ x3 ≤ 3584) (b_x1000 : 0 ≤ x1000 ∧ x1000 ≤ 40) (b_x1001 : 0 ≤ x1001 ∧ x1001 ≤ 40) (b_x1002 : 0 ≤ x1002 ∧ x1002 ≤ 120) (b_x1003 : 0 ≤ x1003 ∧ x1003 ≤ 120) (w_0 : x1000 = x1001) (w_1 : x1002 = x1003) (e_x1000 : x1000 = s 46 3) (e_x1001 : x1001 = s 256 6) (e_x1002 : x1002 = s 50 6) (e_x1003 : x1003 = s 256 10) (i_J : J s) (i_T0 : T0 s)  (hm : (3584 - x3) < (n : Int)), xe (some (N, xs)) 231 18 [(0, .ref 2000), (1, .ref 0), (2, .ref 256), (3, vi x3)] [] s 295 10442 (fun _ v => v = some (vi 1)) := by
  intro n
  induction n with
  | zero => intro s x3 x1000 x1001 x1002 x1003 hG f b_x3 b_x1000 b_x1001 b_x1002 b_x1003 w_0 w_1 e_x1000 e_x1001 e_x1002 e_x1003 i_J i_T0  hm; exfalso; omega
  | succ n ih =>
    intro s x3 x1000 x1001 x1002 x1003 hG f b_x3 b_x1000 b_x1001 b_x1002 b_x1003 w_0 w_1 e_x1000 e_x1001 e_x1002 e_x1003 i_J i_T0  hm
    refine x_A k231_18 (fun _ => rfl) ?_
    refine x_A k231_19 (fun _ => rfl) ?_
    refine x_slen k231_20 ?_
    refine x_bipush k231_21 (by decide +kernel) ?_
    refine x_isub k231_23 ?_
    refine x_top (fun z1 e_z1 => ?_)
    refine x_ic_gt k231_24 (t := 1306) rfl (by first | exact x_rb b_x3 rfl rfl | exact ⟨by omega, by omega⟩) (by first | exact x_rbe e_z1 g_z1 rfl rfl | exact x_rb g_z1 rfl rfl | exact ⟨by omega, by omega⟩) (fun c2 => ?_) (fun c2 => ?_)
    · skip
      refine x_A k231_1306 (fun _ => rfl) ?_
      exact x_zret k231_1307 rfl ⟨by omega, by omega⟩ rfl
    · skip
      refine x_A k231_27 (fun _ => rfl) ?_
      refine x_A k231_28 (fun _ => rfl) ?_
      refine x_scr k231_29 hN ⟨by omega, by omega⟩ (fun z3 g_z3 e_z3 => ?_)
      unfold in32 at g_z3
      refine x_bipush k231_30 (by decide +kernel) ?_
      refine x_and_mask k231_32 ⟨by omega, by omega⟩ (fun z4 g_z4 => ?_)
      have c5 : z4 = 0 ∨ z4 = 1 ∨ z4 = 2 ∨ z4 = 3 ∨ z4 = 4 ∨ z4 = 5 ∨ z4 = 6 ∨ z4 = 7 ∨ z4 = 8 ∨ z4 = 9 ∨ z4 = 10 ∨ z4 = 11 ∨ z4 = 12 ∨ z4 = 13 ∨ z4 = 14 ∨ z4 = 15 ∨ z4 = 16 ∨ z4 = 17 ∨ z4 = 18 ∨ z4 = 19 ∨ z4 = 20 ∨ z4 = 21 ∨ z4 = 22 ∨ z4 = 23 ∨ z4 = 24 ∨ z4 = 25 ∨ z4 = 26 ∨ z4 = 27 ∨ z4 = 28 ∨ z4 = 29 ∨ ¬ (0 ≤ z4 ∧ z4 ≤ 29) := by omega
      rcases c5 with c5 | c5 | c5 | c5 | c5 | c5 | c5 | c5 | c5 | c5 | c5 | c5 | c5 | c5 | c5 | c5 | c5 | c5 | c5 | c5 | c5 | c5 | c5 | c5 | c5 | c5 | c5 | c5 | c5 | c5 | c5
      · rw [c5]
        refine x_B k231_33 rfl (fun _ => rfl) (fun _ => rfl) (fun _ _ => rfl) ?_
        show xe (some (N, xs)) 231 168 [(0, .ref 2000), (1, .ref 0), (2, .ref 256), (3, vi x3)] [] s 295 10442 _
        refine x_A k231_168 (fun _ => rfl) ?_
        refine x_callV k231_169 (y := 91) (n := 0) (w0 := 0) (w1 := 0) (as := []) (rest := []) (by decide +kernel) (q := 0) (nq := 12) (kq := 3) ⟨by decide, rfl⟩ rfl rfl rfl rfl (xe_mono (C_X10_edition_0 s hG) ?_)
        rintro s7 v ⟨hG_s7, t_s7, z6, rfl, g_z6, xp_z6⟩
        have q8 : s7 46 3 = x1000 := (t_s7 46 3 (show 452 ∉ [11] from by decide +kernel)).trans e_x1000.symm
        have q9 : s7 256 6 = x1001 := (t_s7 256 6 (show 4103 ∉ [11] from by decide +kernel)).trans e_x1001.symm
        have q10 : s7 50 6 = x1002 := (t_s7 50 6 (show 711 ∉ [11] from by decide +kernel)).trans e_x1002.symm
        have q11 : s7 256 10 = x1003 := (t_s7 256 10 (show 4107 ∉ [11] from by decide +kernel)).trans e_x1003.symm
        have J_s7 : J s7 := J.fl i_J t_s7 (by decide +kernel)
        obtain ⟨z12, e_z12⟩ : ∃ z, z = s7 0 10 := ⟨_, rfl⟩
        have g_z12 : (0 : Int) ≤ s7 0 10 ∧ s7 0 10 ≤ 9 := hG_s7 0 10
        show xe (some (N, xs)) 231 172 [(0, .ref 2000), (1, .ref 0), (2, .ref 256), (3, vi x3)] [vi z6] s7 295 10442 _
        refine x_A k231_172 (fun _ => rfl) ?_
        refine x_A k231_173 (fun _ => rfl) ?_
        refine x_callV k231_174 (y := 145) (n := 0) (w0 := 0) (w1 := 0) (as := []) (rest := []) (by decide +kernel) (q := 256) (nq := 62) (kq := 15) ⟨by decide, rfl⟩ rfl rfl rfl rfl (xe_mono (D_X11_edition_256 s7 hG_s7 J_s7) ?_)
        rintro s14 v ⟨hG_s14, t_s14, z13, rfl, g_z13, xp_z13, J_s14⟩
        have q15 : s14 46 3 = x1000 := (t_s14 46 3 (show 452 ∉ [4097] from by decide +kernel)).trans q8
        have q16 : s14 256 6 = x1001 := (t_s14 256 6 (show 4103 ∉ [4097] from by decide +kernel)).trans q9
        have q17 : s14 50 6 = x1002 := (t_s14 50 6 (show 711 ∉ [4097] from by decide +kernel)).trans q10
        have q18 : s14 256 10 = x1003 := (t_s14 256 10 (show 4107 ∉ [4097] from by decide +kernel)).trans q11
        have q19 : s14 0 10 = z12 := (t_s14 0 10 (show 11 ∉ [4097] from by decide +kernel)).trans e_z12.symm
        obtain ⟨z20, e_z20⟩ : ∃ z, z = s14 256 0 := ⟨_, rfl⟩
        have g_z20 : (0 : Int) ≤ s14 256 0 ∧ s14 256 0 ≤ 9 := hG_s14 256 0
        show xe (some (N, xs)) 231 177 [(0, .ref 2000), (1, .ref 0), (2, .ref 256), (3, vi x3)] [vi z13] s14 295 10442 _
        obtain ⟨ez_s14, T0_s14⟩ := T0.ed i_T0 t_s7 t_s14 (by decide) (by decide) xp_z6 xp_z13
        refine x_A k231_177 (fun _ => rfl) ?_
        refine x_goto k231_178 (t := 1300) rfl ?_
        refine x_iinc k231_1300 (ls' := [(3, vi (x3 + 7)), (0, .ref 2000), (1, .ref 0), (2, .ref 256)]) rfl (by decide) rfl ?_
        refine x_goto k231_1303 (t := 18) rfl ?_
        refine x_ls (l := [(0, .ref 2000), (1, .ref 0), (2, .ref 256), (3, vi (x3 + 7))]) (show ([0, 1, 2, 3] : List Nat).Nodup from by decide +kernel) ⟨rfl, rfl, rfl, rfl, trivial⟩ ?_
        exact ih s14 (x3 + 7) x1000 x1001 x1002 x1003 hG_s14 trivial ⟨by omega, by omega⟩ (by first | exact x_rb b_x1000 rfl rfl | exact ⟨by omega, by omega⟩) (by first | exact x_rb b_x1001 rfl rfl | exact ⟨by omega, by omega⟩) (by first | exact x_rb b_x1002 rfl rfl | exact ⟨by omega, by omega⟩) (by first | exact x_rb b_x1003 rfl rfl | exact ⟨by omega, by omega⟩) (by omega) (by omega) (q15).symm (q16).symm (q17).symm (q18).symm J_s14 T0_s14  (by omega)
      · rw [c5]
        refine x_B k231_33 rfl (fun _ => rfl) (fun _ => rfl) (fun _ _ => rfl) ?_
        show xe (some (N, xs)) 231 181 [(0, .ref 2000), (1, .ref 0), (2, .ref 256), (3, vi x3)] [] s 295 10442 _
        refine x_A k231_181 (fun _ => rfl) ?_
        refine x_A k231_182 (fun _ => rfl) ?_
        refine x_A k231_183 (fun _ => rfl) ?_
        refine x_A k231_184 (fun _ => rfl) ?_
        refine x_iadd k231_185 ?_
        refine x_top (fun z21 e_z21 => ?_)
        refine x_scr k231_186 hN ⟨by omega, by omega⟩ (fun z22 g_z22 e_z22 => ?_)
        unfold in32 at g_z22
        obtain ⟨z23, e_z23⟩ : ∃ z, z = s 1 4 := ⟨_, rfl⟩
        have g_z23 : (1 : Int) ≤ s 1 4 ∧ s 1 4 ≤ 40 := hG 1 4
        obtain ⟨z24, e_z24⟩ : ∃ z, z = s 0 10 := ⟨_, rfl⟩
        have g_z24 : (0 : Int) ≤ s 0 10 ∧ s 0 10 ≤ 9 := hG 0 10
        refine x_callV k231_187 (y := 92) (n := 1) (w0 := 0) (w1 := 1) (as := [vi z22]) (rest := []) (by decide +kernel) (q := 0) (nq := 12) (kq := 3) ⟨by decide, rfl⟩ rfl rfl rfl rfl (xe_mono (E_X10_mark_0 s hG z22 (by first | exact x_rbe e_z22 g_z22 rfl rfl | exact x_rb g_z22 rfl rfl | exact ⟨by omega, by omega⟩) ⟨by omega, by omega⟩ ⟨by omega, by omega⟩) ?_)
        rintro s26 v ⟨hG_s26, t_s26, z25, rfl, g_z25, xp_z25⟩
        have q27 : s26 46 3 = x1000 := (t_s26 46 3 (show 452 ∉ [69, 128, 384, 3276, 3277] from by decide +kernel)).trans e_x1000.symm
        have q28 : s26 256 6 = x1001 := (t_s26 256 6 (show 4103 ∉ [69, 128, 384, 3276, 3277] from by decide +kernel)).trans e_x1001.symm
        have q29 : s26 50 6 = x1002 := (t_s26 50 6 (show 711 ∉ [69, 128, 384, 3276, 3277] from by decide +kernel)).trans e_x1002.symm
        have q30 : s26 256 10 = x1003 := (t_s26 256 10 (show 4107 ∉ [69, 128, 384, 3276, 3277] from by decide +kernel)).trans e_x1003.symm
        have q31 : s26 0 10 = z24 := (t_s26 0 10 (show 11 ∉ [69, 128, 384, 3276, 3277] from by decide +kernel)).trans e_z24.symm
        have J_s26 : J s26 := J.fl i_J t_s26 (by decide +kernel)
        obtain ⟨z32, e_z32⟩ : ∃ z, z = s26 1 4 := ⟨_, rfl⟩
        have g_z32 : (1 : Int) ≤ s26 1 4 ∧ s26 1 4 ≤ 40 := hG_s26 1 4
        show xe (some (N, xs)) 231 190 [(0, .ref 2000), (1, .ref 0), (2, .ref 256), (3, vi x3)] [vi z25] s26 295 10442 _
        refine x_A k231_190 (fun _ => rfl) ?_
        refine x_A k231_191 (fun _ => rfl) ?_
        refine x_A k231_192 (fun _ => rfl) ?_
        refine x_A k231_193 (fun _ => rfl) ?_
        refine x_A k231_194 (fun _ => rfl) ?_
        refine x_iadd k231_195 ?_
        refine x_top (fun z33 e_z33 => ?_)
        refine x_scr k231_196 hN ⟨by omega, by omega⟩ (fun z34 g_z34 e_z34 => ?_)
        unfold in32 at g_z34
        have q_z34 : z34 = z22 := by rw [e_z34, e_z22, show z33 = z21 by omega]
        obtain ⟨z35, e_z35⟩ : ∃ z, z = s26 256 1 := ⟨_, rfl⟩
        have g_z35 : (1 : Int) ≤ s26 256 1 ∧ s26 256 1 ≤ 40 := hG_s26 256 1
        obtain ⟨z36, e_z36⟩ : ∃ z, z = s26 256 0 := ⟨_, rfl⟩
        have g_z36 : (0 : Int) ≤ s26 256 0 ∧ s26 256 0 ≤ 9 := hG_s26 256 0
        refine x_callV k231_197 (y := 146) (n := 1) (w0 := 0) (w1 := 1) (as := [vi z34]) (rest := []) (by decide +kernel) (q := 256) (nq := 62) (kq := 15) ⟨by decide, rfl⟩ rfl rfl rfl rfl (xe_mono (E_X11_mark_256 s26 hG_s26 z34 (by first | exact x_rbe e_z34 g_z34 rfl rfl | exact x_rb g_z34 rfl rfl | exact ⟨by omega, by omega⟩) ⟨by omega, by omega⟩ ⟨by omega, by omega⟩ J_s26) ?_)
        rintro s38 v ⟨hG_s38, t_s38, z37, rfl, g_z37, xp_z37, J_s38⟩
        have q39 : s38 46 3 = x1000 := (t_s38 46 3 (show 452 ∉ [4098, 4160, 4224, 4288, 4352] from by decide +kernel)).trans q27
        have q40 : s38 256 6 = x1001 := (t_s38 256 6 (show 4103 ∉ [4098, 4160, 4224, 4288, 4352] from by decide +kernel)).trans q28
        have q41 : s38 50 6 = x1002 := (t_s38 50 6 (show 711 ∉ [4098, 4160, 4224, 4288, 4352] from by decide +kernel)).trans q29
        have q42 : s38 256 10 = x1003 := (t_s38 256 10 (show 4107 ∉ [4098, 4160, 4224, 4288, 4352] from by decide +kernel)).trans q30
        have q43 : s38 0 10 = z24 := (t_s38 0 10 (show 11 ∉ [4098, 4160, 4224, 4288, 4352] from by decide +kernel)).trans q31
        have q44 : s38 1 4 = z32 := (t_s38 1 4 (show 69 ∉ [4098, 4160, 4224, 4288, 4352] from by decide +kernel)).trans e_z32.symm
        have q45 : s38 256 0 = z36 := (t_s38 256 0 (show 4097 ∉ [4098, 4160, 4224, 4288, 4352] from by decide +kernel)).trans e_z36.symm
        obtain ⟨z46, e_z46⟩ : ∃ z, z = s38 256 1 := ⟨_, rfl⟩
        have g_z46 : (1 : Int) ≤ s38 256 1 ∧ s38 256 1 ≤ 40 := hG_s38 256 1
        show xe (some (N, xs)) 231 200 [(0, .ref 2000), (1, .ref 0), (2, .ref 256), (3, vi x3)] [vi z37] s38 295 10442 _
        obtain ⟨ez_s38, T0_s38⟩ := T0.mark i_T0 hG t_s26 t_s38 (by decide) (by decide) xp_z25 (by rw [← q_z34]; exact xp_z37)
        refine x_A k231_200 (fun _ => rfl) ?_
        refine x_goto k231_201 (t := 1300) rfl ?_
        refine x_iinc k231_1300 (ls' := [(3, vi (x3 + 7)), (0, .ref 2000), (1, .ref 0), (2, .ref 256)]) rfl (by decide) rfl ?_
        refine x_goto k231_1303 (t := 18) rfl ?_
        refine x_ls (l := [(0, .ref 2000), (1, .ref 0), (2, .ref 256), (3, vi (x3 + 7))]) (show ([0, 1, 2, 3] : List Nat).Nodup from by decide +kernel) ⟨rfl, rfl, rfl, rfl, trivial⟩ ?_
        exact ih s38 (x3 + 7) x1000 x1001 x1002 x1003 hG_s38 trivial ⟨by omega, by omega⟩ (by first | exact x_rb b_x1000 rfl rfl | exact ⟨by omega, by omega⟩) (by first | exact x_rb b_x1001 rfl rfl | exact ⟨by omega, by omega⟩) (by first | exact x_rb b_x1002 rfl rfl | exact ⟨by omega, by omega⟩) (by first | exact x_rb b_x1003 rfl rfl | exact ⟨by omega, by omega⟩) (by omega) (by omega) (q39).symm (q40).symm (q41).symm (q42).symm J_s38 T0_s38  (by omega)
      · rw [c5]
        refine x_B k231_33 rfl (fun _ => rfl) (fun _ => rfl) (fun _ _ => rfl) ?_
        show xe (some (N, xs)) 231 204 [(0, .ref 2000), (1, .ref 0), (2, .ref 256), (3, vi x3)] [] s 295 10442 _
        refine x_A k231_204 (fun _ => rfl) ?_
        refine x_A k231_205 (fun _ => rfl) ?_
        refine x_A k231_206 (fun _ => rfl) ?_
        refine x_A k231_207 (fun _ => rfl) ?_
        refine x_iadd k231_208 ?_
        refine x_top (fun z47 e_z47 => ?_)
        refine x_scr k231_209 hN ⟨by omega, by omega⟩ (fun z48 g_z48 e_z48 => ?_)
        unfold in32 at g_z48
        refine x_A k231_210 (fun _ => rfl) ?_
        refine x_A k231_211 (fun _ => rfl) ?_
        refine x_A k231_212 (fun _ => rfl) ?_
        refine x_iadd k231_213 ?_
        refine x_top (fun z49 e_z49 => ?_)
        refine x_scr k231_214 hN ⟨by omega, by omega⟩ (fun z50 g_z50 e_z50 => ?_)
        unfold in32 at g_z50
        refine x_callV k231_215 (y := 93) (n := 2) (w0 := 0) (w1 := 2) (as := [vi z48, vi z50]) (rest := []) (by decide +kernel) (q := 0) (nq := 12) (kq := 3) ⟨by decide, rfl⟩ rfl rfl rfl rfl (xe_mono (C_X10_move_0 s hG z48 (by first | exact x_rbe e_z48 g_z48 rfl rfl | exact x_rb g_z48 rfl rfl | exact ⟨by omega, by omega⟩) z50 (by first | exact x_rbe e_z50 g_z50 rfl rfl | exact x_rb g_z50 rfl rfl | exact ⟨by omega, by omega⟩)) ?_)
        rintro s52 v ⟨hG_s52, t_s52, z51, rfl, g_z51⟩
        have q53 : s52 46 3 = x1000 := (t_s52 46 3 (show 452 ∉ [384, 3276, 3277] from by decide +kernel)).trans e_x1000.symm
        have q54 : s52 256 6 = x1001 := (t_s52 256 6 (show 4103 ∉ [384, 3276, 3277] from by decide +kernel)).trans e_x1001.symm
        have q55 : s52 50 6 = x1002 := (t_s52 50 6 (show 711 ∉ [384, 3276, 3277] from by decide +kernel)).trans e_x1002.symm
        have q56 : s52 256 10 = x1003 := (t_s52 256 10 (show 4107 ∉ [384, 3276, 3277] from by decide +kernel)).trans e_x1003.symm
        have J_s52 : J s52 := J.fl i_J t_s52 (by decide +kernel)
        have T0_s52 : T0 s52 := T0.fl i_T0 t_s52 (by decide +kernel)
        show xe (some (N, xs)) 231 218 [(0, .ref 2000), (1, .ref 0), (2, .ref 256), (3, vi x3)] [vi z51] s52 295 10442 _
        refine x_A k231_218 (fun _ => rfl) ?_
        refine x_A k231_219 (fun _ => rfl) ?_
        refine x_A k231_220 (fun _ => rfl) ?_
        refine x_A k231_221 (fun _ => rfl) ?_
        refine x_A k231_222 (fun _ => rfl) ?_
        refine x_iadd k231_223 ?_
        refine x_top (fun z57 e_z57 => ?_)
        refine x_scr k231_224 hN ⟨by omega, by omega⟩ (fun z58 g_z58 e_z58 => ?_)
        unfold in32 at g_z58
        have q_z58 : z58 = z48 := by rw [e_z58, e_z48, show z57 = z47 by omega]
        refine x_A k231_225 (fun _ => rfl) ?_
        refine x_A k231_226 (fun _ => rfl) ?_
        refine x_A k231_227 (fun _ => rfl) ?_
        refine x_iadd k231_228 ?_
        refine x_top (fun z59 e_z59 => ?_)
        refine x_scr k231_229 hN ⟨by omega, by omega⟩ (fun z60 g_z60 e_z60 => ?_)
        unfold in32 at g_z60
        have q_z60 : z60 = z50 := by rw [e_z60, e_z50, show z59 = z49 by omega]
        refine x_callV k231_230 (y := 147) (n := 2) (w0 := 0) (w1 := 2) (as := [vi z58, vi z60]) (rest := []) (by decide +kernel) (q := 256) (nq := 62) (kq := 15) ⟨by decide, rfl⟩ rfl rfl rfl rfl (xe_mono (D_X11_move_256 s52 hG_s52 z58 (by first | exact x_rbe e_z58 g_z58 rfl rfl | exact x_rb g_z58 rfl rfl | exact ⟨by omega, by omega⟩) z60 (by first | exact x_rbe e_z60 g_z60 rfl rfl | exact x_rb g_z60 rfl rfl | exact ⟨by omega, by omega⟩) J_s52) ?_)
        rintro s62 v ⟨hG_s62, t_s62, z61, rfl, g_z61, J_s62⟩
        have q63 : s62 46 3 = x1000 := (t_s62 46 3 (show 452 ∉ [4352] from by decide +kernel)).trans q53
        have q64 : s62 256 6 = x1001 := (t_s62 256 6 (show 4103 ∉ [4352] from by decide +kernel)).trans q54
        have q65 : s62 50 6 = x1002 := (t_s62 50 6 (show 711 ∉ [4352] from by decide +kernel)).trans q55
        have q66 : s62 256 10 = x1003 := (t_s62 256 10 (show 4107 ∉ [4352] from by decide +kernel)).trans q56
        have T0_s62 : T0 s62 := T0.fl T0_s52 t_s62 (by decide +kernel)
        show xe (some (N, xs)) 231 233 [(0, .ref 2000), (1, .ref 0), (2, .ref 256), (3, vi x3)] [vi z61] s62 295 10442 _
        refine x_A k231_233 (fun _ => rfl) ?_
        refine x_goto k231_234 (t := 1300) rfl ?_
        refine x_iinc k231_1300 (ls' := [(3, vi (x3 + 7)), (0, .ref 2000), (1, .ref 0), (2, .ref 256)]) rfl (by decide) rfl ?_
        refine x_goto k231_1303 (t := 18) rfl ?_
        refine x_ls (l := [(0, .ref 2000), (1, .ref 0), (2, .ref 256), (3, vi (x3 + 7))]) (show ([0, 1, 2, 3] : List Nat).Nodup from by decide +kernel) ⟨rfl, rfl, rfl, rfl, trivial⟩ ?_
        exact ih s62 (x3 + 7) x1000 x1001 x1002 x1003 hG_s62 trivial ⟨by omega, by omega⟩ (by first | exact x_rb b_x1000 rfl rfl | exact ⟨by omega, by omega⟩) (by first | exact x_rb b_x1001 rfl rfl | exact ⟨by omega, by omega⟩) (by first | exact x_rb b_x1002 rfl rfl | exact ⟨by omega, by omega⟩) (by first | exact x_rb b_x1003 rfl rfl | exact ⟨by omega, by omega⟩) (by omega) (by omega) (q63).symm (q64).symm (q65).symm (q66).symm J_s62 T0_s62  (by omega)
      · rw [c5]
        refine x_B k231_33 rfl (fun _ => rfl) (fun _ => rfl) (fun _ _ => rfl) ?_
        show xe (some (N, xs)) 231 237 [(0, .ref 2000), (1, .ref 0), (2, .ref 256), (3, vi x3)] [] s 295 10442 _
        refine x_A k231_237 (fun _ => rfl) ?_
        refine x_A k231_238 (fun _ => rfl) ?_
        refine x_A k231_239 (fun _ => rfl) ?_
        refine x_A k231_240 (fun _ => rfl) ?_
        refine x_iadd k231_241 ?_
        refine x_top (fun z67 e_z67 => ?_)
        refine x_scr k231_242 hN ⟨by omega, by omega⟩ (fun z68 g_z68 e_z68 => ?_)
        unfold in32 at g_z68
        refine x_A k231_243 (fun _ => rfl) ?_
        refine x_A k231_244 (fun _ => rfl) ?_
        refine x_A k231_245 (fun _ => rfl) ?_
        refine x_iadd k231_246 ?_
        refine x_top (fun z69 e_z69 => ?_)
        refine x_scr k231_247 hN ⟨by omega, by omega⟩ (fun z70 g_z70 e_z70 => ?_)
        unfold in32 at g_z70
        obtain ⟨z71, e_z71⟩ : ∃ z, z = s 1 4 := ⟨_, rfl⟩
        have g_z71 : (1 : Int) ≤ s 1 4 ∧ s 1 4 ≤ 40 := hG 1 4
        obtain ⟨z72, e_z72⟩ : ∃ z, z = s 0 10 := ⟨_, rfl⟩
        have g_z72 : (0 : Int) ≤ s 0 10 ∧ s 0 10 ≤ 9 := hG 0 10
        refine x_callV k231_248 (y := 94) (n := 2) (w0 := 0) (w1 := 2) (as := [vi z68, vi z70]) (rest := []) (by decide +kernel) (q := 0) (nq := 12) (kq := 3) ⟨by decide, rfl⟩ rfl rfl rfl rfl (xe_mono (E_X10_end_0 s hG z68 (by first | exact x_rbe e_z68 g_z68 rfl rfl | exact x_rb g_z68 rfl rfl | exact ⟨by omega, by omega⟩) z70 (by first | exact x_rbe e_z70 g_z70 rfl rfl | exact x_rb g_z70 rfl rfl | exact ⟨by omega, by omega⟩) ⟨by omega, by omega⟩ ⟨by omega, by omega⟩) ?_)
        rintro s74 v ⟨hG_s74, t_s74, z73, rfl, g_z73, xp_z73⟩
        have q75 : s74 46 3 = x1000 := (t_s74 46 3 (show 452 ∉ [192, 256, 3276, 3277] from by decide +kernel)).trans e_x1000.symm
        have q76 : s74 256 6 = x1001 := (t_s74 256 6 (show 4103 ∉ [192, 256, 3276, 3277] from by decide +kernel)).trans e_x1001.symm
        have q77 : s74 50 6 = x1002 := (t_s74 50 6 (show 711 ∉ [192, 256, 3276, 3277] from by decide +kernel)).trans e_x1002.symm
        have q78 : s74 256 10 = x1003 := (t_s74 256 10 (show 4107 ∉ [192, 256, 3276, 3277] from by decide +kernel)).trans e_x1003.symm
        have q79 : s74 1 4 = z71 := (t_s74 1 4 (show 69 ∉ [192, 256, 3276, 3277] from by decide +kernel)).trans e_z71.symm
        have q80 : s74 0 10 = z72 := (t_s74 0 10 (show 11 ∉ [192, 256, 3276, 3277] from by decide +kernel)).trans e_z72.symm
        have J_s74 : J s74 := J.fl i_J t_s74 (by decide +kernel)
        show xe (some (N, xs)) 231 251 [(0, .ref 2000), (1, .ref 0), (2, .ref 256), (3, vi x3)] [vi z73] s74 295 10442 _
        refine x_A k231_251 (fun _ => rfl) ?_
        refine x_A k231_252 (fun _ => rfl) ?_
        refine x_A k231_253 (fun _ => rfl) ?_
        refine x_A k231_254 (fun _ => rfl) ?_
        refine x_A k231_255 (fun _ => rfl) ?_
        refine x_iadd k231_256 ?_
        refine x_top (fun z81 e_z81 => ?_)
        refine x_scr k231_257 hN ⟨by omega, by omega⟩ (fun z82 g_z82 e_z82 => ?_)
        unfold in32 at g_z82
        have q_z82 : z82 = z68 := by rw [e_z82, e_z68, show z81 = z67 by omega]
        refine x_A k231_258 (fun _ => rfl) ?_
        refine x_A k231_259 (fun _ => rfl) ?_
        refine x_A k231_260 (fun _ => rfl) ?_
        refine x_iadd k231_261 ?_
        refine x_top (fun z83 e_z83 => ?_)
        refine x_scr k231_262 hN ⟨by omega, by omega⟩ (fun z84 g_z84 e_z84 => ?_)
        unfold in32 at g_z84
        have q_z84 : z84 = z70 := by rw [e_z84, e_z70, show z83 = z69 by omega]
        obtain ⟨z85, e_z85⟩ : ∃ z, z = s74 256 1 := ⟨_, rfl⟩
        have g_z85 : (1 : Int) ≤ s74 256 1 ∧ s74 256 1 ≤ 40 := hG_s74 256 1
        obtain ⟨z86, e_z86⟩ : ∃ z, z = s74 256 0 := ⟨_, rfl⟩
        have g_z86 : (0 : Int) ≤ s74 256 0 ∧ s74 256 0 ≤ 9 := hG_s74 256 0
        refine x_callV k231_263 (y := 148) (n := 2) (w0 := 0) (w1 := 2) (as := [vi z82, vi z84]) (rest := []) (by decide +kernel) (q := 256) (nq := 62) (kq := 15) ⟨by decide, rfl⟩ rfl rfl rfl rfl (xe_mono (E_X11_end_256 s74 hG_s74 z82 (by first | exact x_rbe e_z82 g_z82 rfl rfl | exact x_rb g_z82 rfl rfl | exact ⟨by omega, by omega⟩) z84 (by first | exact x_rbe e_z84 g_z84 rfl rfl | exact x_rb g_z84 rfl rfl | exact ⟨by omega, by omega⟩) ⟨by omega, by omega⟩ ⟨by omega, by omega⟩ J_s74) ?_)
        rintro s88 v ⟨hG_s88, t_s88, z87, rfl, g_z87, xp_z87, J_s88⟩
        have q89 : s88 46 3 = x1000 := (t_s88 46 3 (show 452 ∉ [4224, 4288] from by decide +kernel)).trans q75
        have q90 : s88 256 6 = x1001 := (t_s88 256 6 (show 4103 ∉ [4224, 4288] from by decide +kernel)).trans q76
        have q91 : s88 50 6 = x1002 := (t_s88 50 6 (show 711 ∉ [4224, 4288] from by decide +kernel)).trans q77
        have q92 : s88 256 10 = x1003 := (t_s88 256 10 (show 4107 ∉ [4224, 4288] from by decide +kernel)).trans q78
        have q93 : s88 1 4 = z71 := (t_s88 1 4 (show 69 ∉ [4224, 4288] from by decide +kernel)).trans q79
        have q94 : s88 0 10 = z72 := (t_s88 0 10 (show 11 ∉ [4224, 4288] from by decide +kernel)).trans q80
        have q95 : s88 256 1 = z85 := (t_s88 256 1 (show 4098 ∉ [4224, 4288] from by decide +kernel)).trans e_z85.symm
        have q96 : s88 256 0 = z86 := (t_s88 256 0 (show 4097 ∉ [4224, 4288] from by decide +kernel)).trans e_z86.symm
        show xe (some (N, xs)) 231 266 [(0, .ref 2000), (1, .ref 0), (2, .ref 256), (3, vi x3)] [vi z87] s88 295 10442 _
        have T0_s88 := T0.end i_T0 hG t_s74 t_s88 (by decide) (by decide) xp_z73 (by rw [← q_z82, ← q_z84]; exact xp_z87)
        refine x_A k231_266 (fun _ => rfl) ?_
        refine x_goto k231_267 (t := 1300) rfl ?_
        refine x_iinc k231_1300 (ls' := [(3, vi (x3 + 7)), (0, .ref 2000), (1, .ref 0), (2, .ref 256)]) rfl (by decide) rfl ?_
        refine x_goto k231_1303 (t := 18) rfl ?_
        refine x_ls (l := [(0, .ref 2000), (1, .ref 0), (2, .ref 256), (3, vi (x3 + 7))]) (show ([0, 1, 2, 3] : List Nat).Nodup from by decide +kernel) ⟨rfl, rfl, rfl, rfl, trivial⟩ ?_
        exact ih s88 (x3 + 7) x1000 x1001 x1002 x1003 hG_s88 trivial ⟨by omega, by omega⟩ (by first | exact x_rb b_x1000 rfl rfl | exact ⟨by omega, by omega⟩) (by first | exact x_rb b_x1001 rfl rfl | exact ⟨by omega, by omega⟩) (by first | exact x_rb b_x1002 rfl rfl | exact ⟨by omega, by omega⟩) (by first | exact x_rb b_x1003 rfl rfl | exact ⟨by omega, by omega⟩) (by omega) (by omega) (q89).symm (q90).symm (q91).symm (q92).symm J_s88 T0_s88  (by omega)
      · rw [c5]
        refine x_B k231_33 rfl (fun _ => rfl) (fun _ => rfl) (fun _ _ => rfl) ?_
        show xe (some (N, xs)) 231 270 [(0, .ref 2000), (1, .ref 0), (2, .ref 256), (3, vi x3)] [] s 295 10442 _
        refine x_A k231_270 (fun _ => rfl) ?_
        refine x_A k231_271 (fun _ => rfl) ?_
        refine x_A k231_272 (fun _ => rfl) ?_
        refine x_A k231_273 (fun _ => rfl) ?_
        refine x_iadd k231_274 ?_
        refine x_top (fun z97 e_z97 => ?_)
        refine x_scr k231_275 hN ⟨by omega, by omega⟩ (fun z98 g_z98 e_z98 => ?_)
        unfold in32 at g_z98
        refine x_A k231_276 (fun _ => rfl) ?_
        refine x_A k231_277 (fun _ => rfl) ?_
        refine x_A k231_278 (fun _ => rfl) ?_
        refine x_iadd k231_279 ?_
        refine x_top (fun z99 e_z99 => ?_)
        refine x_scr k231_280 hN ⟨by omega, by omega⟩ (fun z100 g_z100 e_z100 => ?_)
        unfold in32 at g_z100
        refine x_A k231_281 (fun _ => rfl) ?_
        refine x_A k231_282 (fun _ => rfl) ?_
        refine x_A k231_283 (fun _ => rfl) ?_
        refine x_iadd k231_284 ?_
        refine x_top (fun z101 e_z101 => ?_)
        refine x_scr k231_285 hN ⟨by omega, by omega⟩ (fun z102 g_z102 e_z102 => ?_)
        unfold in32 at g_z102
        refine x_callV k231_286 (y := 95) (n := 3) (w0 := 0) (w1 := 3) (as := [vi z98, vi z100, vi z102]) (rest := []) (by decide +kernel) (q := 0) (nq := 12) (kq := 3) ⟨by decide, rfl⟩ rfl rfl rfl rfl (xe_mono (C_X10_tree_0 s hG i_J z98 (by first | exact x_rbe e_z98 g_z98 rfl rfl | exact x_rb g_z98 rfl rfl | exact ⟨by omega, by omega⟩) z100 (by first | exact x_rbe e_z100 g_z100 rfl rfl | exact x_rb g_z100 rfl rfl | exact ⟨by omega, by omega⟩) z102 (by first | exact x_rbe e_z102 g_z102 rfl rfl | exact x_rb g_z102 rfl rfl | exact ⟨by omega, by omega⟩)) ?_)
        rintro s104 v ⟨hG_s104, t_s104, z103, rfl, g_z103⟩
        have q105 : s104 46 3 = x1000 := (t_s104 46 3 (show 452 ∉ [3329, 3334, 3335, 3336, 3392, 3456, 3520, 3584, 3276, 3648, 3712, 3776, 3840, 3904, 3968, 3277, 4032] from by decide +kernel)).trans e_x1000.symm
        have q106 : s104 256 6 = x1001 := (t_s104 256 6 (show 4103 ∉ [3329, 3334, 3335, 3336, 3392, 3456, 3520, 3584, 3276, 3648, 3712, 3776, 3840, 3904, 3968, 3277, 4032] from by decide +kernel)).trans e_x1001.symm
        have q107 : s104 50 6 = x1002 := (t_s104 50 6 (show 711 ∉ [3329, 3334, 3335, 3336, 3392, 3456, 3520, 3584, 3276, 3648, 3712, 3776, 3840, 3904, 3968, 3277, 4032] from by decide +kernel)).trans e_x1002.symm
        have q108 : s104 256 10 = x1003 := (t_s104 256 10 (show 4107 ∉ [3329, 3334, 3335, 3336, 3392, 3456, 3520, 3584, 3276, 3648, 3712, 3776, 3840, 3904, 3968, 3277, 4032] from by decide +kernel)).trans e_x1003.symm
        have J_s104 : J s104 := J.fl i_J t_s104 (by decide +kernel)
        have T0_s104 : T0 s104 := T0.fl i_T0 t_s104 (by decide +kernel)
        show xe (some (N, xs)) 231 289 [(0, .ref 2000), (1, .ref 0), (2, .ref 256), (3, vi x3)] [vi z103] s104 295 10442 _
        refine x_A k231_289 (fun _ => rfl) ?_
        refine x_A k231_290 (fun _ => rfl) ?_
        refine x_A k231_291 (fun _ => rfl) ?_
        refine x_A k231_292 (fun _ => rfl) ?_
        refine x_A k231_293 (fun _ => rfl) ?_
        refine x_iadd k231_294 ?_
        refine x_top (fun z109 e_z109 => ?_)
        refine x_scr k231_295 hN ⟨by omega, by omega⟩ (fun z110 g_z110 e_z110 => ?_)
        unfold in32 at g_z110
        have q_z110 : z110 = z98 := by rw [e_z110, e_z98, show z109 = z97 by omega]
        refine x_A k231_296 (fun _ => rfl) ?_
        refine x_A k231_297 (fun _ => rfl) ?_
        refine x_A k231_298 (fun _ => rfl) ?_
        refine x_iadd k231_299 ?_
        refine x_top (fun z111 e_z111 => ?_)
        refine x_scr k231_300 hN ⟨by omega, by omega⟩ (fun z112 g_z112 e_z112 => ?_)
        unfold in32 at g_z112
        have q_z112 : z112 = z100 := by rw [e_z112, e_z100, show z111 = z99 by omega]
        refine x_A k231_301 (fun _ => rfl) ?_
        refine x_A k231_302 (fun _ => rfl) ?_
        refine x_A k231_303 (fun _ => rfl) ?_
        refine x_iadd k231_304 ?_
        refine x_top (fun z113 e_z113 => ?_)
        refine x_scr k231_305 hN ⟨by omega, by omega⟩ (fun z114 g_z114 e_z114 => ?_)
        unfold in32 at g_z114
        have q_z114 : z114 = z102 := by rw [e_z114, e_z102, show z113 = z101 by omega]
        refine x_callV k231_306 (y := 149) (n := 3) (w0 := 0) (w1 := 3) (as := [vi z110, vi z112, vi z114]) (rest := []) (by decide +kernel) (q := 256) (nq := 62) (kq := 15) ⟨by decide, rfl⟩ rfl rfl rfl rfl (xe_mono (C_X11_tree_256 s104 hG_s104 J_s104 z110 (by first | exact x_rbe e_z110 g_z110 rfl rfl | exact x_rb g_z110 rfl rfl | exact ⟨by omega, by omega⟩) z112 (by first | exact x_rbe e_z112 g_z112 rfl rfl | exact x_rb g_z112 rfl rfl | exact ⟨by omega, by omega⟩) z114 (by first | exact x_rbe e_z114 g_z114 rfl rfl | exact x_rb g_z114 rfl rfl | exact ⟨by omega, by omega⟩)) ?_)
        rintro s116 v ⟨hG_s116, t_s116, z115, rfl, g_z115⟩
        have q117 : s116 46 3 = x1000 := (t_s116 46 3 (show 452 ∉ [5312, 5376, 4123, 5440, 5504, 5568, 5632, 5696, 5760] from by decide +kernel)).trans q105
        have q118 : s116 256 6 = x1001 := (t_s116 256 6 (show 4103 ∉ [5312, 5376, 4123, 5440, 5504, 5568, 5632, 5696, 5760] from by decide +kernel)).trans q106
        have q119 : s116 50 6 = x1002 := (t_s116 50 6 (show 711 ∉ [5312, 5376, 4123, 5440, 5504, 5568, 5632, 5696, 5760] from by decide +kernel)).trans q107
        have q120 : s116 256 10 = x1003 := (t_s116 256 10 (show 4107 ∉ [5312, 5376, 4123, 5440, 5504, 5568, 5632, 5696, 5760] from by decide +kernel)).trans q108
        have J_s116 : J s116 := J.fl J_s104 t_s116 (by decide +kernel)
        have T0_s116 : T0 s116 := T0.fl T0_s104 t_s116 (by decide +kernel)
        show xe (some (N, xs)) 231 309 [(0, .ref 2000), (1, .ref 0), (2, .ref 256), (3, vi x3)] [vi z115] s116 295 10442 _
        refine x_A k231_309 (fun _ => rfl) ?_
        refine x_goto k231_310 (t := 1300) rfl ?_
        refine x_iinc k231_1300 (ls' := [(3, vi (x3 + 7)), (0, .ref 2000), (1, .ref 0), (2, .ref 256)]) rfl (by decide) rfl ?_
        refine x_goto k231_1303 (t := 18) rfl ?_
        refine x_ls (l := [(0, .ref 2000), (1, .ref 0), (2, .ref 256), (3, vi (x3 + 7))]) (show ([0, 1, 2, 3] : List Nat).Nodup from by decide +kernel) ⟨rfl, rfl, rfl, rfl, trivial⟩ ?_
        exact ih s116 (x3 + 7) x1000 x1001 x1002 x1003 hG_s116 trivial ⟨by omega, by omega⟩ (by first | exact x_rb b_x1000 rfl rfl | exact ⟨by omega, by omega⟩) (by first | exact x_rb b_x1001 rfl rfl | exact ⟨by omega, by omega⟩) (by first | exact x_rb b_x1002 rfl rfl | exact ⟨by omega, by omega⟩) (by first | exact x_rb b_x1003 rfl rfl | exact ⟨by omega, by omega⟩) (by omega) (by omega) (q117).symm (q118).symm (q119).symm (q120).symm J_s116 T0_s116  (by omega)
      · rw [c5]
        refine x_B k231_33 rfl (fun _ => rfl) (fun _ => rfl) (fun _ _ => rfl) ?_
        show xe (some (N, xs)) 231 313 [(0, .ref 2000), (1, .ref 0), (2, .ref 256), (3, vi x3)] [] s 295 10442 _
        refine x_A k231_313 (fun _ => rfl) ?_
        refine x_A k231_314 (fun _ => rfl) ?_
        refine x_A k231_315 (fun _ => rfl) ?_
        refine x_A k231_316 (fun _ => rfl) ?_
        refine x_iadd k231_317 ?_
        refine x_top (fun z121 e_z121 => ?_)
        refine x_scr k231_318 hN ⟨by omega, by omega⟩ (fun z122 g_z122 e_z122 => ?_)
        unfold in32 at g_z122
        refine x_A k231_319 (fun _ => rfl) ?_
        refine x_A k231_320 (fun _ => rfl) ?_
        refine x_A k231_321 (fun _ => rfl) ?_
        refine x_iadd k231_322 ?_
        refine x_top (fun z123 e_z123 => ?_)
        refine x_scr k231_323 hN ⟨by omega, by omega⟩ (fun z124 g_z124 e_z124 => ?_)
        unfold in32 at g_z124
        refine x_A k231_324 (fun _ => rfl) ?_
        refine x_A k231_325 (fun _ => rfl) ?_
        refine x_A k231_326 (fun _ => rfl) ?_
        refine x_iadd k231_327 ?_
        refine x_top (fun z125 e_z125 => ?_)
        refine x_scr k231_328 hN ⟨by omega, by omega⟩ (fun z126 g_z126 e_z126 => ?_)
        unfold in32 at g_z126
        refine x_callV k231_329 (y := 96) (n := 3) (w0 := 0) (w1 := 3) (as := [vi z122, vi z124, vi z126]) (rest := []) (by decide +kernel) (q := 0) (nq := 12) (kq := 3) ⟨by decide, rfl⟩ rfl rfl rfl rfl (xe_mono (C_X10_below_0 s hG z122 (by first | exact x_rbe e_z122 g_z122 rfl rfl | exact x_rb g_z122 rfl rfl | exact ⟨by omega, by omega⟩) z124 (by first | exact x_rbe e_z124 g_z124 rfl rfl | exact x_rb g_z124 rfl rfl | exact ⟨by omega, by omega⟩) z126 (by first | exact x_rbe e_z126 g_z126 rfl rfl | exact x_rb g_z126 rfl rfl | exact ⟨by omega, by omega⟩)) ?_)
        rintro s128 v ⟨-, t_s128, z127, rfl, g_z127⟩
        rw [t_s128.nil]
        show xe (some (N, xs)) 231 332 [(0, .ref 2000), (1, .ref 0), (2, .ref 256), (3, vi x3)] [vi z127] s 295 10442 _
        refine x_A k231_332 (fun _ => rfl) ?_
        refine x_A k231_333 (fun _ => rfl) ?_
        refine x_A k231_334 (fun _ => rfl) ?_
        refine x_A k231_335 (fun _ => rfl) ?_
        refine x_A k231_336 (fun _ => rfl) ?_
        refine x_iadd k231_337 ?_
        refine x_top (fun z129 e_z129 => ?_)
        refine x_scr k231_338 hN ⟨by omega, by omega⟩ (fun z130 g_z130 e_z130 => ?_)
        unfold in32 at g_z130
        have q_z130 : z130 = z122 := by rw [e_z130, e_z122, show z129 = z121 by omega]
        refine x_A k231_339 (fun _ => rfl) ?_
        refine x_A k231_340 (fun _ => rfl) ?_
        refine x_A k231_341 (fun _ => rfl) ?_
        refine x_iadd k231_342 ?_
        refine x_top (fun z131 e_z131 => ?_)
        refine x_scr k231_343 hN ⟨by omega, by omega⟩ (fun z132 g_z132 e_z132 => ?_)
        unfold in32 at g_z132
        have q_z132 : z132 = z124 := by rw [e_z132, e_z124, show z131 = z123 by omega]
        refine x_A k231_344 (fun _ => rfl) ?_
        refine x_A k231_345 (fun _ => rfl) ?_
        refine x_A k231_346 (fun _ => rfl) ?_
        refine x_iadd k231_347 ?_
        refine x_top (fun z133 e_z133 => ?_)
        refine x_scr k231_348 hN ⟨by omega, by omega⟩ (fun z134 g_z134 e_z134 => ?_)
        unfold in32 at g_z134
        have q_z134 : z134 = z126 := by rw [e_z134, e_z126, show z133 = z125 by omega]
        refine x_callV k231_349 (y := 150) (n := 3) (w0 := 0) (w1 := 3) (as := [vi z130, vi z132, vi z134]) (rest := []) (by decide +kernel) (q := 256) (nq := 62) (kq := 15) ⟨by decide, rfl⟩ rfl rfl rfl rfl (xe_mono (C_X11_below_256 s hG i_J z130 (by first | exact x_rbe e_z130 g_z130 rfl rfl | exact x_rb g_z130 rfl rfl | exact ⟨by omega, by omega⟩) z132 (by first | exact x_rbe e_z132 g_z132 rfl rfl | exact x_rb g_z132 rfl rfl | exact ⟨by omega, by omega⟩) z134 (by first | exact x_rbe e_z134 g_z134 rfl rfl | exact x_rb g_z134 rfl rfl | exact ⟨by omega, by omega⟩)) ?_)
        rintro s136 v ⟨-, t_s136, z135, rfl, g_z135⟩
        rw [t_s136.nil]
        show xe (some (N, xs)) 231 352 [(0, .ref 2000), (1, .ref 0), (2, .ref 256), (3, vi x3)] [vi z135] s 295 10442 _
        refine x_A k231_352 (fun _ => rfl) ?_
        refine x_goto k231_353 (t := 1300) rfl ?_
        refine x_iinc k231_1300 (ls' := [(3, vi (x3 + 7)), (0, .ref 2000), (1, .ref 0), (2, .ref 256)]) rfl (by decide) rfl ?_
        refine x_goto k231_1303 (t := 18) rfl ?_
        refine x_ls (l := [(0, .ref 2000), (1, .ref 0), (2, .ref 256), (3, vi (x3 + 7))]) (show ([0, 1, 2, 3] : List Nat).Nodup from by decide +kernel) ⟨rfl, rfl, rfl, rfl, trivial⟩ ?_
        exact ih s (x3 + 7) x1000 x1001 x1002 x1003 hG f ⟨by omega, by omega⟩ (by first | exact x_rb b_x1000 rfl rfl | exact ⟨by omega, by omega⟩) (by first | exact x_rb b_x1001 rfl rfl | exact ⟨by omega, by omega⟩) (by first | exact x_rb b_x1002 rfl rfl | exact ⟨by omega, by omega⟩) (by first | exact x_rb b_x1003 rfl rfl | exact ⟨by omega, by omega⟩) (by omega) (by omega) (e_x1000.symm).symm (e_x1001.symm).symm (e_x1002.symm).symm (e_x1003.symm).symm i_J i_T0  (by omega)
      · rw [c5]
        refine x_B k231_33 rfl (fun _ => rfl) (fun _ => rfl) (fun _ _ => rfl) ?_
        show xe (some (N, xs)) 231 356 [(0, .ref 2000), (1, .ref 0), (2, .ref 256), (3, vi x3)] [] s 295 10442 _
        refine x_A k231_356 (fun _ => rfl) ?_
        refine x_A k231_357 (fun _ => rfl) ?_
        refine x_A k231_358 (fun _ => rfl) ?_
        refine x_A k231_359 (fun _ => rfl) ?_
        refine x_iadd k231_360 ?_
        refine x_top (fun z137 e_z137 => ?_)
        refine x_scr k231_361 hN ⟨by omega, by omega⟩ (fun z138 g_z138 e_z138 => ?_)
        unfold in32 at g_z138
        refine x_A k231_362 (fun _ => rfl) ?_
        refine x_A k231_363 (fun _ => rfl) ?_
        refine x_A k231_364 (fun _ => rfl) ?_
        refine x_iadd k231_365 ?_
        refine x_top (fun z139 e_z139 => ?_)
        refine x_scr k231_366 hN ⟨by omega, by omega⟩ (fun z140 g_z140 e_z140 => ?_)
        unfold in32 at g_z140
        refine x_A k231_367 (fun _ => rfl) ?_
        refine x_A k231_368 (fun _ => rfl) ?_
        refine x_A k231_369 (fun _ => rfl) ?_
        refine x_iadd k231_370 ?_
        refine x_top (fun z141 e_z141 => ?_)
        refine x_scr k231_371 hN ⟨by omega, by omega⟩ (fun z142 g_z142 e_z142 => ?_)
        unfold in32 at g_z142
        refine x_callV k231_372 (y := 97) (n := 3) (w0 := 0) (w1 := 3) (as := [vi z138, vi z140, vi z142]) (rest := []) (by decide +kernel) (q := 0) (nq := 12) (kq := 3) ⟨by decide, rfl⟩ rfl rfl rfl rfl (xe_mono (E_X10_picture_0 s hG z138 (by first | exact x_rbe e_z138 g_z138 rfl rfl | exact x_rb g_z138 rfl rfl | exact ⟨by omega, by omega⟩) z140 (by first | exact x_rbe e_z140 g_z140 rfl rfl | exact x_rb g_z140 rfl rfl | exact ⟨by omega, by omega⟩) z142 (by first | exact x_rbe e_z142 g_z142 rfl rfl | exact x_rb g_z142 rfl rfl | exact ⟨by omega, by omega⟩) ⟨by omega, by omega⟩) ?_)
        rintro s144 v ⟨hG_s144, t_s144, z143, rfl, g_z143, xp_z143⟩
        have q145 : s144 256 6 = x1001 := (t_s144 256 6 (show 4103 ∉ [452, 512, 576, 640] from by decide +kernel)).trans e_x1001.symm
        have q146 : s144 50 6 = x1002 := (t_s144 50 6 (show 711 ∉ [452, 512, 576, 640] from by decide +kernel)).trans e_x1002.symm
        have q147 : s144 256 10 = x1003 := (t_s144 256 10 (show 4107 ∉ [452, 512, 576, 640] from by decide +kernel)).trans e_x1003.symm
        have J_s144 : J s144 := J.fl i_J t_s144 (by decide +kernel)
        have T0_s144 : T0 s144 := T0.fl i_T0 t_s144 (by decide +kernel)
        obtain ⟨z148, e_z148⟩ : ∃ z, z = s144 46 3 := ⟨_, rfl⟩
        have g_z148 : (0 : Int) ≤ s144 46 3 ∧ s144 46 3 ≤ 40 := hG_s144 46 3
        show xe (some (N, xs)) 231 375 [(0, .ref 2000), (1, .ref 0), (2, .ref 256), (3, vi x3)] [vi z143] s144 295 10442 _
        refine x_A k231_375 (fun _ => rfl) ?_
        refine x_A k231_376 (fun _ => rfl) ?_
        refine x_A k231_377 (fun _ => rfl) ?_
        refine x_A k231_378 (fun _ => rfl) ?_
        refine x_A k231_379 (fun _ => rfl) ?_
        refine x_iadd k231_380 ?_
        refine x_top (fun z149 e_z149 => ?_)
        refine x_scr k231_381 hN ⟨by omega, by omega⟩ (fun z150 g_z150 e_z150 => ?_)
        unfold in32 at g_z150
        have q_z150 : z150 = z138 := by rw [e_z150, e_z138, show z149 = z137 by omega]
        refine x_A k231_382 (fun _ => rfl) ?_
        refine x_A k231_383 (fun _ => rfl) ?_
        refine x_A k231_384 (fun _ => rfl) ?_
        refine x_iadd k231_385 ?_
        refine x_top (fun z151 e_z151 => ?_)
        refine x_scr k231_386 hN ⟨by omega, by omega⟩ (fun z152 g_z152 e_z152 => ?_)
        unfold in32 at g_z152
        have q_z152 : z152 = z140 := by rw [e_z152, e_z140, show z151 = z139 by omega]
        refine x_A k231_387 (fun _ => rfl) ?_
        refine x_A k231_388 (fun _ => rfl) ?_
        refine x_A k231_389 (fun _ => rfl) ?_
        refine x_iadd k231_390 ?_
        refine x_top (fun z153 e_z153 => ?_)
        refine x_scr k231_391 hN ⟨by omega, by omega⟩ (fun z154 g_z154 e_z154 => ?_)
        unfold in32 at g_z154
        have q_z154 : z154 = z142 := by rw [e_z154, e_z142, show z153 = z141 by omega]
        refine x_callV k231_392 (y := 154) (n := 3) (w0 := 0) (w1 := 3) (as := [vi z150, vi z152, vi z154]) (rest := []) (by decide +kernel) (q := 256) (nq := 62) (kq := 15) ⟨by decide, rfl⟩ rfl rfl rfl rfl (xe_mono (E_X11_picture_256 s144 hG_s144 z150 (by first | exact x_rbe e_z150 g_z150 rfl rfl | exact x_rb g_z150 rfl rfl | exact ⟨by omega, by omega⟩) z152 (by first | exact x_rbe e_z152 g_z152 rfl rfl | exact x_rb g_z152 rfl rfl | exact ⟨by omega, by omega⟩) z154 (by first | exact x_rbe e_z154 g_z154 rfl rfl | exact x_rb g_z154 rfl rfl | exact ⟨by omega, by omega⟩) ⟨by omega, by omega⟩ J_s144) ?_)
        rintro s156 v ⟨hG_s156, t_s156, z155, rfl, g_z155, xp_z155, J_s156⟩
        have q157 : s156 50 6 = x1002 := (t_s156 50 6 (show 711 ∉ [4103, 4416, 4480, 4544] from by decide +kernel)).trans q146
        have q158 : s156 256 10 = x1003 := (t_s156 256 10 (show 4107 ∉ [4103, 4416, 4480, 4544] from by decide +kernel)).trans q147
        have q159 : s156 46 3 = z148 := (t_s156 46 3 (show 452 ∉ [4103, 4416, 4480, 4544] from by decide +kernel)).trans e_z148.symm
        have T0_s156 : T0 s156 := T0.fl T0_s144 t_s156 (by decide +kernel)
        obtain ⟨z160, e_z160⟩ : ∃ z, z = s156 256 6 := ⟨_, rfl⟩
        have g_z160 : (0 : Int) ≤ s156 256 6 ∧ s156 256 6 ≤ 40 := hG_s156 256 6
        show xe (some (N, xs)) 231 395 [(0, .ref 2000), (1, .ref 0), (2, .ref 256), (3, vi x3)] [vi z155] s156 295 10442 _
        refine x_A k231_395 (fun _ => rfl) ?_
        refine x_goto k231_396 (t := 1300) rfl ?_
        refine x_iinc k231_1300 (ls' := [(3, vi (x3 + 7)), (0, .ref 2000), (1, .ref 0), (2, .ref 256)]) rfl (by decide) rfl ?_
        refine x_goto k231_1303 (t := 18) rfl ?_
        refine x_ls (l := [(0, .ref 2000), (1, .ref 0), (2, .ref 256), (3, vi (x3 + 7))]) (show ([0, 1, 2, 3] : List Nat).Nodup from by decide +kernel) ⟨rfl, rfl, rfl, rfl, trivial⟩ ?_
        exact ih s156 (x3 + 7) z148 z160 x1002 x1003 hG_s156 trivial ⟨by omega, by omega⟩ (by first | exact x_rbe e_z148 g_z148 rfl rfl | exact x_rb g_z148 rfl rfl | exact ⟨by omega, by omega⟩) (by first | exact x_rbe e_z160 g_z160 rfl rfl | exact x_rb g_z160 rfl rfl | exact ⟨by omega, by omega⟩) (by first | exact x_rb b_x1002 rfl rfl | exact ⟨by omega, by omega⟩) (by first | exact x_rb b_x1003 rfl rfl | exact ⟨by omega, by omega⟩) (by omega) (by omega) (q159).symm (e_z160.symm).symm (q157).symm (q158).symm J_s156 T0_s156  (by omega)
      · rw [c5]
        refine x_B k231_33 rfl (fun _ => rfl) (fun _ => rfl) (fun _ _ => rfl) ?_
        show xe (some (N, xs)) 231 399 [(0, .ref 2000), (1, .ref 0), (2, .ref 256), (3, vi x3)] [] s 295 10442 _
        refine x_A k231_399 (fun _ => rfl) ?_
        refine x_A k231_400 (fun _ => rfl) ?_
        refine x_A k231_401 (fun _ => rfl) ?_
        refine x_A k231_402 (fun _ => rfl) ?_
        refine x_iadd k231_403 ?_
        refine x_top (fun z161 e_z161 => ?_)
        refine x_scr k231_404 hN ⟨by omega, by omega⟩ (fun z162 g_z162 e_z162 => ?_)
        unfold in32 at g_z162
        refine x_A k231_405 (fun _ => rfl) ?_
        refine x_A k231_406 (fun _ => rfl) ?_
        refine x_A k231_407 (fun _ => rfl) ?_
        refine x_iadd k231_408 ?_
        refine x_top (fun z163 e_z163 => ?_)
        refine x_scr k231_409 hN ⟨by omega, by omega⟩ (fun z164 g_z164 e_z164 => ?_)
        unfold in32 at g_z164
        refine x_A k231_410 (fun _ => rfl) ?_
        refine x_A k231_411 (fun _ => rfl) ?_
        refine x_A k231_412 (fun _ => rfl) ?_
        refine x_iadd k231_413 ?_
        refine x_top (fun z165 e_z165 => ?_)
        refine x_scr k231_414 hN ⟨by omega, by omega⟩ (fun z166 g_z166 e_z166 => ?_)
        unfold in32 at g_z166
        refine x_A k231_415 (fun _ => rfl) ?_
        refine x_A k231_416 (fun _ => rfl) ?_
        refine x_A k231_417 (fun _ => rfl) ?_
        refine x_iadd k231_418 ?_
        refine x_top (fun z167 e_z167 => ?_)
        refine x_scr k231_419 hN ⟨by omega, by omega⟩ (fun z168 g_z168 e_z168 => ?_)
        unfold in32 at g_z168
        obtain ⟨z169, e_z169⟩ : ∃ z, z = s 1 4 := ⟨_, rfl⟩
        have g_z169 : (1 : Int) ≤ s 1 4 ∧ s 1 4 ≤ 40 := hG 1 4
        obtain ⟨z170, e_z170⟩ : ∃ z, z = s 256 1 := ⟨_, rfl⟩
        have g_z170 : (1 : Int) ≤ s 256 1 ∧ s 256 1 ≤ 40 := hG 256 1
        have tz_s := i_T0.2.1
        refine x_callV k231_420 (y := 98) (n := 4) (w0 := 0) (w1 := 4) (as := [vi z162, vi z164, vi z166, vi z168]) (rest := []) (by decide +kernel) (q := 0) (nq := 12) (kq := 3) ⟨by decide, rfl⟩ rfl rfl rfl rfl (xe_mono (E_X10_give_0 s hG z162 (by first | exact x_rbe e_z162 g_z162 rfl rfl | exact x_rb g_z162 rfl rfl | exact ⟨by omega, by omega⟩) z164 (by first | exact x_rbe e_z164 g_z164 rfl rfl | exact x_rb g_z164 rfl rfl | exact ⟨by omega, by omega⟩) z166 (by first | exact x_rbe e_z166 g_z166 rfl rfl | exact x_rb g_z166 rfl rfl | exact ⟨by omega, by omega⟩) z168 (by first | exact x_rbe e_z168 g_z168 rfl rfl | exact x_rb g_z168 rfl rfl | exact ⟨by omega, by omega⟩) ⟨by omega, by omega⟩ ⟨by omega, by omega⟩ ⟨by omega, by omega⟩) ?_)
        rintro s172 v ⟨hG_s172, t_s172, z171, rfl, g_z171, xp_z171⟩
        have q173 : s172 46 3 = x1000 := (t_s172 46 3 (show 452 ∉ [711, 768, 832, 896, 960, 1024, 1152, 3276, 3277] from by decide +kernel)).trans e_x1000.symm
        have q174 : s172 256 6 = x1001 := (t_s172 256 6 (show 4103 ∉ [711, 768, 832, 896, 960, 1024, 1152, 3276, 3277] from by decide +kernel)).trans e_x1001.symm
        have q175 : s172 256 10 = x1003 := (t_s172 256 10 (show 4107 ∉ [711, 768, 832, 896, 960, 1024, 1152, 3276, 3277] from by decide +kernel)).trans e_x1003.symm
        have q176 : s172 1 4 = z169 := (t_s172 1 4 (show 69 ∉ [711, 768, 832, 896, 960, 1024, 1152, 3276, 3277] from by decide +kernel)).trans e_z169.symm
        have q177 : s172 256 1 = z170 := (t_s172 256 1 (show 4098 ∉ [711, 768, 832, 896, 960, 1024, 1152, 3276, 3277] from by decide +kernel)).trans e_z170.symm
        have J_s172 : J s172 := J.fl i_J t_s172 (by decide +kernel)
        have T0_s172 : T0 s172 := T0.fl i_T0 t_s172 (by decide +kernel)
        obtain ⟨z178, e_z178⟩ : ∃ z, z = s172 50 6 := ⟨_, rfl⟩
        have g_z178 : (0 : Int) ≤ s172 50 6 ∧ s172 50 6 ≤ 120 := hG_s172 50 6
        show xe (some (N, xs)) 231 423 [(0, .ref 2000), (1, .ref 0), (2, .ref 256), (3, vi x3)] [vi z171] s172 295 10442 _
        refine x_A k231_423 (fun _ => rfl) ?_
        refine x_A k231_424 (fun _ => rfl) ?_
        refine x_A k231_425 (fun _ => rfl) ?_
        refine x_A k231_426 (fun _ => rfl) ?_
        refine x_iadd k231_427 ?_
        refine x_top (fun z179 e_z179 => ?_)
        refine x_scr k231_428 hN ⟨by omega, by omega⟩ (fun z180 g_z180 e_z180 => ?_)
        unfold in32 at g_z180
        have q_z180 : z180 = z162 := by rw [e_z180, e_z162, show z179 = z161 by omega]
        refine x_A k231_429 (fun _ => rfl) ?_
        refine x_A k231_430 (fun _ => rfl) ?_
        refine x_A k231_431 (fun _ => rfl) ?_
        refine x_iadd k231_432 ?_
        refine x_top (fun z181 e_z181 => ?_)
        refine x_scr k231_433 hN ⟨by omega, by omega⟩ (fun z182 g_z182 e_z182 => ?_)
        unfold in32 at g_z182
        have q_z182 : z182 = z164 := by rw [e_z182, e_z164, show z181 = z163 by omega]
        refine x_A k231_434 (fun _ => rfl) ?_
        refine x_A k231_435 (fun _ => rfl) ?_
        refine x_A k231_436 (fun _ => rfl) ?_
        refine x_iadd k231_437 ?_
        refine x_top (fun z183 e_z183 => ?_)
        refine x_scr k231_438 hN ⟨by omega, by omega⟩ (fun z184 g_z184 e_z184 => ?_)
        unfold in32 at g_z184
        have q_z184 : z184 = z166 := by rw [e_z184, e_z166, show z183 = z165 by omega]
        refine x_A k231_439 (fun _ => rfl) ?_
        refine x_A k231_440 (fun _ => rfl) ?_
        refine x_A k231_441 (fun _ => rfl) ?_
        refine x_iadd k231_442 ?_
        refine x_top (fun z185 e_z185 => ?_)
        refine x_scr k231_443 hN ⟨by omega, by omega⟩ (fun z186 g_z186 e_z186 => ?_)
        unfold in32 at g_z186
        have q_z186 : z186 = z168 := by rw [e_z186, e_z168, show z185 = z167 by omega]
        refine x_callV k231_444 (y := 155) (n := 4) (w0 := 1) (w1 := 4) (as := [vi z180, vi z182, vi z184, vi z186]) (rest := [vi z171]) (by decide +kernel) (q := 256) (nq := 62) (kq := 15) ⟨by decide, rfl⟩ rfl rfl rfl rfl (xe_mono (E_X11_give_256 s172 hG_s172 z180 (by first | exact x_rbe e_z180 g_z180 rfl rfl | exact x_rb g_z180 rfl rfl | exact ⟨by omega, by omega⟩) z182 (by first | exact x_rbe e_z182 g_z182 rfl rfl | exact x_rb g_z182 rfl rfl | exact ⟨by omega, by omega⟩) z184 (by first | exact x_rbe e_z184 g_z184 rfl rfl | exact x_rb g_z184 rfl rfl | exact ⟨by omega, by omega⟩) z186 (by first | exact x_rbe e_z186 g_z186 rfl rfl | exact x_rb g_z186 rfl rfl | exact ⟨by omega, by omega⟩) ⟨by omega, by omega⟩ ⟨by omega, by omega⟩ ⟨by omega, by omega⟩) ?_)
        rintro s188 v ⟨hG_s188, t_s188, z187, rfl, g_z187, xp_z187⟩
        have q189 : s188 46 3 = x1000 := (t_s188 46 3 (show 452 ∉ [4107, 4608, 4672, 4736, 4800, 4864, 4928] from by decide +kernel)).trans q173
        have q190 : s188 256 6 = x1001 := (t_s188 256 6 (show 4103 ∉ [4107, 4608, 4672, 4736, 4800, 4864, 4928] from by decide +kernel)).trans q174
        have q191 : s188 1 4 = z169 := (t_s188 1 4 (show 69 ∉ [4107, 4608, 4672, 4736, 4800, 4864, 4928] from by decide +kernel)).trans q176
        have q192 : s188 256 1 = z170 := (t_s188 256 1 (show 4098 ∉ [4107, 4608, 4672, 4736, 4800, 4864, 4928] from by decide +kernel)).trans q177
        have q193 : s188 50 6 = z178 := (t_s188 50 6 (show 711 ∉ [4107, 4608, 4672, 4736, 4800, 4864, 4928] from by decide +kernel)).trans e_z178.symm
        have J_s188 : J s188 := J.fl J_s172 t_s188 (by decide +kernel)
        have T0_s188 : T0 s188 := T0.fl T0_s172 t_s188 (by decide +kernel)
        obtain ⟨z194, e_z194⟩ : ∃ z, z = s188 256 10 := ⟨_, rfl⟩
        have g_z194 : (0 : Int) ≤ s188 256 10 ∧ s188 256 10 ≤ 120 := hG_s188 256 10
        show xe (some (N, xs)) 231 447 [(0, .ref 2000), (1, .ref 0), (2, .ref 256), (3, vi x3)] [vi z187, vi z171] s188 295 10442 _
        refine x_ic_eq k231_447 (t := 1300) rfl (by first | exact x_rbe e_z171 g_z171 rfl rfl | exact x_rb g_z171 rfl rfl | exact ⟨by omega, by omega⟩) (by first | exact x_rbe e_z187 g_z187 rfl rfl | exact x_rb g_z187 rfl rfl | exact ⟨by omega, by omega⟩) (fun c195 => ?_) (fun c195 => ?_)
        · skip
          refine x_iinc k231_1300 (ls' := [(3, vi (x3 + 7)), (0, .ref 2000), (1, .ref 0), (2, .ref 256)]) rfl (by decide) rfl ?_
          refine x_goto k231_1303 (t := 18) rfl ?_
          refine x_ls (l := [(0, .ref 2000), (1, .ref 0), (2, .ref 256), (3, vi (x3 + 7))]) (show ([0, 1, 2, 3] : List Nat).Nodup from by decide +kernel) ⟨rfl, rfl, rfl, rfl, trivial⟩ ?_
          exact ih s188 (x3 + 7) x1000 x1001 z178 z194 hG_s188 trivial ⟨by omega, by omega⟩ (by first | exact x_rb b_x1000 rfl rfl | exact ⟨by omega, by omega⟩) (by first | exact x_rb b_x1001 rfl rfl | exact ⟨by omega, by omega⟩) (by first | exact x_rbe e_z178 g_z178 rfl rfl | exact x_rb g_z178 rfl rfl | exact ⟨by omega, by omega⟩) (by first | exact x_rbe e_z194 g_z194 rfl rfl | exact x_rb g_z194 rfl rfl | exact ⟨by omega, by omega⟩) (by omega) (by omega) (q189).symm (q190).symm (q193).symm (e_z194.symm).symm J_s188 T0_s188  (by omega)
        · skip
          refine x_A k231_450 (fun _ => rfl) ?_
          exfalso; omega
      · rw [c5]
        refine x_B k231_33 rfl (fun _ => rfl) (fun _ => rfl) (fun _ _ => rfl) ?_
        show xe (some (N, xs)) 231 452 [(0, .ref 2000), (1, .ref 0), (2, .ref 256), (3, vi x3)] [] s 295 10442 _
        refine x_A k231_452 (fun _ => rfl) ?_
        refine x_A k231_453 (fun _ => rfl) ?_
        refine x_A k231_454 (fun _ => rfl) ?_
        refine x_A k231_455 (fun _ => rfl) ?_
        refine x_iadd k231_456 ?_
        refine x_top (fun z196 e_z196 => ?_)
        refine x_scr k231_457 hN ⟨by omega, by omega⟩ (fun z197 g_z197 e_z197 => ?_)
        unfold in32 at g_z197
        refine x_A k231_458 (fun _ => rfl) ?_
        refine x_A k231_459 (fun _ => rfl) ?_
        refine x_A k231_460 (fun _ => rfl) ?_
        refine x_iadd k231_461 ?_
        refine x_top (fun z198 e_z198 => ?_)
        refine x_scr k231_462 hN ⟨by omega, by omega⟩ (fun z199 g_z199 e_z199 => ?_)
        unfold in32 at g_z199
        refine x_callV k231_463 (y := 99) (n := 2) (w0 := 0) (w1 := 2) (as := [vi z197, vi z199]) (rest := []) (by decide +kernel) (q := 0) (nq := 12) (kq := 3) ⟨by decide, rfl⟩ rfl rfl rfl rfl (xe_mono (C_X10_doubt_0 s hG z197 (by first | exact x_rbe e_z197 g_z197 rfl rfl | exact x_rb g_z197 rfl rfl | exact ⟨by omega, by omega⟩) z199 (by first | exact x_rbe e_z199 g_z199 rfl rfl | exact x_rb g_z199 rfl rfl | exact ⟨by omega, by omega⟩)) ?_)
        rintro s201 v ⟨hG_s201, t_s201, z200, rfl, g_z200⟩
        have q202 : s201 46 3 = x1000 := (t_s201 46 3 (show 452 ∉ [1152, 3276, 3277] from by decide +kernel)).trans e_x1000.symm
        have q203 : s201 256 6 = x1001 := (t_s201 256 6 (show 4103 ∉ [1152, 3276, 3277] from by decide +kernel)).trans e_x1001.symm
        have q204 : s201 50 6 = x1002 := (t_s201 50 6 (show 711 ∉ [1152, 3276, 3277] from by decide +kernel)).trans e_x1002.symm
        have q205 : s201 256 10 = x1003 := (t_s201 256 10 (show 4107 ∉ [1152, 3276, 3277] from by decide +kernel)).trans e_x1003.symm
        have J_s201 : J s201 := J.fl i_J t_s201 (by decide +kernel)
        have T0_s201 : T0 s201 := T0.fl i_T0 t_s201 (by decide +kernel)
        show xe (some (N, xs)) 231 466 [(0, .ref 2000), (1, .ref 0), (2, .ref 256), (3, vi x3)] [vi z200] s201 295 10442 _
        refine x_A k231_466 (fun _ => rfl) ?_
        refine x_A k231_467 (fun _ => rfl) ?_
        refine x_A k231_468 (fun _ => rfl) ?_
        refine x_A k231_469 (fun _ => rfl) ?_
        refine x_A k231_470 (fun _ => rfl) ?_
        refine x_iadd k231_471 ?_
        refine x_top (fun z206 e_z206 => ?_)
        refine x_scr k231_472 hN ⟨by omega, by omega⟩ (fun z207 g_z207 e_z207 => ?_)
        unfold in32 at g_z207
        have q_z207 : z207 = z197 := by rw [e_z207, e_z197, show z206 = z196 by omega]
        refine x_A k231_473 (fun _ => rfl) ?_
        refine x_A k231_474 (fun _ => rfl) ?_
        refine x_A k231_475 (fun _ => rfl) ?_
        refine x_iadd k231_476 ?_
        refine x_top (fun z208 e_z208 => ?_)
        refine x_scr k231_477 hN ⟨by omega, by omega⟩ (fun z209 g_z209 e_z209 => ?_)
        unfold in32 at g_z209
        have q_z209 : z209 = z199 := by rw [e_z209, e_z199, show z208 = z198 by omega]
        refine x_callV k231_478 (y := 157) (n := 2) (w0 := 0) (w1 := 2) (as := [vi z207, vi z209]) (rest := []) (by decide +kernel) (q := 256) (nq := 62) (kq := 15) ⟨by decide, rfl⟩ rfl rfl rfl rfl (xe_mono (C_X11_doubt_256 s201 hG_s201 z207 (by first | exact x_rbe e_z207 g_z207 rfl rfl | exact x_rb g_z207 rfl rfl | exact ⟨by omega, by omega⟩) z209 (by first | exact x_rbe e_z209 g_z209 rfl rfl | exact x_rb g_z209 rfl rfl | exact ⟨by omega, by omega⟩)) ?_)
        rintro s211 v ⟨hG_s211, t_s211, z210, rfl, g_z210⟩
        have q212 : s211 46 3 = x1000 := (t_s211 46 3 (show 452 ∉ [4928] from by decide +kernel)).trans q202
        have q213 : s211 256 6 = x1001 := (t_s211 256 6 (show 4103 ∉ [4928] from by decide +kernel)).trans q203
        have q214 : s211 50 6 = x1002 := (t_s211 50 6 (show 711 ∉ [4928] from by decide +kernel)).trans q204
        have q215 : s211 256 10 = x1003 := (t_s211 256 10 (show 4107 ∉ [4928] from by decide +kernel)).trans q205
        have J_s211 : J s211 := J.fl J_s201 t_s211 (by decide +kernel)
        have T0_s211 : T0 s211 := T0.fl T0_s201 t_s211 (by decide +kernel)
        show xe (some (N, xs)) 231 481 [(0, .ref 2000), (1, .ref 0), (2, .ref 256), (3, vi x3)] [vi z210] s211 295 10442 _
        refine x_A k231_481 (fun _ => rfl) ?_
        refine x_goto k231_482 (t := 1300) rfl ?_
        refine x_iinc k231_1300 (ls' := [(3, vi (x3 + 7)), (0, .ref 2000), (1, .ref 0), (2, .ref 256)]) rfl (by decide) rfl ?_
        refine x_goto k231_1303 (t := 18) rfl ?_
        refine x_ls (l := [(0, .ref 2000), (1, .ref 0), (2, .ref 256), (3, vi (x3 + 7))]) (show ([0, 1, 2, 3] : List Nat).Nodup from by decide +kernel) ⟨rfl, rfl, rfl, rfl, trivial⟩ ?_
        exact ih s211 (x3 + 7) x1000 x1001 x1002 x1003 hG_s211 trivial ⟨by omega, by omega⟩ (by first | exact x_rb b_x1000 rfl rfl | exact ⟨by omega, by omega⟩) (by first | exact x_rb b_x1001 rfl rfl | exact ⟨by omega, by omega⟩) (by first | exact x_rb b_x1002 rfl rfl | exact ⟨by omega, by omega⟩) (by first | exact x_rb b_x1003 rfl rfl | exact ⟨by omega, by omega⟩) (by omega) (by omega) (q212).symm (q213).symm (q214).symm (q215).symm J_s211 T0_s211  (by omega)
      · rw [c5]
        refine x_B k231_33 rfl (fun _ => rfl) (fun _ => rfl) (fun _ _ => rfl) ?_
        show xe (some (N, xs)) 231 485 [(0, .ref 2000), (1, .ref 0), (2, .ref 256), (3, vi x3)] [] s 295 10442 _
        refine x_A k231_485 (fun _ => rfl) ?_
        refine x_A k231_486 (fun _ => rfl) ?_
        refine x_A k231_487 (fun _ => rfl) ?_
        refine x_A k231_488 (fun _ => rfl) ?_
        refine x_iadd k231_489 ?_
        refine x_top (fun z216 e_z216 => ?_)
        refine x_scr k231_490 hN ⟨by omega, by omega⟩ (fun z217 g_z217 e_z217 => ?_)
        unfold in32 at g_z217
        refine x_A k231_491 (fun _ => rfl) ?_
        refine x_A k231_492 (fun _ => rfl) ?_
        refine x_A k231_493 (fun _ => rfl) ?_
        refine x_iadd k231_494 ?_
        refine x_top (fun z218 e_z218 => ?_)
        refine x_scr k231_495 hN ⟨by omega, by omega⟩ (fun z219 g_z219 e_z219 => ?_)
        unfold in32 at g_z219
        refine x_callV k231_496 (y := 100) (n := 2) (w0 := 0) (w1 := 2) (as := [vi z217, vi z219]) (rest := []) (by decide +kernel) (q := 0) (nq := 12) (kq := 3) ⟨by decide, rfl⟩ rfl rfl rfl rfl (xe_mono (C_X10_told_0 s hG i_J z217 (by first | exact x_rbe e_z217 g_z217 rfl rfl | exact x_rb g_z217 rfl rfl | exact ⟨by omega, by omega⟩) z219 (by first | exact x_rbe e_z219 g_z219 rfl rfl | exact x_rb g_z219 rfl rfl | exact ⟨by omega, by omega⟩)) ?_)
        rintro s221 v ⟨hG_s221, t_s221, z220, rfl, g_z220⟩
        have q222 : s221 46 3 = x1000 := (t_s221 46 3 (show 452 ∉ [3329, 3334, 3335, 3336, 3392, 3456, 3520, 3584, 3276, 3648, 3712, 3776, 3840, 3904, 3968, 3277, 4032] from by decide +kernel)).trans e_x1000.symm
        have q223 : s221 256 6 = x1001 := (t_s221 256 6 (show 4103 ∉ [3329, 3334, 3335, 3336, 3392, 3456, 3520, 3584, 3276, 3648, 3712, 3776, 3840, 3904, 3968, 3277, 4032] from by decide +kernel)).trans e_x1001.symm
        have q224 : s221 50 6 = x1002 := (t_s221 50 6 (show 711 ∉ [3329, 3334, 3335, 3336, 3392, 3456, 3520, 3584, 3276, 3648, 3712, 3776, 3840, 3904, 3968, 3277, 4032] from by decide +kernel)).trans e_x1002.symm
        have q225 : s221 256 10 = x1003 := (t_s221 256 10 (show 4107 ∉ [3329, 3334, 3335, 3336, 3392, 3456, 3520, 3584, 3276, 3648, 3712, 3776, 3840, 3904, 3968, 3277, 4032] from by decide +kernel)).trans e_x1003.symm
        have J_s221 : J s221 := J.fl i_J t_s221 (by decide +kernel)
        have T0_s221 : T0 s221 := T0.fl i_T0 t_s221 (by decide +kernel)
        show xe (some (N, xs)) 231 499 [(0, .ref 2000), (1, .ref 0), (2, .ref 256), (3, vi x3)] [vi z220] s221 295 10442 _
        refine x_A k231_499 (fun _ => rfl) ?_
        refine x_A k231_500 (fun _ => rfl) ?_
        refine x_A k231_501 (fun _ => rfl) ?_
        refine x_A k231_502 (fun _ => rfl) ?_
        refine x_A k231_503 (fun _ => rfl) ?_
        refine x_iadd k231_504 ?_
        refine x_top (fun z226 e_z226 => ?_)
        refine x_scr k231_505 hN ⟨by omega, by omega⟩ (fun z227 g_z227 e_z227 => ?_)
        unfold in32 at g_z227
        have q_z227 : z227 = z217 := by rw [e_z227, e_z217, show z226 = z216 by omega]
        refine x_A k231_506 (fun _ => rfl) ?_
        refine x_A k231_507 (fun _ => rfl) ?_
        refine x_A k231_508 (fun _ => rfl) ?_
        refine x_iadd k231_509 ?_
        refine x_top (fun z228 e_z228 => ?_)
        refine x_scr k231_510 hN ⟨by omega, by omega⟩ (fun z229 g_z229 e_z229 => ?_)
        unfold in32 at g_z229
        have q_z229 : z229 = z219 := by rw [e_z229, e_z219, show z228 = z218 by omega]
        refine x_callV k231_511 (y := 158) (n := 2) (w0 := 0) (w1 := 2) (as := [vi z227, vi z229]) (rest := []) (by decide +kernel) (q := 256) (nq := 62) (kq := 15) ⟨by decide, rfl⟩ rfl rfl rfl rfl (xe_mono (C_X11_told_256 s221 hG_s221 J_s221 z227 (by first | exact x_rbe e_z227 g_z227 rfl rfl | exact x_rb g_z227 rfl rfl | exact ⟨by omega, by omega⟩) z229 (by first | exact x_rbe e_z229 g_z229 rfl rfl | exact x_rb g_z229 rfl rfl | exact ⟨by omega, by omega⟩)) ?_)
        rintro s231 v ⟨hG_s231, t_s231, z230, rfl, g_z230⟩
        have q232 : s231 46 3 = x1000 := (t_s231 46 3 (show 452 ∉ [5312, 5376, 4123, 5440, 5504, 5568] from by decide +kernel)).trans q222
        have q233 : s231 256 6 = x1001 := (t_s231 256 6 (show 4103 ∉ [5312, 5376, 4123, 5440, 5504, 5568] from by decide +kernel)).trans q223
        have q234 : s231 50 6 = x1002 := (t_s231 50 6 (show 711 ∉ [5312, 5376, 4123, 5440, 5504, 5568] from by decide +kernel)).trans q224
        have q235 : s231 256 10 = x1003 := (t_s231 256 10 (show 4107 ∉ [5312, 5376, 4123, 5440, 5504, 5568] from by decide +kernel)).trans q225
        have J_s231 : J s231 := J.fl J_s221 t_s231 (by decide +kernel)
        have T0_s231 : T0 s231 := T0.fl T0_s221 t_s231 (by decide +kernel)
        show xe (some (N, xs)) 231 514 [(0, .ref 2000), (1, .ref 0), (2, .ref 256), (3, vi x3)] [vi z230] s231 295 10442 _
        refine x_A k231_514 (fun _ => rfl) ?_
        refine x_goto k231_515 (t := 1300) rfl ?_
        refine x_iinc k231_1300 (ls' := [(3, vi (x3 + 7)), (0, .ref 2000), (1, .ref 0), (2, .ref 256)]) rfl (by decide) rfl ?_
        refine x_goto k231_1303 (t := 18) rfl ?_
        refine x_ls (l := [(0, .ref 2000), (1, .ref 0), (2, .ref 256), (3, vi (x3 + 7))]) (show ([0, 1, 2, 3] : List Nat).Nodup from by decide +kernel) ⟨rfl, rfl, rfl, rfl, trivial⟩ ?_
        exact ih s231 (x3 + 7) x1000 x1001 x1002 x1003 hG_s231 trivial ⟨by omega, by omega⟩ (by first | exact x_rb b_x1000 rfl rfl | exact ⟨by omega, by omega⟩) (by first | exact x_rb b_x1001 rfl rfl | exact ⟨by omega, by omega⟩) (by first | exact x_rb b_x1002 rfl rfl | exact ⟨by omega, by omega⟩) (by first | exact x_rb b_x1003 rfl rfl | exact ⟨by omega, by omega⟩) (by omega) (by omega) (q232).symm (q233).symm (q234).symm (q235).symm J_s231 T0_s231  (by omega)
      · rw [c5]
        refine x_B k231_33 rfl (fun _ => rfl) (fun _ => rfl) (fun _ _ => rfl) ?_
        show xe (some (N, xs)) 231 518 [(0, .ref 2000), (1, .ref 0), (2, .ref 256), (3, vi x3)] [] s 295 10442 _
        refine x_A k231_518 (fun _ => rfl) ?_
        refine x_A k231_519 (fun _ => rfl) ?_
        refine x_A k231_520 (fun _ => rfl) ?_
        refine x_A k231_521 (fun _ => rfl) ?_
        refine x_iadd k231_522 ?_
        refine x_top (fun z236 e_z236 => ?_)
        refine x_scr k231_523 hN ⟨by omega, by omega⟩ (fun z237 g_z237 e_z237 => ?_)
        unfold in32 at g_z237
        refine x_A k231_524 (fun _ => rfl) ?_
        refine x_A k231_525 (fun _ => rfl) ?_
        refine x_A k231_526 (fun _ => rfl) ?_
        refine x_iadd k231_527 ?_
        refine x_top (fun z238 e_z238 => ?_)
        refine x_scr k231_528 hN ⟨by omega, by omega⟩ (fun z239 g_z239 e_z239 => ?_)
        unfold in32 at g_z239
        refine x_A k231_529 (fun _ => rfl) ?_
        refine x_A k231_530 (fun _ => rfl) ?_
        refine x_A k231_531 (fun _ => rfl) ?_
        refine x_iadd k231_532 ?_
        refine x_top (fun z240 e_z240 => ?_)
        refine x_scr k231_533 hN ⟨by omega, by omega⟩ (fun z241 g_z241 e_z241 => ?_)
        unfold in32 at g_z241
        refine x_callV k231_534 (y := 101) (n := 3) (w0 := 0) (w1 := 3) (as := [vi z237, vi z239, vi z241]) (rest := []) (by decide +kernel) (q := 0) (nq := 12) (kq := 3) ⟨by decide, rfl⟩ rfl rfl rfl rfl (xe_mono (C_X10_means_0 s hG i_J z237 (by first | exact x_rbe e_z237 g_z237 rfl rfl | exact x_rb g_z237 rfl rfl | exact ⟨by omega, by omega⟩) z239 (by first | exact x_rbe e_z239 g_z239 rfl rfl | exact x_rb g_z239 rfl rfl | exact ⟨by omega, by omega⟩) z241 (by first | exact x_rbe e_z241 g_z241 rfl rfl | exact x_rb g_z241 rfl rfl | exact ⟨by omega, by omega⟩)) ?_)
        rintro s243 v ⟨hG_s243, t_s243, z242, rfl, g_z242⟩
        have q244 : s243 46 3 = x1000 := (t_s243 46 3 (show 452 ∉ [3329, 3334, 3335, 3336, 3392, 3456, 3520, 3584, 3276, 3648, 3712, 3776, 3840, 3904, 3968, 3277, 4032, 1921, 1926, 1927, 1928, 1984, 2048, 2112, 2176] from by decide +kernel)).trans e_x1000.symm
        have q245 : s243 256 6 = x1001 := (t_s243 256 6 (show 4103 ∉ [3329, 3334, 3335, 3336, 3392, 3456, 3520, 3584, 3276, 3648, 3712, 3776, 3840, 3904, 3968, 3277, 4032, 1921, 1926, 1927, 1928, 1984, 2048, 2112, 2176] from by decide +kernel)).trans e_x1001.symm
        have q246 : s243 50 6 = x1002 := (t_s243 50 6 (show 711 ∉ [3329, 3334, 3335, 3336, 3392, 3456, 3520, 3584, 3276, 3648, 3712, 3776, 3840, 3904, 3968, 3277, 4032, 1921, 1926, 1927, 1928, 1984, 2048, 2112, 2176] from by decide +kernel)).trans e_x1002.symm
        have q247 : s243 256 10 = x1003 := (t_s243 256 10 (show 4107 ∉ [3329, 3334, 3335, 3336, 3392, 3456, 3520, 3584, 3276, 3648, 3712, 3776, 3840, 3904, 3968, 3277, 4032, 1921, 1926, 1927, 1928, 1984, 2048, 2112, 2176] from by decide +kernel)).trans e_x1003.symm
        have J_s243 : J s243 := J.fl i_J t_s243 (by decide +kernel)
        have T0_s243 : T0 s243 := T0.fl i_T0 t_s243 (by decide +kernel)
        show xe (some (N, xs)) 231 537 [(0, .ref 2000), (1, .ref 0), (2, .ref 256), (3, vi x3)] [vi z242] s243 295 10442 _
        refine x_A k231_537 (fun _ => rfl) ?_
        refine x_A k231_538 (fun _ => rfl) ?_
        refine x_A k231_539 (fun _ => rfl) ?_
        refine x_A k231_540 (fun _ => rfl) ?_
        refine x_A k231_541 (fun _ => rfl) ?_
        refine x_iadd k231_542 ?_
        refine x_top (fun z248 e_z248 => ?_)
        refine x_scr k231_543 hN ⟨by omega, by omega⟩ (fun z249 g_z249 e_z249 => ?_)
        unfold in32 at g_z249
        have q_z249 : z249 = z237 := by rw [e_z249, e_z237, show z248 = z236 by omega]
        refine x_A k231_544 (fun _ => rfl) ?_
        refine x_A k231_545 (fun _ => rfl) ?_
        refine x_A k231_546 (fun _ => rfl) ?_
        refine x_iadd k231_547 ?_
        refine x_top (fun z250 e_z250 => ?_)
        refine x_scr k231_548 hN ⟨by omega, by omega⟩ (fun z251 g_z251 e_z251 => ?_)
        unfold in32 at g_z251
        have q_z251 : z251 = z239 := by rw [e_z251, e_z239, show z250 = z238 by omega]
        refine x_A k231_549 (fun _ => rfl) ?_
        refine x_A k231_550 (fun _ => rfl) ?_
        refine x_A k231_551 (fun _ => rfl) ?_
        refine x_iadd k231_552 ?_
        refine x_top (fun z252 e_z252 => ?_)
        refine x_scr k231_553 hN ⟨by omega, by omega⟩ (fun z253 g_z253 e_z253 => ?_)
        unfold in32 at g_z253
        have q_z253 : z253 = z241 := by rw [e_z253, e_z241, show z252 = z240 by omega]
        refine x_callV k231_554 (y := 172) (n := 3) (w0 := 0) (w1 := 3) (as := [vi z249, vi z251, vi z253]) (rest := []) (by decide +kernel) (q := 256) (nq := 62) (kq := 15) ⟨by decide, rfl⟩ rfl rfl rfl rfl (xe_mono (C_X11_means_256 s243 hG_s243 J_s243 z249 (by first | exact x_rbe e_z249 g_z249 rfl rfl | exact x_rb g_z249 rfl rfl | exact ⟨by omega, by omega⟩) z251 (by first | exact x_rbe e_z251 g_z251 rfl rfl | exact x_rb g_z251 rfl rfl | exact ⟨by omega, by omega⟩) z253 (by first | exact x_rbe e_z253 g_z253 rfl rfl | exact x_rb g_z253 rfl rfl | exact ⟨by omega, by omega⟩)) ?_)
        rintro s255 v ⟨hG_s255, t_s255, z254, rfl, g_z254⟩
        have q256 : s255 46 3 = x1000 := (t_s255 46 3 (show 452 ∉ [5312, 5376, 4123, 5440, 5504, 5568, 5632, 5696, 5760] from by decide +kernel)).trans q244
        have q257 : s255 256 6 = x1001 := (t_s255 256 6 (show 4103 ∉ [5312, 5376, 4123, 5440, 5504, 5568, 5632, 5696, 5760] from by decide +kernel)).trans q245
        have q258 : s255 50 6 = x1002 := (t_s255 50 6 (show 711 ∉ [5312, 5376, 4123, 5440, 5504, 5568, 5632, 5696, 5760] from by decide +kernel)).trans q246
        have q259 : s255 256 10 = x1003 := (t_s255 256 10 (show 4107 ∉ [5312, 5376, 4123, 5440, 5504, 5568, 5632, 5696, 5760] from by decide +kernel)).trans q247
        have J_s255 : J s255 := J.fl J_s243 t_s255 (by decide +kernel)
        have T0_s255 : T0 s255 := T0.fl T0_s243 t_s255 (by decide +kernel)
        show xe (some (N, xs)) 231 557 [(0, .ref 2000), (1, .ref 0), (2, .ref 256), (3, vi x3)] [vi z254] s255 295 10442 _
        refine x_A k231_557 (fun _ => rfl) ?_
        refine x_goto k231_558 (t := 1300) rfl ?_
        refine x_iinc k231_1300 (ls' := [(3, vi (x3 + 7)), (0, .ref 2000), (1, .ref 0), (2, .ref 256)]) rfl (by decide) rfl ?_
        refine x_goto k231_1303 (t := 18) rfl ?_
        refine x_ls (l := [(0, .ref 2000), (1, .ref 0), (2, .ref 256), (3, vi (x3 + 7))]) (show ([0, 1, 2, 3] : List Nat).Nodup from by decide +kernel) ⟨rfl, rfl, rfl, rfl, trivial⟩ ?_
        exact ih s255 (x3 + 7) x1000 x1001 x1002 x1003 hG_s255 trivial ⟨by omega, by omega⟩ (by first | exact x_rb b_x1000 rfl rfl | exact ⟨by omega, by omega⟩) (by first | exact x_rb b_x1001 rfl rfl | exact ⟨by omega, by omega⟩) (by first | exact x_rb b_x1002 rfl rfl | exact ⟨by omega, by omega⟩) (by first | exact x_rb b_x1003 rfl rfl | exact ⟨by omega, by omega⟩) (by omega) (by omega) (q256).symm (q257).symm (q258).symm (q259).symm J_s255 T0_s255  (by omega)
      · rw [c5]
        refine x_B k231_33 rfl (fun _ => rfl) (fun _ => rfl) (fun _ _ => rfl) ?_
        show xe (some (N, xs)) 231 561 [(0, .ref 2000), (1, .ref 0), (2, .ref 256), (3, vi x3)] [] s 295 10442 _
        refine x_A k231_561 (fun _ => rfl) ?_
        refine x_A k231_562 (fun _ => rfl) ?_
        refine x_A k231_563 (fun _ => rfl) ?_
        refine x_A k231_564 (fun _ => rfl) ?_
        refine x_iadd k231_565 ?_
        refine x_top (fun z260 e_z260 => ?_)
        refine x_scr k231_566 hN ⟨by omega, by omega⟩ (fun z261 g_z261 e_z261 => ?_)
        unfold in32 at g_z261
        refine x_A k231_567 (fun _ => rfl) ?_
        refine x_A k231_568 (fun _ => rfl) ?_
        refine x_A k231_569 (fun _ => rfl) ?_
        refine x_iadd k231_570 ?_
        refine x_top (fun z262 e_z262 => ?_)
        refine x_scr k231_571 hN ⟨by omega, by omega⟩ (fun z263 g_z263 e_z263 => ?_)
        unfold in32 at g_z263
        refine x_A k231_572 (fun _ => rfl) ?_
        refine x_A k231_573 (fun _ => rfl) ?_
        refine x_A k231_574 (fun _ => rfl) ?_
        refine x_iadd k231_575 ?_
        refine x_top (fun z264 e_z264 => ?_)
        refine x_scr k231_576 hN ⟨by omega, by omega⟩ (fun z265 g_z265 e_z265 => ?_)
        unfold in32 at g_z265
        refine x_callV k231_577 (y := 102) (n := 3) (w0 := 0) (w1 := 3) (as := [vi z261, vi z263, vi z265]) (rest := []) (by decide +kernel) (q := 0) (nq := 12) (kq := 3) ⟨by decide, rfl⟩ rfl rfl rfl rfl (xe_mono (C_X10_led_0 s hG i_J z261 (by first | exact x_rbe e_z261 g_z261 rfl rfl | exact x_rb g_z261 rfl rfl | exact ⟨by omega, by omega⟩) z263 (by first | exact x_rbe e_z263 g_z263 rfl rfl | exact x_rb g_z263 rfl rfl | exact ⟨by omega, by omega⟩) z265 (by first | exact x_rbe e_z265 g_z265 rfl rfl | exact x_rb g_z265 rfl rfl | exact ⟨by omega, by omega⟩)) ?_)
        rintro s267 v ⟨hG_s267, t_s267, z266, rfl, g_z266⟩
        have q268 : s267 46 3 = x1000 := (t_s267 46 3 (show 452 ∉ [3329, 3334, 3335, 3336, 3392, 3456, 3520, 3584, 3276, 3648, 3712, 3776, 3840, 3904, 3968, 3277, 4032] from by decide +kernel)).trans e_x1000.symm
        have q269 : s267 256 6 = x1001 := (t_s267 256 6 (show 4103 ∉ [3329, 3334, 3335, 3336, 3392, 3456, 3520, 3584, 3276, 3648, 3712, 3776, 3840, 3904, 3968, 3277, 4032] from by decide +kernel)).trans e_x1001.symm
        have q270 : s267 50 6 = x1002 := (t_s267 50 6 (show 711 ∉ [3329, 3334, 3335, 3336, 3392, 3456, 3520, 3584, 3276, 3648, 3712, 3776, 3840, 3904, 3968, 3277, 4032] from by decide +kernel)).trans e_x1002.symm
        have q271 : s267 256 10 = x1003 := (t_s267 256 10 (show 4107 ∉ [3329, 3334, 3335, 3336, 3392, 3456, 3520, 3584, 3276, 3648, 3712, 3776, 3840, 3904, 3968, 3277, 4032] from by decide +kernel)).trans e_x1003.symm
        have J_s267 : J s267 := J.fl i_J t_s267 (by decide +kernel)
        have T0_s267 : T0 s267 := T0.fl i_T0 t_s267 (by decide +kernel)
        show xe (some (N, xs)) 231 580 [(0, .ref 2000), (1, .ref 0), (2, .ref 256), (3, vi x3)] [vi z266] s267 295 10442 _
        refine x_A k231_580 (fun _ => rfl) ?_
        refine x_A k231_581 (fun _ => rfl) ?_
        refine x_A k231_582 (fun _ => rfl) ?_
        refine x_A k231_583 (fun _ => rfl) ?_
        refine x_A k231_584 (fun _ => rfl) ?_
        refine x_iadd k231_585 ?_
        refine x_top (fun z272 e_z272 => ?_)
        refine x_scr k231_586 hN ⟨by omega, by omega⟩ (fun z273 g_z273 e_z273 => ?_)
        unfold in32 at g_z273
        have q_z273 : z273 = z261 := by rw [e_z273, e_z261, show z272 = z260 by omega]
        refine x_A k231_587 (fun _ => rfl) ?_
        refine x_A k231_588 (fun _ => rfl) ?_
        refine x_A k231_589 (fun _ => rfl) ?_
        refine x_iadd k231_590 ?_
        refine x_top (fun z274 e_z274 => ?_)
        refine x_scr k231_591 hN ⟨by omega, by omega⟩ (fun z275 g_z275 e_z275 => ?_)
        unfold in32 at g_z275
        have q_z275 : z275 = z263 := by rw [e_z275, e_z263, show z274 = z262 by omega]
        refine x_A k231_592 (fun _ => rfl) ?_
        refine x_A k231_593 (fun _ => rfl) ?_
        refine x_A k231_594 (fun _ => rfl) ?_
        refine x_iadd k231_595 ?_
        refine x_top (fun z276 e_z276 => ?_)
        refine x_scr k231_596 hN ⟨by omega, by omega⟩ (fun z277 g_z277 e_z277 => ?_)
        unfold in32 at g_z277
        have q_z277 : z277 = z265 := by rw [e_z277, e_z265, show z276 = z264 by omega]
        refine x_callV k231_597 (y := 173) (n := 3) (w0 := 0) (w1 := 3) (as := [vi z273, vi z275, vi z277]) (rest := []) (by decide +kernel) (q := 256) (nq := 62) (kq := 15) ⟨by decide, rfl⟩ rfl rfl rfl rfl (xe_mono (C_X11_led_256 s267 hG_s267 J_s267 z273 (by first | exact x_rbe e_z273 g_z273 rfl rfl | exact x_rb g_z273 rfl rfl | exact ⟨by omega, by omega⟩) z275 (by first | exact x_rbe e_z275 g_z275 rfl rfl | exact x_rb g_z275 rfl rfl | exact ⟨by omega, by omega⟩) z277 (by first | exact x_rbe e_z277 g_z277 rfl rfl | exact x_rb g_z277 rfl rfl | exact ⟨by omega, by omega⟩)) ?_)
        rintro s279 v ⟨hG_s279, t_s279, z278, rfl, g_z278⟩
        have q280 : s279 46 3 = x1000 := (t_s279 46 3 (show 452 ∉ [5312, 5376, 4123, 5440, 5504, 5568, 5632, 5696, 5760] from by decide +kernel)).trans q268
        have q281 : s279 256 6 = x1001 := (t_s279 256 6 (show 4103 ∉ [5312, 5376, 4123, 5440, 5504, 5568, 5632, 5696, 5760] from by decide +kernel)).trans q269
        have q282 : s279 50 6 = x1002 := (t_s279 50 6 (show 711 ∉ [5312, 5376, 4123, 5440, 5504, 5568, 5632, 5696, 5760] from by decide +kernel)).trans q270
        have q283 : s279 256 10 = x1003 := (t_s279 256 10 (show 4107 ∉ [5312, 5376, 4123, 5440, 5504, 5568, 5632, 5696, 5760] from by decide +kernel)).trans q271
        have J_s279 : J s279 := J.fl J_s267 t_s279 (by decide +kernel)
        have T0_s279 : T0 s279 := T0.fl T0_s267 t_s279 (by decide +kernel)
        show xe (some (N, xs)) 231 600 [(0, .ref 2000), (1, .ref 0), (2, .ref 256), (3, vi x3)] [vi z278] s279 295 10442 _
        refine x_A k231_600 (fun _ => rfl) ?_
        refine x_goto k231_601 (t := 1300) rfl ?_
        refine x_iinc k231_1300 (ls' := [(3, vi (x3 + 7)), (0, .ref 2000), (1, .ref 0), (2, .ref 256)]) rfl (by decide) rfl ?_
        refine x_goto k231_1303 (t := 18) rfl ?_
        refine x_ls (l := [(0, .ref 2000), (1, .ref 0), (2, .ref 256), (3, vi (x3 + 7))]) (show ([0, 1, 2, 3] : List Nat).Nodup from by decide +kernel) ⟨rfl, rfl, rfl, rfl, trivial⟩ ?_
        exact ih s279 (x3 + 7) x1000 x1001 x1002 x1003 hG_s279 trivial ⟨by omega, by omega⟩ (by first | exact x_rb b_x1000 rfl rfl | exact ⟨by omega, by omega⟩) (by first | exact x_rb b_x1001 rfl rfl | exact ⟨by omega, by omega⟩) (by first | exact x_rb b_x1002 rfl rfl | exact ⟨by omega, by omega⟩) (by first | exact x_rb b_x1003 rfl rfl | exact ⟨by omega, by omega⟩) (by omega) (by omega) (q280).symm (q281).symm (q282).symm (q283).symm J_s279 T0_s279  (by omega)
      · rw [c5]
        refine x_B k231_33 rfl (fun _ => rfl) (fun _ => rfl) (fun _ _ => rfl) ?_
        show xe (some (N, xs)) 231 604 [(0, .ref 2000), (1, .ref 0), (2, .ref 256), (3, vi x3)] [] s 295 10442 _
        refine x_A k231_604 (fun _ => rfl) ?_
        refine x_A k231_605 (fun _ => rfl) ?_
        refine x_A k231_606 (fun _ => rfl) ?_
        refine x_A k231_607 (fun _ => rfl) ?_
        refine x_iadd k231_608 ?_
        refine x_top (fun z284 e_z284 => ?_)
        refine x_scr k231_609 hN ⟨by omega, by omega⟩ (fun z285 g_z285 e_z285 => ?_)
        unfold in32 at g_z285
        refine x_callV k231_610 (y := 103) (n := 1) (w0 := 0) (w1 := 1) (as := [vi z285]) (rest := []) (by decide +kernel) (q := 0) (nq := 12) (kq := 3) ⟨by decide, rfl⟩ rfl rfl rfl rfl (xe_mono (C_X10_count_0 s hG i_J z285 (by first | exact x_rbe e_z285 g_z285 rfl rfl | exact x_rb g_z285 rfl rfl | exact ⟨by omega, by omega⟩)) ?_)
        rintro s287 v ⟨hG_s287, t_s287, z286, rfl, g_z286⟩
        have q288 : s287 46 3 = x1000 := (t_s287 46 3 (show 452 ∉ [3329, 3334, 3335, 3336, 3392, 3456, 3520, 3584, 3276, 3648, 3712, 3776, 3840, 3904, 3968, 3277, 4032, 1921, 1926, 1927, 1928, 1984, 2048, 2112, 2176] from by decide +kernel)).trans e_x1000.symm
        have q289 : s287 256 6 = x1001 := (t_s287 256 6 (show 4103 ∉ [3329, 3334, 3335, 3336, 3392, 3456, 3520, 3584, 3276, 3648, 3712, 3776, 3840, 3904, 3968, 3277, 4032, 1921, 1926, 1927, 1928, 1984, 2048, 2112, 2176] from by decide +kernel)).trans e_x1001.symm
        have q290 : s287 50 6 = x1002 := (t_s287 50 6 (show 711 ∉ [3329, 3334, 3335, 3336, 3392, 3456, 3520, 3584, 3276, 3648, 3712, 3776, 3840, 3904, 3968, 3277, 4032, 1921, 1926, 1927, 1928, 1984, 2048, 2112, 2176] from by decide +kernel)).trans e_x1002.symm
        have q291 : s287 256 10 = x1003 := (t_s287 256 10 (show 4107 ∉ [3329, 3334, 3335, 3336, 3392, 3456, 3520, 3584, 3276, 3648, 3712, 3776, 3840, 3904, 3968, 3277, 4032, 1921, 1926, 1927, 1928, 1984, 2048, 2112, 2176] from by decide +kernel)).trans e_x1003.symm
        have J_s287 : J s287 := J.fl i_J t_s287 (by decide +kernel)
        have T0_s287 : T0 s287 := T0.fl i_T0 t_s287 (by decide +kernel)
        show xe (some (N, xs)) 231 613 [(0, .ref 2000), (1, .ref 0), (2, .ref 256), (3, vi x3)] [vi z286] s287 295 10442 _
        refine x_A k231_613 (fun _ => rfl) ?_
        refine x_A k231_614 (fun _ => rfl) ?_
        refine x_A k231_615 (fun _ => rfl) ?_
        refine x_A k231_616 (fun _ => rfl) ?_
        refine x_A k231_617 (fun _ => rfl) ?_
        refine x_iadd k231_618 ?_
        refine x_top (fun z292 e_z292 => ?_)
        refine x_scr k231_619 hN ⟨by omega, by omega⟩ (fun z293 g_z293 e_z293 => ?_)
        unfold in32 at g_z293
        have q_z293 : z293 = z285 := by rw [e_z293, e_z285, show z292 = z284 by omega]
        refine x_callV k231_620 (y := 174) (n := 1) (w0 := 0) (w1 := 1) (as := [vi z293]) (rest := []) (by decide +kernel) (q := 256) (nq := 62) (kq := 15) ⟨by decide, rfl⟩ rfl rfl rfl rfl (xe_mono (C_X11_count_256 s287 hG_s287 J_s287 z293 (by first | exact x_rbe e_z293 g_z293 rfl rfl | exact x_rb g_z293 rfl rfl | exact ⟨by omega, by omega⟩)) ?_)
        rintro s295 v ⟨hG_s295, t_s295, z294, rfl, g_z294⟩
        have q296 : s295 46 3 = x1000 := (t_s295 46 3 (show 452 ∉ [5312, 5376, 4123, 5440, 5504, 5568, 5632, 5696, 5760] from by decide +kernel)).trans q288
        have q297 : s295 256 6 = x1001 := (t_s295 256 6 (show 4103 ∉ [5312, 5376, 4123, 5440, 5504, 5568, 5632, 5696, 5760] from by decide +kernel)).trans q289
        have q298 : s295 50 6 = x1002 := (t_s295 50 6 (show 711 ∉ [5312, 5376, 4123, 5440, 5504, 5568, 5632, 5696, 5760] from by decide +kernel)).trans q290
        have q299 : s295 256 10 = x1003 := (t_s295 256 10 (show 4107 ∉ [5312, 5376, 4123, 5440, 5504, 5568, 5632, 5696, 5760] from by decide +kernel)).trans q291
        have J_s295 : J s295 := J.fl J_s287 t_s295 (by decide +kernel)
        have T0_s295 : T0 s295 := T0.fl T0_s287 t_s295 (by decide +kernel)
        show xe (some (N, xs)) 231 623 [(0, .ref 2000), (1, .ref 0), (2, .ref 256), (3, vi x3)] [vi z294] s295 295 10442 _
        refine x_A k231_623 (fun _ => rfl) ?_
        refine x_goto k231_624 (t := 1300) rfl ?_
        refine x_iinc k231_1300 (ls' := [(3, vi (x3 + 7)), (0, .ref 2000), (1, .ref 0), (2, .ref 256)]) rfl (by decide) rfl ?_
        refine x_goto k231_1303 (t := 18) rfl ?_
        refine x_ls (l := [(0, .ref 2000), (1, .ref 0), (2, .ref 256), (3, vi (x3 + 7))]) (show ([0, 1, 2, 3] : List Nat).Nodup from by decide +kernel) ⟨rfl, rfl, rfl, rfl, trivial⟩ ?_
        exact ih s295 (x3 + 7) x1000 x1001 x1002 x1003 hG_s295 trivial ⟨by omega, by omega⟩ (by first | exact x_rb b_x1000 rfl rfl | exact ⟨by omega, by omega⟩) (by first | exact x_rb b_x1001 rfl rfl | exact ⟨by omega, by omega⟩) (by first | exact x_rb b_x1002 rfl rfl | exact ⟨by omega, by omega⟩) (by first | exact x_rb b_x1003 rfl rfl | exact ⟨by omega, by omega⟩) (by omega) (by omega) (q296).symm (q297).symm (q298).symm (q299).symm J_s295 T0_s295  (by omega)
      · rw [c5]
        refine x_B k231_33 rfl (fun _ => rfl) (fun _ => rfl) (fun _ _ => rfl) ?_
        show xe (some (N, xs)) 231 627 [(0, .ref 2000), (1, .ref 0), (2, .ref 256), (3, vi x3)] [] s 295 10442 _
        refine x_A k231_627 (fun _ => rfl) ?_
        refine x_A k231_628 (fun _ => rfl) ?_
        refine x_A k231_629 (fun _ => rfl) ?_
        refine x_A k231_630 (fun _ => rfl) ?_
        refine x_iadd k231_631 ?_
        refine x_top (fun z300 e_z300 => ?_)
        refine x_scr k231_632 hN ⟨by omega, by omega⟩ (fun z301 g_z301 e_z301 => ?_)
        unfold in32 at g_z301
        refine x_A k231_633 (fun _ => rfl) ?_
        refine x_A k231_634 (fun _ => rfl) ?_
        refine x_A k231_635 (fun _ => rfl) ?_
        refine x_iadd k231_636 ?_
        refine x_top (fun z302 e_z302 => ?_)
        refine x_scr k231_637 hN ⟨by omega, by omega⟩ (fun z303 g_z303 e_z303 => ?_)
        unfold in32 at g_z303
        refine x_i2l k231_638 (by first | exact x_rbe e_z303 g_z303 rfl rfl | exact x_rb g_z303 rfl rfl | exact ⟨by omega, by omega⟩) ?_
        refine x_bipush k231_639 (by decide +kernel) ?_
        refine x_lshl_any k231_641 (fun z304 b_z304 => ?_)
        refine x_A k231_642 (fun _ => rfl) ?_
        refine x_A k231_643 (fun _ => rfl) ?_
        refine x_A k231_644 (fun _ => rfl) ?_
        refine x_iadd k231_645 ?_
        refine x_top (fun z305 e_z305 => ?_)
        refine x_scr k231_646 hN ⟨by omega, by omega⟩ (fun z306 g_z306 e_z306 => ?_)
        unfold in32 at g_z306
        refine x_i2l k231_647 (by first | exact x_rbe e_z306 g_z306 rfl rfl | exact x_rb g_z306 rfl rfl | exact ⟨by omega, by omega⟩) ?_
        refine x_ldc2 k231_648 (z := 4294967295) rfl (by decide +kernel) ?_
        refine x_land_mask k231_651 ⟨by omega, by omega⟩ (fun z307 g_z307 => ?_)
        refine x_lor_any k231_652 (fun z308 b_z308 => ?_)
        refine x_callV k231_653 (y := 104) (n := 2) (w0 := 0) (w1 := 3) (as := [vi z301, vj z308]) (rest := []) (by decide +kernel) (q := 0) (nq := 12) (kq := 3) ⟨by decide, rfl⟩ rfl rfl rfl rfl (xe_mono (C_X10_feed_0 s hG z301 (by first | exact x_rbe e_z301 g_z301 rfl rfl | exact x_rb g_z301 rfl rfl | exact ⟨by omega, by omega⟩) z308 b_z308) ?_)
        rintro s310 v ⟨hG_s310, t_s310, z309, rfl, g_z309⟩
        have q311 : s310 46 3 = x1000 := (t_s310 46 3 (show 452 ∉ [1218, 1280] from by decide +kernel)).trans e_x1000.symm
        have q312 : s310 256 6 = x1001 := (t_s310 256 6 (show 4103 ∉ [1218, 1280] from by decide +kernel)).trans e_x1001.symm
        have q313 : s310 50 6 = x1002 := (t_s310 50 6 (show 711 ∉ [1218, 1280] from by decide +kernel)).trans e_x1002.symm
        have q314 : s310 256 10 = x1003 := (t_s310 256 10 (show 4107 ∉ [1218, 1280] from by decide +kernel)).trans e_x1003.symm
        have J_s310 : J s310 := J.fl i_J t_s310 (by decide +kernel)
        have T0_s310 : T0 s310 := T0.fl i_T0 t_s310 (by decide +kernel)
        show xe (some (N, xs)) 231 656 [(0, .ref 2000), (1, .ref 0), (2, .ref 256), (3, vi x3)] [vi z309] s310 295 10442 _
        refine x_A k231_656 (fun _ => rfl) ?_
        refine x_A k231_657 (fun _ => rfl) ?_
        refine x_A k231_658 (fun _ => rfl) ?_
        refine x_A k231_659 (fun _ => rfl) ?_
        refine x_A k231_660 (fun _ => rfl) ?_
        refine x_iadd k231_661 ?_
        refine x_top (fun z315 e_z315 => ?_)
        refine x_scr k231_662 hN ⟨by omega, by omega⟩ (fun z316 g_z316 e_z316 => ?_)
        unfold in32 at g_z316
        have q_z316 : z316 = z301 := by rw [e_z316, e_z301, show z315 = z300 by omega]
        refine x_A k231_663 (fun _ => rfl) ?_
        refine x_A k231_664 (fun _ => rfl) ?_
        refine x_A k231_665 (fun _ => rfl) ?_
        refine x_iadd k231_666 ?_
        refine x_top (fun z317 e_z317 => ?_)
        refine x_scr k231_667 hN ⟨by omega, by omega⟩ (fun z318 g_z318 e_z318 => ?_)
        unfold in32 at g_z318
        have q_z318 : z318 = z303 := by rw [e_z318, e_z303, show z317 = z302 by omega]
        refine x_i2l k231_668 (by first | exact x_rbe e_z318 g_z318 rfl rfl | exact x_rb g_z318 rfl rfl | exact ⟨by omega, by omega⟩) ?_
        refine x_bipush k231_669 (by decide +kernel) ?_
        refine x_lshl_any k231_671 (fun z319 b_z319 => ?_)
        refine x_A k231_672 (fun _ => rfl) ?_
        refine x_A k231_673 (fun _ => rfl) ?_
        refine x_A k231_674 (fun _ => rfl) ?_
        refine x_iadd k231_675 ?_
        refine x_top (fun z320 e_z320 => ?_)
        refine x_scr k231_676 hN ⟨by omega, by omega⟩ (fun z321 g_z321 e_z321 => ?_)
        unfold in32 at g_z321
        have q_z321 : z321 = z306 := by rw [e_z321, e_z306, show z320 = z305 by omega]
        refine x_i2l k231_677 (by first | exact x_rbe e_z321 g_z321 rfl rfl | exact x_rb g_z321 rfl rfl | exact ⟨by omega, by omega⟩) ?_
        refine x_ldc2 k231_678 (z := 4294967295) rfl (by decide +kernel) ?_
        refine x_land_mask k231_681 ⟨by omega, by omega⟩ (fun z322 g_z322 => ?_)
        refine x_lor_any k231_682 (fun z323 b_z323 => ?_)
        refine x_callV k231_683 (y := 175) (n := 2) (w0 := 0) (w1 := 3) (as := [vi z316, vj z323]) (rest := []) (by decide +kernel) (q := 256) (nq := 62) (kq := 15) ⟨by decide, rfl⟩ rfl rfl rfl rfl (xe_mono (C_X11_feed_256 s310 hG_s310 z316 (by first | exact x_rbe e_z316 g_z316 rfl rfl | exact x_rb g_z316 rfl rfl | exact ⟨by omega, by omega⟩) z323 b_z323) ?_)
        rintro s325 v ⟨hG_s325, t_s325, z324, rfl, g_z324⟩
        have q326 : s325 46 3 = x1000 := (t_s325 46 3 (show 452 ∉ [4131, 5824] from by decide +kernel)).trans q311
        have q327 : s325 256 6 = x1001 := (t_s325 256 6 (show 4103 ∉ [4131, 5824] from by decide +kernel)).trans q312
        have q328 : s325 50 6 = x1002 := (t_s325 50 6 (show 711 ∉ [4131, 5824] from by decide +kernel)).trans q313
        have q329 : s325 256 10 = x1003 := (t_s325 256 10 (show 4107 ∉ [4131, 5824] from by decide +kernel)).trans q314
        have J_s325 : J s325 := J.fl J_s310 t_s325 (by decide +kernel)
        have T0_s325 : T0 s325 := T0.fl T0_s310 t_s325 (by decide +kernel)
        show xe (some (N, xs)) 231 686 [(0, .ref 2000), (1, .ref 0), (2, .ref 256), (3, vi x3)] [vi z324] s325 295 10442 _
        refine x_A k231_686 (fun _ => rfl) ?_
        refine x_goto k231_687 (t := 1300) rfl ?_
        refine x_iinc k231_1300 (ls' := [(3, vi (x3 + 7)), (0, .ref 2000), (1, .ref 0), (2, .ref 256)]) rfl (by decide) rfl ?_
        refine x_goto k231_1303 (t := 18) rfl ?_
        refine x_ls (l := [(0, .ref 2000), (1, .ref 0), (2, .ref 256), (3, vi (x3 + 7))]) (show ([0, 1, 2, 3] : List Nat).Nodup from by decide +kernel) ⟨rfl, rfl, rfl, rfl, trivial⟩ ?_
        exact ih s325 (x3 + 7) x1000 x1001 x1002 x1003 hG_s325 trivial ⟨by omega, by omega⟩ (by first | exact x_rb b_x1000 rfl rfl | exact ⟨by omega, by omega⟩) (by first | exact x_rb b_x1001 rfl rfl | exact ⟨by omega, by omega⟩) (by first | exact x_rb b_x1002 rfl rfl | exact ⟨by omega, by omega⟩) (by first | exact x_rb b_x1003 rfl rfl | exact ⟨by omega, by omega⟩) (by omega) (by omega) (q326).symm (q327).symm (q328).symm (q329).symm J_s325 T0_s325  (by omega)
      · rw [c5]
        refine x_B k231_33 rfl (fun _ => rfl) (fun _ => rfl) (fun _ _ => rfl) ?_
        show xe (some (N, xs)) 231 690 [(0, .ref 2000), (1, .ref 0), (2, .ref 256), (3, vi x3)] [] s 295 10442 _
        refine x_A k231_690 (fun _ => rfl) ?_
        refine x_A k231_691 (fun _ => rfl) ?_
        refine x_A k231_692 (fun _ => rfl) ?_
        refine x_A k231_693 (fun _ => rfl) ?_
        refine x_iadd k231_694 ?_
        refine x_top (fun z330 e_z330 => ?_)
        refine x_scr k231_695 hN ⟨by omega, by omega⟩ (fun z331 g_z331 e_z331 => ?_)
        unfold in32 at g_z331
        refine x_callV k231_696 (y := 105) (n := 1) (w0 := 0) (w1 := 1) (as := [vi z331]) (rest := []) (by decide +kernel) (q := 0) (nq := 12) (kq := 3) ⟨by decide, rfl⟩ rfl rfl rfl rfl (xe_mono (C_X10_rule_0 s hG z331 (by first | exact x_rbe e_z331 g_z331 rfl rfl | exact x_rb g_z331 rfl rfl | exact ⟨by omega, by omega⟩) i_J) ?_)
        rintro s333 v ⟨hG_s333, t_s333, z332, rfl, g_z332, J_s333⟩
        have q334 : s333 46 3 = x1000 := (t_s333 46 3 (show 452 ∉ [1219, 1220, 1221, 1222, 1223, 1600, 1728, 1856, 1408, 1472, 1350, 3276, 3277, 12, 1218] from by decide +kernel)).trans e_x1000.symm
        have q335 : s333 256 6 = x1001 := (t_s333 256 6 (show 4103 ∉ [1219, 1220, 1221, 1222, 1223, 1600, 1728, 1856, 1408, 1472, 1350, 3276, 3277, 12, 1218] from by decide +kernel)).trans e_x1001.symm
        have q336 : s333 50 6 = x1002 := (t_s333 50 6 (show 711 ∉ [1219, 1220, 1221, 1222, 1223, 1600, 1728, 1856, 1408, 1472, 1350, 3276, 3277, 12, 1218] from by decide +kernel)).trans e_x1002.symm
        have q337 : s333 256 10 = x1003 := (t_s333 256 10 (show 4107 ∉ [1219, 1220, 1221, 1222, 1223, 1600, 1728, 1856, 1408, 1472, 1350, 3276, 3277, 12, 1218] from by decide +kernel)).trans e_x1003.symm
        have T0_s333 : T0 s333 := T0.fl i_T0 t_s333 (by decide +kernel)
        show xe (some (N, xs)) 231 699 [(0, .ref 2000), (1, .ref 0), (2, .ref 256), (3, vi x3)] [vi z332] s333 295 10442 _
        refine x_A k231_699 (fun _ => rfl) ?_
        refine x_A k231_700 (fun _ => rfl) ?_
        refine x_A k231_701 (fun _ => rfl) ?_
        refine x_A k231_702 (fun _ => rfl) ?_
        refine x_A k231_703 (fun _ => rfl) ?_
        refine x_iadd k231_704 ?_
        refine x_top (fun z338 e_z338 => ?_)
        refine x_scr k231_705 hN ⟨by omega, by omega⟩ (fun z339 g_z339 e_z339 => ?_)
        unfold in32 at g_z339
        have q_z339 : z339 = z331 := by rw [e_z339, e_z331, show z338 = z330 by omega]
        obtain ⟨z340, e_z340⟩ : ∃ z, z = s333 256 20 := ⟨_, rfl⟩
        have g_z340 : (0 : Int) ≤ s333 256 20 ∧ s333 256 20 ≤ 64 := hG_s333 256 20
        obtain ⟨z341, e_z341⟩ : ∃ z, z = s333 256 17 := ⟨_, rfl⟩
        have g_z341 : (0 : Int) ≤ s333 256 17 ∧ s333 256 17 ≤ 8 := hG_s333 256 17
        refine x_callV k231_706 (y := 187) (n := 1) (w0 := 0) (w1 := 1) (as := [vi z339]) (rest := []) (by decide +kernel) (q := 256) (nq := 62) (kq := 15) ⟨by decide, rfl⟩ rfl rfl rfl rfl (xe_mono (C_X11_rule_256 s333 hG_s333 z339 (by first | exact x_rbe e_z339 g_z339 rfl rfl | exact x_rb g_z339 rfl rfl | exact ⟨by omega, by omega⟩) ⟨by omega, by omega⟩ ⟨by omega, by omega⟩ J_s333) ?_)
        rintro s343 v ⟨hG_s343, t_s343, z342, rfl, g_z342, J_s343⟩
        have q344 : s343 46 3 = x1000 := (t_s343 46 3 (show 452 ∉ [4133, 4136, 4132, 4134, 4135, 5120, 5184, 5248, 4131, 4992, 5056, 4117, 4114] from by decide +kernel)).trans q334
        have q345 : s343 256 6 = x1001 := (t_s343 256 6 (show 4103 ∉ [4133, 4136, 4132, 4134, 4135, 5120, 5184, 5248, 4131, 4992, 5056, 4117, 4114] from by decide +kernel)).trans q335
        have q346 : s343 50 6 = x1002 := (t_s343 50 6 (show 711 ∉ [4133, 4136, 4132, 4134, 4135, 5120, 5184, 5248, 4131, 4992, 5056, 4117, 4114] from by decide +kernel)).trans q336
        have q347 : s343 256 10 = x1003 := (t_s343 256 10 (show 4107 ∉ [4133, 4136, 4132, 4134, 4135, 5120, 5184, 5248, 4131, 4992, 5056, 4117, 4114] from by decide +kernel)).trans q337
        have T0_s343 : T0 s343 := T0.fl T0_s333 t_s343 (by decide +kernel)
        show xe (some (N, xs)) 231 709 [(0, .ref 2000), (1, .ref 0), (2, .ref 256), (3, vi x3)] [vi z342] s343 295 10442 _
        refine x_A k231_709 (fun _ => rfl) ?_
        refine x_goto k231_710 (t := 1300) rfl ?_
        refine x_iinc k231_1300 (ls' := [(3, vi (x3 + 7)), (0, .ref 2000), (1, .ref 0), (2, .ref 256)]) rfl (by decide) rfl ?_
        refine x_goto k231_1303 (t := 18) rfl ?_
        refine x_ls (l := [(0, .ref 2000), (1, .ref 0), (2, .ref 256), (3, vi (x3 + 7))]) (show ([0, 1, 2, 3] : List Nat).Nodup from by decide +kernel) ⟨rfl, rfl, rfl, rfl, trivial⟩ ?_
        exact ih s343 (x3 + 7) x1000 x1001 x1002 x1003 hG_s343 trivial ⟨by omega, by omega⟩ (by first | exact x_rb b_x1000 rfl rfl | exact ⟨by omega, by omega⟩) (by first | exact x_rb b_x1001 rfl rfl | exact ⟨by omega, by omega⟩) (by first | exact x_rb b_x1002 rfl rfl | exact ⟨by omega, by omega⟩) (by first | exact x_rb b_x1003 rfl rfl | exact ⟨by omega, by omega⟩) (by omega) (by omega) (q344).symm (q345).symm (q346).symm (q347).symm J_s343 T0_s343  (by omega)
      · rw [c5]
        refine x_B k231_33 rfl (fun _ => rfl) (fun _ => rfl) (fun _ _ => rfl) ?_
        show xe (some (N, xs)) 231 713 [(0, .ref 2000), (1, .ref 0), (2, .ref 256), (3, vi x3)] [] s 295 10442 _
        refine x_A k231_713 (fun _ => rfl) ?_
        refine x_callV k231_714 (y := 106) (n := 0) (w0 := 0) (w1 := 0) (as := []) (rest := []) (by decide +kernel) (q := 0) (nq := 12) (kq := 3) ⟨by decide, rfl⟩ rfl rfl rfl rfl (xe_mono (C_X10_fault_0 s hG) ?_)
        rintro s349 v ⟨-, t_s349, z348, rfl, g_z348⟩
        rw [t_s349.nil]
        show xe (some (N, xs)) 231 717 [(0, .ref 2000), (1, .ref 0), (2, .ref 256), (3, vi x3)] [vi z348] s 295 10442 _
        refine x_A k231_717 (fun _ => rfl) ?_
        refine x_A k231_718 (fun _ => rfl) ?_
        refine x_callV k231_719 (y := 188) (n := 0) (w0 := 0) (w1 := 0) (as := []) (rest := []) (by decide +kernel) (q := 256) (nq := 62) (kq := 15) ⟨by decide, rfl⟩ rfl rfl rfl rfl (xe_mono (C_X11_fault_256 s hG) ?_)
        rintro s351 v ⟨-, t_s351, z350, rfl, g_z350⟩
        rw [t_s351.nil]
        show xe (some (N, xs)) 231 722 [(0, .ref 2000), (1, .ref 0), (2, .ref 256), (3, vi x3)] [vi z350] s 295 10442 _
        refine x_A k231_722 (fun _ => rfl) ?_
        refine x_goto k231_723 (t := 1300) rfl ?_
        refine x_iinc k231_1300 (ls' := [(3, vi (x3 + 7)), (0, .ref 2000), (1, .ref 0), (2, .ref 256)]) rfl (by decide) rfl ?_
        refine x_goto k231_1303 (t := 18) rfl ?_
        refine x_ls (l := [(0, .ref 2000), (1, .ref 0), (2, .ref 256), (3, vi (x3 + 7))]) (show ([0, 1, 2, 3] : List Nat).Nodup from by decide +kernel) ⟨rfl, rfl, rfl, rfl, trivial⟩ ?_
        exact ih s (x3 + 7) x1000 x1001 x1002 x1003 hG f ⟨by omega, by omega⟩ (by first | exact x_rb b_x1000 rfl rfl | exact ⟨by omega, by omega⟩) (by first | exact x_rb b_x1001 rfl rfl | exact ⟨by omega, by omega⟩) (by first | exact x_rb b_x1002 rfl rfl | exact ⟨by omega, by omega⟩) (by first | exact x_rb b_x1003 rfl rfl | exact ⟨by omega, by omega⟩) (by omega) (by omega) (e_x1000.symm).symm (e_x1001.symm).symm (e_x1002.symm).symm (e_x1003.symm).symm i_J i_T0  (by omega)
      · rw [c5]
        refine x_B k231_33 rfl (fun _ => rfl) (fun _ => rfl) (fun _ _ => rfl) ?_
        show xe (some (N, xs)) 231 726 [(0, .ref 2000), (1, .ref 0), (2, .ref 256), (3, vi x3)] [] s 295 10442 _
        refine x_A k231_726 (fun _ => rfl) ?_
        refine x_A k231_727 (fun _ => rfl) ?_
        refine x_A k231_728 (fun _ => rfl) ?_
        refine x_A k231_729 (fun _ => rfl) ?_
        refine x_iadd k231_730 ?_
        refine x_top (fun z352 e_z352 => ?_)
        refine x_scr k231_731 hN ⟨by omega, by omega⟩ (fun z353 g_z353 e_z353 => ?_)
        unfold in32 at g_z353
        refine x_A k231_732 (fun _ => rfl) ?_
        refine x_A k231_733 (fun _ => rfl) ?_
        refine x_A k231_734 (fun _ => rfl) ?_
        refine x_iadd k231_735 ?_
        refine x_top (fun z354 e_z354 => ?_)
        refine x_scr k231_736 hN ⟨by omega, by omega⟩ (fun z355 g_z355 e_z355 => ?_)
        unfold in32 at g_z355
        refine x_callV k231_737 (y := 107) (n := 2) (w0 := 0) (w1 := 2) (as := [vi z353, vi z355]) (rest := []) (by decide +kernel) (q := 0) (nq := 12) (kq := 3) ⟨by decide, rfl⟩ rfl rfl rfl rfl (xe_mono (C_X10_force_0 s hG i_J z353 (by first | exact x_rbe e_z353 g_z353 rfl rfl | exact x_rb g_z353 rfl rfl | exact ⟨by omega, by omega⟩) z355 (by first | exact x_rbe e_z355 g_z355 rfl rfl | exact x_rb g_z355 rfl rfl | exact ⟨by omega, by omega⟩)) ?_)
        rintro s357 v ⟨hG_s357, t_s357, z356, rfl, g_z356⟩
        have q358 : s357 46 3 = x1000 := (t_s357 46 3 (show 452 ∉ [1921, 1926, 1927, 1928, 1984, 2048, 2112, 2176] from by decide +kernel)).trans e_x1000.symm
        have q359 : s357 256 6 = x1001 := (t_s357 256 6 (show 4103 ∉ [1921, 1926, 1927, 1928, 1984, 2048, 2112, 2176] from by decide +kernel)).trans e_x1001.symm
        have q360 : s357 50 6 = x1002 := (t_s357 50 6 (show 711 ∉ [1921, 1926, 1927, 1928, 1984, 2048, 2112, 2176] from by decide +kernel)).trans e_x1002.symm
        have q361 : s357 256 10 = x1003 := (t_s357 256 10 (show 4107 ∉ [1921, 1926, 1927, 1928, 1984, 2048, 2112, 2176] from by decide +kernel)).trans e_x1003.symm
        have J_s357 : J s357 := J.fl i_J t_s357 (by decide +kernel)
        have T0_s357 : T0 s357 := T0.fl i_T0 t_s357 (by decide +kernel)
        show xe (some (N, xs)) 231 740 [(0, .ref 2000), (1, .ref 0), (2, .ref 256), (3, vi x3)] [vi z356] s357 295 10442 _
        refine x_A k231_740 (fun _ => rfl) ?_
        refine x_A k231_741 (fun _ => rfl) ?_
        refine x_A k231_742 (fun _ => rfl) ?_
        refine x_A k231_743 (fun _ => rfl) ?_
        refine x_A k231_744 (fun _ => rfl) ?_
        refine x_iadd k231_745 ?_
        refine x_top (fun z362 e_z362 => ?_)
        refine x_scr k231_746 hN ⟨by omega, by omega⟩ (fun z363 g_z363 e_z363 => ?_)
        unfold in32 at g_z363
        have q_z363 : z363 = z353 := by rw [e_z363, e_z353, show z362 = z352 by omega]
        refine x_A k231_747 (fun _ => rfl) ?_
        refine x_A k231_748 (fun _ => rfl) ?_
        refine x_A k231_749 (fun _ => rfl) ?_
        refine x_iadd k231_750 ?_
        refine x_top (fun z364 e_z364 => ?_)
        refine x_scr k231_751 hN ⟨by omega, by omega⟩ (fun z365 g_z365 e_z365 => ?_)
        unfold in32 at g_z365
        have q_z365 : z365 = z355 := by rw [e_z365, e_z355, show z364 = z354 by omega]
        refine x_callV k231_752 (y := 189) (n := 2) (w0 := 0) (w1 := 2) (as := [vi z363, vi z365]) (rest := []) (by decide +kernel) (q := 256) (nq := 62) (kq := 15) ⟨by decide, rfl⟩ rfl rfl rfl rfl (xe_mono (C_X11_force_256 s357 hG_s357 J_s357 z363 (by first | exact x_rbe e_z363 g_z363 rfl rfl | exact x_rb g_z363 rfl rfl | exact ⟨by omega, by omega⟩) z365 (by first | exact x_rbe e_z365 g_z365 rfl rfl | exact x_rb g_z365 rfl rfl | exact ⟨by omega, by omega⟩)) ?_)
        rintro s367 v ⟨hG_s367, t_s367, z366, rfl, g_z366⟩
        have q368 : s367 46 3 = x1000 := (t_s367 46 3 (show 452 ∉ [5312, 5376, 4123] from by decide +kernel)).trans q358
        have q369 : s367 256 6 = x1001 := (t_s367 256 6 (show 4103 ∉ [5312, 5376, 4123] from by decide +kernel)).trans q359
        have q370 : s367 50 6 = x1002 := (t_s367 50 6 (show 711 ∉ [5312, 5376, 4123] from by decide +kernel)).trans q360
        have q371 : s367 256 10 = x1003 := (t_s367 256 10 (show 4107 ∉ [5312, 5376, 4123] from by decide +kernel)).trans q361
        have J_s367 : J s367 := J.fl J_s357 t_s367 (by decide +kernel)
        have T0_s367 : T0 s367 := T0.fl T0_s357 t_s367 (by decide +kernel)
        show xe (some (N, xs)) 231 755 [(0, .ref 2000), (1, .ref 0), (2, .ref 256), (3, vi x3)] [vi z366] s367 295 10442 _
        refine x_A k231_755 (fun _ => rfl) ?_
        refine x_goto k231_756 (t := 1300) rfl ?_
        refine x_iinc k231_1300 (ls' := [(3, vi (x3 + 7)), (0, .ref 2000), (1, .ref 0), (2, .ref 256)]) rfl (by decide) rfl ?_
        refine x_goto k231_1303 (t := 18) rfl ?_
        refine x_ls (l := [(0, .ref 2000), (1, .ref 0), (2, .ref 256), (3, vi (x3 + 7))]) (show ([0, 1, 2, 3] : List Nat).Nodup from by decide +kernel) ⟨rfl, rfl, rfl, rfl, trivial⟩ ?_
        exact ih s367 (x3 + 7) x1000 x1001 x1002 x1003 hG_s367 trivial ⟨by omega, by omega⟩ (by first | exact x_rb b_x1000 rfl rfl | exact ⟨by omega, by omega⟩) (by first | exact x_rb b_x1001 rfl rfl | exact ⟨by omega, by omega⟩) (by first | exact x_rb b_x1002 rfl rfl | exact ⟨by omega, by omega⟩) (by first | exact x_rb b_x1003 rfl rfl | exact ⟨by omega, by omega⟩) (by omega) (by omega) (q368).symm (q369).symm (q370).symm (q371).symm J_s367 T0_s367  (by omega)
      · rw [c5]
        refine x_B k231_33 rfl (fun _ => rfl) (fun _ => rfl) (fun _ _ => rfl) ?_
        show xe (some (N, xs)) 231 759 [(0, .ref 2000), (1, .ref 0), (2, .ref 256), (3, vi x3)] [] s 295 10442 _
        refine x_A k231_759 (fun _ => rfl) ?_
        refine x_A k231_760 (fun _ => rfl) ?_
        refine x_A k231_761 (fun _ => rfl) ?_
        refine x_A k231_762 (fun _ => rfl) ?_
        refine x_iadd k231_763 ?_
        refine x_top (fun z372 e_z372 => ?_)
        refine x_scr k231_764 hN ⟨by omega, by omega⟩ (fun z373 g_z373 e_z373 => ?_)
        unfold in32 at g_z373
        refine x_A k231_765 (fun _ => rfl) ?_
        refine x_A k231_766 (fun _ => rfl) ?_
        refine x_A k231_767 (fun _ => rfl) ?_
        refine x_iadd k231_768 ?_
        refine x_top (fun z374 e_z374 => ?_)
        refine x_scr k231_769 hN ⟨by omega, by omega⟩ (fun z375 g_z375 e_z375 => ?_)
        unfold in32 at g_z375
        refine x_A k231_770 (fun _ => rfl) ?_
        refine x_A k231_771 (fun _ => rfl) ?_
        refine x_A k231_772 (fun _ => rfl) ?_
        refine x_iadd k231_773 ?_
        refine x_top (fun z376 e_z376 => ?_)
        refine x_scr k231_774 hN ⟨by omega, by omega⟩ (fun z377 g_z377 e_z377 => ?_)
        unfold in32 at g_z377
        refine x_callV k231_775 (y := 108) (n := 3) (w0 := 0) (w1 := 3) (as := [vi z373, vi z375, vi z377]) (rest := []) (by decide +kernel) (q := 0) (nq := 12) (kq := 3) ⟨by decide, rfl⟩ rfl rfl rfl rfl (xe_mono (C_X10_word_0 s hG z373 (by first | exact x_rbe e_z373 g_z373 rfl rfl | exact x_rb g_z373 rfl rfl | exact ⟨by omega, by omega⟩) z375 (by first | exact x_rbe e_z375 g_z375 rfl rfl | exact x_rb g_z375 rfl rfl | exact ⟨by omega, by omega⟩) z377 (by first | exact x_rbe e_z377 g_z377 rfl rfl | exact x_rb g_z377 rfl rfl | exact ⟨by omega, by omega⟩)) ?_)
        rintro s379 v ⟨hG_s379, t_s379, z378, rfl, g_z378⟩
        have q380 : s379 46 3 = x1000 := (t_s379 46 3 (show 452 ∉ [2244, 2304, 2368, 2432] from by decide +kernel)).trans e_x1000.symm
        have q381 : s379 256 6 = x1001 := (t_s379 256 6 (show 4103 ∉ [2244, 2304, 2368, 2432] from by decide +kernel)).trans e_x1001.symm
        have q382 : s379 50 6 = x1002 := (t_s379 50 6 (show 711 ∉ [2244, 2304, 2368, 2432] from by decide +kernel)).trans e_x1002.symm
        have q383 : s379 256 10 = x1003 := (t_s379 256 10 (show 4107 ∉ [2244, 2304, 2368, 2432] from by decide +kernel)).trans e_x1003.symm
        have J_s379 : J s379 := J.fl i_J t_s379 (by decide +kernel)
        have T0_s379 : T0 s379 := T0.fl i_T0 t_s379 (by decide +kernel)
        show xe (some (N, xs)) 231 778 [(0, .ref 2000), (1, .ref 0), (2, .ref 256), (3, vi x3)] [vi z378] s379 295 10442 _
        refine x_A k231_778 (fun _ => rfl) ?_
        refine x_A k231_779 (fun _ => rfl) ?_
        refine x_A k231_780 (fun _ => rfl) ?_
        refine x_A k231_781 (fun _ => rfl) ?_
        refine x_A k231_782 (fun _ => rfl) ?_
        refine x_iadd k231_783 ?_
        refine x_top (fun z384 e_z384 => ?_)
        refine x_scr k231_784 hN ⟨by omega, by omega⟩ (fun z385 g_z385 e_z385 => ?_)
        unfold in32 at g_z385
        have q_z385 : z385 = z373 := by rw [e_z385, e_z373, show z384 = z372 by omega]
        refine x_A k231_785 (fun _ => rfl) ?_
        refine x_A k231_786 (fun _ => rfl) ?_
        refine x_A k231_787 (fun _ => rfl) ?_
        refine x_iadd k231_788 ?_
        refine x_top (fun z386 e_z386 => ?_)
        refine x_scr k231_789 hN ⟨by omega, by omega⟩ (fun z387 g_z387 e_z387 => ?_)
        unfold in32 at g_z387
        have q_z387 : z387 = z375 := by rw [e_z387, e_z375, show z386 = z374 by omega]
        refine x_A k231_790 (fun _ => rfl) ?_
        refine x_A k231_791 (fun _ => rfl) ?_
        refine x_A k231_792 (fun _ => rfl) ?_
        refine x_iadd k231_793 ?_
        refine x_top (fun z388 e_z388 => ?_)
        refine x_scr k231_794 hN ⟨by omega, by omega⟩ (fun z389 g_z389 e_z389 => ?_)
        unfold in32 at g_z389
        have q_z389 : z389 = z377 := by rw [e_z389, e_z377, show z388 = z376 by omega]
        refine x_callV k231_795 (y := 192) (n := 3) (w0 := 0) (w1 := 3) (as := [vi z385, vi z387, vi z389]) (rest := []) (by decide +kernel) (q := 256) (nq := 62) (kq := 15) ⟨by decide, rfl⟩ rfl rfl rfl rfl (xe_mono (C_X11_word_256 s379 hG_s379 z385 (by first | exact x_rbe e_z385 g_z385 rfl rfl | exact x_rb g_z385 rfl rfl | exact ⟨by omega, by omega⟩) z387 (by first | exact x_rbe e_z387 g_z387 rfl rfl | exact x_rb g_z387 rfl rfl | exact ⟨by omega, by omega⟩) z389 (by first | exact x_rbe e_z389 g_z389 rfl rfl | exact x_rb g_z389 rfl rfl | exact ⟨by omega, by omega⟩)) ?_)
        rintro s391 v ⟨hG_s391, t_s391, z390, rfl, g_z390⟩
        have q392 : s391 46 3 = x1000 := (t_s391 46 3 (show 452 ∉ [4137, 5888, 5952] from by decide +kernel)).trans q380
        have q393 : s391 256 6 = x1001 := (t_s391 256 6 (show 4103 ∉ [4137, 5888, 5952] from by decide +kernel)).trans q381
        have q394 : s391 50 6 = x1002 := (t_s391 50 6 (show 711 ∉ [4137, 5888, 5952] from by decide +kernel)).trans q382
        have q395 : s391 256 10 = x1003 := (t_s391 256 10 (show 4107 ∉ [4137, 5888, 5952] from by decide +kernel)).trans q383
        have J_s391 : J s391 := J.fl J_s379 t_s391 (by decide +kernel)
        have T0_s391 : T0 s391 := T0.fl T0_s379 t_s391 (by decide +kernel)
        show xe (some (N, xs)) 231 798 [(0, .ref 2000), (1, .ref 0), (2, .ref 256), (3, vi x3)] [vi z390] s391 295 10442 _
        refine x_A k231_798 (fun _ => rfl) ?_
        refine x_goto k231_799 (t := 1300) rfl ?_
        refine x_iinc k231_1300 (ls' := [(3, vi (x3 + 7)), (0, .ref 2000), (1, .ref 0), (2, .ref 256)]) rfl (by decide) rfl ?_
        refine x_goto k231_1303 (t := 18) rfl ?_
        refine x_ls (l := [(0, .ref 2000), (1, .ref 0), (2, .ref 256), (3, vi (x3 + 7))]) (show ([0, 1, 2, 3] : List Nat).Nodup from by decide +kernel) ⟨rfl, rfl, rfl, rfl, trivial⟩ ?_
        exact ih s391 (x3 + 7) x1000 x1001 x1002 x1003 hG_s391 trivial ⟨by omega, by omega⟩ (by first | exact x_rb b_x1000 rfl rfl | exact ⟨by omega, by omega⟩) (by first | exact x_rb b_x1001 rfl rfl | exact ⟨by omega, by omega⟩) (by first | exact x_rb b_x1002 rfl rfl | exact ⟨by omega, by omega⟩) (by first | exact x_rb b_x1003 rfl rfl | exact ⟨by omega, by omega⟩) (by omega) (by omega) (q392).symm (q393).symm (q394).symm (q395).symm J_s391 T0_s391  (by omega)
      · rw [c5]
        refine x_B k231_33 rfl (fun _ => rfl) (fun _ => rfl) (fun _ _ => rfl) ?_
        show xe (some (N, xs)) 231 802 [(0, .ref 2000), (1, .ref 0), (2, .ref 256), (3, vi x3)] [] s 295 10442 _
        refine x_A k231_802 (fun _ => rfl) ?_
        refine x_A k231_803 (fun _ => rfl) ?_
        refine x_A k231_804 (fun _ => rfl) ?_
        refine x_A k231_805 (fun _ => rfl) ?_
        refine x_iadd k231_806 ?_
        refine x_top (fun z396 e_z396 => ?_)
        refine x_scr k231_807 hN ⟨by omega, by omega⟩ (fun z397 g_z397 e_z397 => ?_)
        unfold in32 at g_z397
        refine x_A k231_808 (fun _ => rfl) ?_
        refine x_A k231_809 (fun _ => rfl) ?_
        refine x_A k231_810 (fun _ => rfl) ?_
        refine x_iadd k231_811 ?_
        refine x_top (fun z398 e_z398 => ?_)
        refine x_scr k231_812 hN ⟨by omega, by omega⟩ (fun z399 g_z399 e_z399 => ?_)
        unfold in32 at g_z399
        refine x_callV k231_813 (y := 109) (n := 2) (w0 := 0) (w1 := 2) (as := [vi z397, vi z399]) (rest := []) (by decide +kernel) (q := 0) (nq := 12) (kq := 3) ⟨by decide, rfl⟩ rfl rfl rfl rfl (xe_mono (C_X10_leads_0 s hG z397 (by first | exact x_rbe e_z397 g_z397 rfl rfl | exact x_rb g_z397 rfl rfl | exact ⟨by omega, by omega⟩) z399 (by first | exact x_rbe e_z399 g_z399 rfl rfl | exact x_rb g_z399 rfl rfl | exact ⟨by omega, by omega⟩)) ?_)
        rintro s401 v ⟨-, t_s401, z400, rfl, g_z400⟩
        rw [t_s401.nil]
        show xe (some (N, xs)) 231 816 [(0, .ref 2000), (1, .ref 0), (2, .ref 256), (3, vi x3)] [vi z400] s 295 10442 _
        refine x_A k231_816 (fun _ => rfl) ?_
        refine x_A k231_817 (fun _ => rfl) ?_
        refine x_A k231_818 (fun _ => rfl) ?_
        refine x_A k231_819 (fun _ => rfl) ?_
        refine x_A k231_820 (fun _ => rfl) ?_
        refine x_iadd k231_821 ?_
        refine x_top (fun z402 e_z402 => ?_)
        refine x_scr k231_822 hN ⟨by omega, by omega⟩ (fun z403 g_z403 e_z403 => ?_)
        unfold in32 at g_z403
        have q_z403 : z403 = z397 := by rw [e_z403, e_z397, show z402 = z396 by omega]
        refine x_A k231_823 (fun _ => rfl) ?_
        refine x_A k231_824 (fun _ => rfl) ?_
        refine x_A k231_825 (fun _ => rfl) ?_
        refine x_iadd k231_826 ?_
        refine x_top (fun z404 e_z404 => ?_)
        refine x_scr k231_827 hN ⟨by omega, by omega⟩ (fun z405 g_z405 e_z405 => ?_)
        unfold in32 at g_z405
        have q_z405 : z405 = z399 := by rw [e_z405, e_z399, show z404 = z398 by omega]
        refine x_callV k231_828 (y := 193) (n := 2) (w0 := 0) (w1 := 2) (as := [vi z403, vi z405]) (rest := []) (by decide +kernel) (q := 256) (nq := 62) (kq := 15) ⟨by decide, rfl⟩ rfl rfl rfl rfl (xe_mono (C_X11_leads_256 s hG z403 (by first | exact x_rbe e_z403 g_z403 rfl rfl | exact x_rb g_z403 rfl rfl | exact ⟨by omega, by omega⟩) z405 (by first | exact x_rbe e_z405 g_z405 rfl rfl | exact x_rb g_z405 rfl rfl | exact ⟨by omega, by omega⟩)) ?_)
        rintro s407 v ⟨-, t_s407, z406, rfl, g_z406⟩
        rw [t_s407.nil]
        show xe (some (N, xs)) 231 831 [(0, .ref 2000), (1, .ref 0), (2, .ref 256), (3, vi x3)] [vi z406] s 295 10442 _
        refine x_A k231_831 (fun _ => rfl) ?_
        refine x_goto k231_832 (t := 1300) rfl ?_
        refine x_iinc k231_1300 (ls' := [(3, vi (x3 + 7)), (0, .ref 2000), (1, .ref 0), (2, .ref 256)]) rfl (by decide) rfl ?_
        refine x_goto k231_1303 (t := 18) rfl ?_
        refine x_ls (l := [(0, .ref 2000), (1, .ref 0), (2, .ref 256), (3, vi (x3 + 7))]) (show ([0, 1, 2, 3] : List Nat).Nodup from by decide +kernel) ⟨rfl, rfl, rfl, rfl, trivial⟩ ?_
        exact ih s (x3 + 7) x1000 x1001 x1002 x1003 hG f ⟨by omega, by omega⟩ (by first | exact x_rb b_x1000 rfl rfl | exact ⟨by omega, by omega⟩) (by first | exact x_rb b_x1001 rfl rfl | exact ⟨by omega, by omega⟩) (by first | exact x_rb b_x1002 rfl rfl | exact ⟨by omega, by omega⟩) (by first | exact x_rb b_x1003 rfl rfl | exact ⟨by omega, by omega⟩) (by omega) (by omega) (e_x1000.symm).symm (e_x1001.symm).symm (e_x1002.symm).symm (e_x1003.symm).symm i_J i_T0  (by omega)
      · rw [c5]
        refine x_B k231_33 rfl (fun _ => rfl) (fun _ => rfl) (fun _ _ => rfl) ?_
        show xe (some (N, xs)) 231 835 [(0, .ref 2000), (1, .ref 0), (2, .ref 256), (3, vi x3)] [] s 295 10442 _
        refine x_A k231_835 (fun _ => rfl) ?_
        refine x_callV k231_836 (y := 110) (n := 0) (w0 := 0) (w1 := 0) (as := []) (rest := []) (by decide +kernel) (q := 0) (nq := 12) (kq := 3) ⟨by decide, rfl⟩ rfl rfl rfl rfl (xe_mono (C_X10_ask_0 s hG) ?_)
        rintro s409 v ⟨hG_s409, t_s409, z408, rfl, g_z408⟩
        have q410 : s409 46 3 = x1000 := (t_s409 46 3 (show 452 ∉ [2501, 2502, 2560, 2688, 2816, 1219, 1220, 1221, 1222, 1223, 2503, 12, 1218] from by decide +kernel)).trans e_x1000.symm
        have q411 : s409 256 6 = x1001 := (t_s409 256 6 (show 4103 ∉ [2501, 2502, 2560, 2688, 2816, 1219, 1220, 1221, 1222, 1223, 2503, 12, 1218] from by decide +kernel)).trans e_x1001.symm
        have q412 : s409 50 6 = x1002 := (t_s409 50 6 (show 711 ∉ [2501, 2502, 2560, 2688, 2816, 1219, 1220, 1221, 1222, 1223, 2503, 12, 1218] from by decide +kernel)).trans e_x1002.symm
        have q413 : s409 256 10 = x1003 := (t_s409 256 10 (show 4107 ∉ [2501, 2502, 2560, 2688, 2816, 1219, 1220, 1221, 1222, 1223, 2503, 12, 1218] from by decide +kernel)).trans e_x1003.symm
        have J_s409 : J s409 := J.fl i_J t_s409 (by decide +kernel)
        have T0_s409 : T0 s409 := T0.fl i_T0 t_s409 (by decide +kernel)
        show xe (some (N, xs)) 231 839 [(0, .ref 2000), (1, .ref 0), (2, .ref 256), (3, vi x3)] [vi z408] s409 295 10442 _
        refine x_A k231_839 (fun _ => rfl) ?_
        refine x_A k231_840 (fun _ => rfl) ?_
        obtain ⟨z414, e_z414⟩ : ∃ z, z = s409 256 47 := ⟨_, rfl⟩
        have g_z414 : (0 : Int) ≤ s409 256 47 ∧ s409 256 47 ≤ 110 := hG_s409 256 47
        obtain ⟨z415, e_z415⟩ : ∃ z, z = s409 256 48 := ⟨_, rfl⟩
        have g_z415 : (0 : Int) ≤ s409 256 48 ∧ s409 256 48 ≤ 120 := hG_s409 256 48
        obtain ⟨z416, e_z416⟩ : ∃ z, z = s409 256 36 := ⟨_, rfl⟩
        have g_z416 : (0 : Int) ≤ s409 256 36 ∧ s409 256 36 ≤ 160 := hG_s409 256 36
        obtain ⟨z417, e_z417⟩ : ∃ z, z = s409 256 34 := ⟨_, rfl⟩
        have g_z417 : (0 : Int) ≤ s409 256 34 ∧ s409 256 34 ≤ 160 := hG_s409 256 34
        obtain ⟨z418, e_z418⟩ : ∃ z, z = s409 256 43 := ⟨_, rfl⟩
        have g_z418 : (0 : Int) ≤ s409 256 43 ∧ s409 256 43 ≤ 8 := hG_s409 256 43
        obtain ⟨z419, e_z419⟩ : ∃ z, z = s409 256 50 := ⟨_, rfl⟩
        have g_z419 : (0 : Int) ≤ s409 256 50 ∧ s409 256 50 ≤ 5 := hG_s409 256 50
        obtain ⟨z420, e_z420⟩ : ∃ z, z = s409 256 51 := ⟨_, rfl⟩
        have g_z420 : (0 : Int) ≤ s409 256 51 ∧ s409 256 51 ≤ 1 := hG_s409 256 51
        refine x_callV k231_841 (y := 200) (n := 0) (w0 := 0) (w1 := 0) (as := []) (rest := []) (by decide +kernel) (q := 256) (nq := 62) (kq := 15) ⟨by decide, rfl⟩ rfl rfl rfl rfl (xe_mono (C_X11_ask_256 s409 hG_s409 ⟨by omega, by omega⟩ ⟨by omega, by omega⟩ ⟨by omega, by omega⟩ ⟨by omega, by omega⟩ ⟨by omega, by omega⟩ ⟨by omega, by omega⟩ ⟨by omega, by omega⟩ J_s409) ?_)
        rintro s422 v ⟨hG_s422, t_s422, z421, rfl, g_z421, J_s422⟩
        have q423 : s422 46 3 = x1000 := (t_s422 46 3 (show 452 ∉ [4133, 4136, 4132, 4134, 4135, 6080, 6144, 4144, 4145, 4148, 4147, 6208, 4131, 6016, 4140] from by decide +kernel)).trans q410
        have q424 : s422 256 6 = x1001 := (t_s422 256 6 (show 4103 ∉ [4133, 4136, 4132, 4134, 4135, 6080, 6144, 4144, 4145, 4148, 4147, 6208, 4131, 6016, 4140] from by decide +kernel)).trans q411
        have q425 : s422 50 6 = x1002 := (t_s422 50 6 (show 711 ∉ [4133, 4136, 4132, 4134, 4135, 6080, 6144, 4144, 4145, 4148, 4147, 6208, 4131, 6016, 4140] from by decide +kernel)).trans q412
        have q426 : s422 256 10 = x1003 := (t_s422 256 10 (show 4107 ∉ [4133, 4136, 4132, 4134, 4135, 6080, 6144, 4144, 4145, 4148, 4147, 6208, 4131, 6016, 4140] from by decide +kernel)).trans q413
        have T0_s422 : T0 s422 := T0.fl T0_s409 t_s422 (by decide +kernel)
        show xe (some (N, xs)) 231 844 [(0, .ref 2000), (1, .ref 0), (2, .ref 256), (3, vi x3)] [vi z421] s422 295 10442 _
        refine x_A k231_844 (fun _ => rfl) ?_
        refine x_goto k231_845 (t := 1300) rfl ?_
        refine x_iinc k231_1300 (ls' := [(3, vi (x3 + 7)), (0, .ref 2000), (1, .ref 0), (2, .ref 256)]) rfl (by decide) rfl ?_
        refine x_goto k231_1303 (t := 18) rfl ?_
        refine x_ls (l := [(0, .ref 2000), (1, .ref 0), (2, .ref 256), (3, vi (x3 + 7))]) (show ([0, 1, 2, 3] : List Nat).Nodup from by decide +kernel) ⟨rfl, rfl, rfl, rfl, trivial⟩ ?_
        exact ih s422 (x3 + 7) x1000 x1001 x1002 x1003 hG_s422 trivial ⟨by omega, by omega⟩ (by first | exact x_rb b_x1000 rfl rfl | exact ⟨by omega, by omega⟩) (by first | exact x_rb b_x1001 rfl rfl | exact ⟨by omega, by omega⟩) (by first | exact x_rb b_x1002 rfl rfl | exact ⟨by omega, by omega⟩) (by first | exact x_rb b_x1003 rfl rfl | exact ⟨by omega, by omega⟩) (by omega) (by omega) (q423).symm (q424).symm (q425).symm (q426).symm J_s422 T0_s422  (by omega)
      · rw [c5]
        refine x_B k231_33 rfl (fun _ => rfl) (fun _ => rfl) (fun _ _ => rfl) ?_
        show xe (some (N, xs)) 231 848 [(0, .ref 2000), (1, .ref 0), (2, .ref 256), (3, vi x3)] [] s 295 10442 _
        refine x_A k231_848 (fun _ => rfl) ?_
        refine x_A k231_849 (fun _ => rfl) ?_
        refine x_A k231_850 (fun _ => rfl) ?_
        refine x_A k231_851 (fun _ => rfl) ?_
        refine x_iadd k231_852 ?_
        refine x_top (fun z427 e_z427 => ?_)
        refine x_scr k231_853 hN ⟨by omega, by omega⟩ (fun z428 g_z428 e_z428 => ?_)
        unfold in32 at g_z428
        refine x_A k231_854 (fun _ => rfl) ?_
        refine x_A k231_855 (fun _ => rfl) ?_
        refine x_A k231_856 (fun _ => rfl) ?_
        refine x_iadd k231_857 ?_
        refine x_top (fun z429 e_z429 => ?_)
        refine x_scr k231_858 hN ⟨by omega, by omega⟩ (fun z430 g_z430 e_z430 => ?_)
        unfold in32 at g_z430
        refine x_A k231_859 (fun _ => rfl) ?_
        refine x_A k231_860 (fun _ => rfl) ?_
        refine x_A k231_861 (fun _ => rfl) ?_
        refine x_iadd k231_862 ?_
        refine x_top (fun z431 e_z431 => ?_)
        refine x_scr k231_863 hN ⟨by omega, by omega⟩ (fun z432 g_z432 e_z432 => ?_)
        unfold in32 at g_z432
        refine x_callV k231_864 (y := 111) (n := 3) (w0 := 0) (w1 := 3) (as := [vi z428, vi z430, vi z432]) (rest := []) (by decide +kernel) (q := 0) (nq := 12) (kq := 3) ⟨by decide, rfl⟩ rfl rfl rfl rfl (xe_mono (C_X10_met_0 s hG i_J z428 (by first | exact x_rbe e_z428 g_z428 rfl rfl | exact x_rb g_z428 rfl rfl | exact ⟨by omega, by omega⟩) z430 (by first | exact x_rbe e_z430 g_z430 rfl rfl | exact x_rb g_z430 rfl rfl | exact ⟨by omega, by omega⟩) z432 (by first | exact x_rbe e_z432 g_z432 rfl rfl | exact x_rb g_z432 rfl rfl | exact ⟨by omega, by omega⟩)) ?_)
        rintro s434 v ⟨hG_s434, t_s434, z433, rfl, g_z433⟩
        have q435 : s434 46 3 = x1000 := (t_s434 46 3 (show 452 ∉ [3329, 3334, 3335, 3336, 3392, 3456, 3520, 3584, 3276, 3648, 3712, 3776, 3840, 3904, 3968, 3277, 4032, 2752] from by decide +kernel)).trans e_x1000.symm
        have q436 : s434 256 6 = x1001 := (t_s434 256 6 (show 4103 ∉ [3329, 3334, 3335, 3336, 3392, 3456, 3520, 3584, 3276, 3648, 3712, 3776, 3840, 3904, 3968, 3277, 4032, 2752] from by decide +kernel)).trans e_x1001.symm
        have q437 : s434 50 6 = x1002 := (t_s434 50 6 (show 711 ∉ [3329, 3334, 3335, 3336, 3392, 3456, 3520, 3584, 3276, 3648, 3712, 3776, 3840, 3904, 3968, 3277, 4032, 2752] from by decide +kernel)).trans e_x1002.symm
        have q438 : s434 256 10 = x1003 := (t_s434 256 10 (show 4107 ∉ [3329, 3334, 3335, 3336, 3392, 3456, 3520, 3584, 3276, 3648, 3712, 3776, 3840, 3904, 3968, 3277, 4032, 2752] from by decide +kernel)).trans e_x1003.symm
        have J_s434 : J s434 := J.fl i_J t_s434 (by decide +kernel)
        have T0_s434 : T0 s434 := T0.fl i_T0 t_s434 (by decide +kernel)
        show xe (some (N, xs)) 231 867 [(0, .ref 2000), (1, .ref 0), (2, .ref 256), (3, vi x3)] [vi z433] s434 295 10442 _
        refine x_A k231_867 (fun _ => rfl) ?_
        refine x_A k231_868 (fun _ => rfl) ?_
        refine x_A k231_869 (fun _ => rfl) ?_
        refine x_A k231_870 (fun _ => rfl) ?_
        refine x_A k231_871 (fun _ => rfl) ?_
        refine x_iadd k231_872 ?_
        refine x_top (fun z439 e_z439 => ?_)
        refine x_scr k231_873 hN ⟨by omega, by omega⟩ (fun z440 g_z440 e_z440 => ?_)
        unfold in32 at g_z440
        have q_z440 : z440 = z428 := by rw [e_z440, e_z428, show z439 = z427 by omega]
        refine x_A k231_874 (fun _ => rfl) ?_
        refine x_A k231_875 (fun _ => rfl) ?_
        refine x_A k231_876 (fun _ => rfl) ?_
        refine x_iadd k231_877 ?_
        refine x_top (fun z441 e_z441 => ?_)
        refine x_scr k231_878 hN ⟨by omega, by omega⟩ (fun z442 g_z442 e_z442 => ?_)
        unfold in32 at g_z442
        have q_z442 : z442 = z430 := by rw [e_z442, e_z430, show z441 = z429 by omega]
        refine x_A k231_879 (fun _ => rfl) ?_
        refine x_A k231_880 (fun _ => rfl) ?_
        refine x_A k231_881 (fun _ => rfl) ?_
        refine x_iadd k231_882 ?_
        refine x_top (fun z443 e_z443 => ?_)
        refine x_scr k231_883 hN ⟨by omega, by omega⟩ (fun z444 g_z444 e_z444 => ?_)
        unfold in32 at g_z444
        have q_z444 : z444 = z432 := by rw [e_z444, e_z432, show z443 = z431 by omega]
        refine x_callV k231_884 (y := 204) (n := 3) (w0 := 0) (w1 := 3) (as := [vi z440, vi z442, vi z444]) (rest := []) (by decide +kernel) (q := 256) (nq := 62) (kq := 15) ⟨by decide, rfl⟩ rfl rfl rfl rfl (xe_mono (C_X11_met_256 s434 hG_s434 J_s434 z440 (by first | exact x_rbe e_z440 g_z440 rfl rfl | exact x_rb g_z440 rfl rfl | exact ⟨by omega, by omega⟩) z442 (by first | exact x_rbe e_z442 g_z442 rfl rfl | exact x_rb g_z442 rfl rfl | exact ⟨by omega, by omega⟩) z444 (by first | exact x_rbe e_z444 g_z444 rfl rfl | exact x_rb g_z444 rfl rfl | exact ⟨by omega, by omega⟩)) ?_)
        rintro s446 v ⟨hG_s446, t_s446, z445, rfl, g_z445⟩
        have q447 : s446 46 3 = x1000 := (t_s446 46 3 (show 452 ∉ [5312, 5376, 4123, 5440, 5504, 5568, 5632, 5696, 5760, 6272] from by decide +kernel)).trans q435
        have q448 : s446 256 6 = x1001 := (t_s446 256 6 (show 4103 ∉ [5312, 5376, 4123, 5440, 5504, 5568, 5632, 5696, 5760, 6272] from by decide +kernel)).trans q436
        have q449 : s446 50 6 = x1002 := (t_s446 50 6 (show 711 ∉ [5312, 5376, 4123, 5440, 5504, 5568, 5632, 5696, 5760, 6272] from by decide +kernel)).trans q437
        have q450 : s446 256 10 = x1003 := (t_s446 256 10 (show 4107 ∉ [5312, 5376, 4123, 5440, 5504, 5568, 5632, 5696, 5760, 6272] from by decide +kernel)).trans q438
        have J_s446 : J s446 := J.fl J_s434 t_s446 (by decide +kernel)
        have T0_s446 : T0 s446 := T0.fl T0_s434 t_s446 (by decide +kernel)
        show xe (some (N, xs)) 231 887 [(0, .ref 2000), (1, .ref 0), (2, .ref 256), (3, vi x3)] [vi z445] s446 295 10442 _
        refine x_A k231_887 (fun _ => rfl) ?_
        refine x_goto k231_888 (t := 1300) rfl ?_
        refine x_iinc k231_1300 (ls' := [(3, vi (x3 + 7)), (0, .ref 2000), (1, .ref 0), (2, .ref 256)]) rfl (by decide) rfl ?_
        refine x_goto k231_1303 (t := 18) rfl ?_
        refine x_ls (l := [(0, .ref 2000), (1, .ref 0), (2, .ref 256), (3, vi (x3 + 7))]) (show ([0, 1, 2, 3] : List Nat).Nodup from by decide +kernel) ⟨rfl, rfl, rfl, rfl, trivial⟩ ?_
        exact ih s446 (x3 + 7) x1000 x1001 x1002 x1003 hG_s446 trivial ⟨by omega, by omega⟩ (by first | exact x_rb b_x1000 rfl rfl | exact ⟨by omega, by omega⟩) (by first | exact x_rb b_x1001 rfl rfl | exact ⟨by omega, by omega⟩) (by first | exact x_rb b_x1002 rfl rfl | exact ⟨by omega, by omega⟩) (by first | exact x_rb b_x1003 rfl rfl | exact ⟨by omega, by omega⟩) (by omega) (by omega) (q447).symm (q448).symm (q449).symm (q450).symm J_s446 T0_s446  (by omega)
      · rw [c5]
        refine x_B k231_33 rfl (fun _ => rfl) (fun _ => rfl) (fun _ _ => rfl) ?_
        show xe (some (N, xs)) 231 891 [(0, .ref 2000), (1, .ref 0), (2, .ref 256), (3, vi x3)] [] s 295 10442 _
        refine x_A k231_891 (fun _ => rfl) ?_
        refine x_A k231_892 (fun _ => rfl) ?_
        refine x_A k231_893 (fun _ => rfl) ?_
        refine x_A k231_894 (fun _ => rfl) ?_
        refine x_iadd k231_895 ?_
        refine x_top (fun z451 e_z451 => ?_)
        refine x_scr k231_896 hN ⟨by omega, by omega⟩ (fun z452 g_z452 e_z452 => ?_)
        unfold in32 at g_z452
        refine x_A k231_897 (fun _ => rfl) ?_
        refine x_A k231_898 (fun _ => rfl) ?_
        refine x_A k231_899 (fun _ => rfl) ?_
        refine x_iadd k231_900 ?_
        refine x_top (fun z453 e_z453 => ?_)
        refine x_scr k231_901 hN ⟨by omega, by omega⟩ (fun z454 g_z454 e_z454 => ?_)
        unfold in32 at g_z454
        refine x_A k231_902 (fun _ => rfl) ?_
        refine x_A k231_903 (fun _ => rfl) ?_
        refine x_A k231_904 (fun _ => rfl) ?_
        refine x_iadd k231_905 ?_
        refine x_top (fun z455 e_z455 => ?_)
        refine x_scr k231_906 hN ⟨by omega, by omega⟩ (fun z456 g_z456 e_z456 => ?_)
        unfold in32 at g_z456
        refine x_A k231_907 (fun _ => rfl) ?_
        refine x_A k231_908 (fun _ => rfl) ?_
        refine x_A k231_909 (fun _ => rfl) ?_
        refine x_iadd k231_910 ?_
        refine x_top (fun z457 e_z457 => ?_)
        refine x_scr k231_911 hN ⟨by omega, by omega⟩ (fun z458 g_z458 e_z458 => ?_)
        unfold in32 at g_z458
        refine x_A k231_912 (fun _ => rfl) ?_
        refine x_A k231_913 (fun _ => rfl) ?_
        refine x_A k231_914 (fun _ => rfl) ?_
        refine x_iadd k231_915 ?_
        refine x_top (fun z459 e_z459 => ?_)
        refine x_scr k231_916 hN ⟨by omega, by omega⟩ (fun z460 g_z460 e_z460 => ?_)
        unfold in32 at g_z460
        refine x_callV k231_917 (y := 112) (n := 5) (w0 := 0) (w1 := 5) (as := [vi z452, vi z454, vi z456, vi z458, vi z460]) (rest := []) (by decide +kernel) (q := 0) (nq := 12) (kq := 3) ⟨by decide, rfl⟩ rfl rfl rfl rfl (xe_mono (C_X10_hands_0 s hG i_J z452 (by first | exact x_rbe e_z452 g_z452 rfl rfl | exact x_rb g_z452 rfl rfl | exact ⟨by omega, by omega⟩) z454 (by first | exact x_rbe e_z454 g_z454 rfl rfl | exact x_rb g_z454 rfl rfl | exact ⟨by omega, by omega⟩) z456 (by first | exact x_rbe e_z456 g_z456 rfl rfl | exact x_rb g_z456 rfl rfl | exact ⟨by omega, by omega⟩) z458 (by first | exact x_rbe e_z458 g_z458 rfl rfl | exact x_rb g_z458 rfl rfl | exact ⟨by omega, by omega⟩) z460 (by first | exact x_rbe e_z460 g_z460 rfl rfl | exact x_rb g_z460 rfl rfl | exact ⟨by omega, by omega⟩)) ?_)
        rintro s462 v ⟨hG_s462, t_s462, z461, rfl, g_z461⟩
        have q463 : s462 46 3 = x1000 := (t_s462 46 3 (show 452 ∉ [3329, 3334, 3335, 3336, 3392, 3456, 3520, 3584, 3276, 3648, 3712, 3776, 3840, 3904, 3968, 3277, 4032] from by decide +kernel)).trans e_x1000.symm
        have q464 : s462 256 6 = x1001 := (t_s462 256 6 (show 4103 ∉ [3329, 3334, 3335, 3336, 3392, 3456, 3520, 3584, 3276, 3648, 3712, 3776, 3840, 3904, 3968, 3277, 4032] from by decide +kernel)).trans e_x1001.symm
        have q465 : s462 50 6 = x1002 := (t_s462 50 6 (show 711 ∉ [3329, 3334, 3335, 3336, 3392, 3456, 3520, 3584, 3276, 3648, 3712, 3776, 3840, 3904, 3968, 3277, 4032] from by decide +kernel)).trans e_x1002.symm
        have q466 : s462 256 10 = x1003 := (t_s462 256 10 (show 4107 ∉ [3329, 3334, 3335, 3336, 3392, 3456, 3520, 3584, 3276, 3648, 3712, 3776, 3840, 3904, 3968, 3277, 4032] from by decide +kernel)).trans e_x1003.symm
        have J_s462 : J s462 := J.fl i_J t_s462 (by decide +kernel)
        have T0_s462 : T0 s462 := T0.fl i_T0 t_s462 (by decide +kernel)
        show xe (some (N, xs)) 231 920 [(0, .ref 2000), (1, .ref 0), (2, .ref 256), (3, vi x3)] [vi z461] s462 295 10442 _
        refine x_A k231_920 (fun _ => rfl) ?_
        refine x_A k231_921 (fun _ => rfl) ?_
        refine x_A k231_922 (fun _ => rfl) ?_
        refine x_A k231_923 (fun _ => rfl) ?_
        refine x_A k231_924 (fun _ => rfl) ?_
        refine x_iadd k231_925 ?_
        refine x_top (fun z467 e_z467 => ?_)
        refine x_scr k231_926 hN ⟨by omega, by omega⟩ (fun z468 g_z468 e_z468 => ?_)
        unfold in32 at g_z468
        have q_z468 : z468 = z452 := by rw [e_z468, e_z452, show z467 = z451 by omega]
        refine x_A k231_927 (fun _ => rfl) ?_
        refine x_A k231_928 (fun _ => rfl) ?_
        refine x_A k231_929 (fun _ => rfl) ?_
        refine x_iadd k231_930 ?_
        refine x_top (fun z469 e_z469 => ?_)
        refine x_scr k231_931 hN ⟨by omega, by omega⟩ (fun z470 g_z470 e_z470 => ?_)
        unfold in32 at g_z470
        have q_z470 : z470 = z454 := by rw [e_z470, e_z454, show z469 = z453 by omega]
        refine x_A k231_932 (fun _ => rfl) ?_
        refine x_A k231_933 (fun _ => rfl) ?_
        refine x_A k231_934 (fun _ => rfl) ?_
        refine x_iadd k231_935 ?_
        refine x_top (fun z471 e_z471 => ?_)
        refine x_scr k231_936 hN ⟨by omega, by omega⟩ (fun z472 g_z472 e_z472 => ?_)
        unfold in32 at g_z472
        have q_z472 : z472 = z456 := by rw [e_z472, e_z456, show z471 = z455 by omega]
        refine x_A k231_937 (fun _ => rfl) ?_
        refine x_A k231_938 (fun _ => rfl) ?_
        refine x_A k231_939 (fun _ => rfl) ?_
        refine x_iadd k231_940 ?_
        refine x_top (fun z473 e_z473 => ?_)
        refine x_scr k231_941 hN ⟨by omega, by omega⟩ (fun z474 g_z474 e_z474 => ?_)
        unfold in32 at g_z474
        have q_z474 : z474 = z458 := by rw [e_z474, e_z458, show z473 = z457 by omega]
        refine x_A k231_942 (fun _ => rfl) ?_
        refine x_A k231_943 (fun _ => rfl) ?_
        refine x_A k231_944 (fun _ => rfl) ?_
        refine x_iadd k231_945 ?_
        refine x_top (fun z475 e_z475 => ?_)
        refine x_scr k231_946 hN ⟨by omega, by omega⟩ (fun z476 g_z476 e_z476 => ?_)
        unfold in32 at g_z476
        have q_z476 : z476 = z460 := by rw [e_z476, e_z460, show z475 = z459 by omega]
        refine x_callV k231_947 (y := 206) (n := 5) (w0 := 0) (w1 := 5) (as := [vi z468, vi z470, vi z472, vi z474, vi z476]) (rest := []) (by decide +kernel) (q := 256) (nq := 62) (kq := 15) ⟨by decide, rfl⟩ rfl rfl rfl rfl (xe_mono (C_X11_hands_256 s462 hG_s462 J_s462 z468 (by first | exact x_rbe e_z468 g_z468 rfl rfl | exact x_rb g_z468 rfl rfl | exact ⟨by omega, by omega⟩) z470 (by first | exact x_rbe e_z470 g_z470 rfl rfl | exact x_rb g_z470 rfl rfl | exact ⟨by omega, by omega⟩) z472 (by first | exact x_rbe e_z472 g_z472 rfl rfl | exact x_rb g_z472 rfl rfl | exact ⟨by omega, by omega⟩) z474 (by first | exact x_rbe e_z474 g_z474 rfl rfl | exact x_rb g_z474 rfl rfl | exact ⟨by omega, by omega⟩) z476 (by first | exact x_rbe e_z476 g_z476 rfl rfl | exact x_rb g_z476 rfl rfl | exact ⟨by omega, by omega⟩)) ?_)
        rintro s478 v ⟨hG_s478, t_s478, z477, rfl, g_z477⟩
        have q479 : s478 46 3 = x1000 := (t_s478 46 3 (show 452 ∉ [5312, 5376, 4123, 5440, 5504, 5568, 5632, 5696, 5760] from by decide +kernel)).trans q463
        have q480 : s478 256 6 = x1001 := (t_s478 256 6 (show 4103 ∉ [5312, 5376, 4123, 5440, 5504, 5568, 5632, 5696, 5760] from by decide +kernel)).trans q464
        have q481 : s478 50 6 = x1002 := (t_s478 50 6 (show 711 ∉ [5312, 5376, 4123, 5440, 5504, 5568, 5632, 5696, 5760] from by decide +kernel)).trans q465
        have q482 : s478 256 10 = x1003 := (t_s478 256 10 (show 4107 ∉ [5312, 5376, 4123, 5440, 5504, 5568, 5632, 5696, 5760] from by decide +kernel)).trans q466
        have J_s478 : J s478 := J.fl J_s462 t_s478 (by decide +kernel)
        have T0_s478 : T0 s478 := T0.fl T0_s462 t_s478 (by decide +kernel)
        show xe (some (N, xs)) 231 950 [(0, .ref 2000), (1, .ref 0), (2, .ref 256), (3, vi x3)] [vi z477] s478 295 10442 _
        refine x_A k231_950 (fun _ => rfl) ?_
        refine x_goto k231_951 (t := 1300) rfl ?_
        refine x_iinc k231_1300 (ls' := [(3, vi (x3 + 7)), (0, .ref 2000), (1, .ref 0), (2, .ref 256)]) rfl (by decide) rfl ?_
        refine x_goto k231_1303 (t := 18) rfl ?_
        refine x_ls (l := [(0, .ref 2000), (1, .ref 0), (2, .ref 256), (3, vi (x3 + 7))]) (show ([0, 1, 2, 3] : List Nat).Nodup from by decide +kernel) ⟨rfl, rfl, rfl, rfl, trivial⟩ ?_
        exact ih s478 (x3 + 7) x1000 x1001 x1002 x1003 hG_s478 trivial ⟨by omega, by omega⟩ (by first | exact x_rb b_x1000 rfl rfl | exact ⟨by omega, by omega⟩) (by first | exact x_rb b_x1001 rfl rfl | exact ⟨by omega, by omega⟩) (by first | exact x_rb b_x1002 rfl rfl | exact ⟨by omega, by omega⟩) (by first | exact x_rb b_x1003 rfl rfl | exact ⟨by omega, by omega⟩) (by omega) (by omega) (q479).symm (q480).symm (q481).symm (q482).symm J_s478 T0_s478  (by omega)
      · rw [c5]
        refine x_B k231_33 rfl (fun _ => rfl) (fun _ => rfl) (fun _ _ => rfl) ?_
        show xe (some (N, xs)) 231 954 [(0, .ref 2000), (1, .ref 0), (2, .ref 256), (3, vi x3)] [] s 295 10442 _
        refine x_A k231_954 (fun _ => rfl) ?_
        refine x_A k231_955 (fun _ => rfl) ?_
        refine x_A k231_956 (fun _ => rfl) ?_
        refine x_A k231_957 (fun _ => rfl) ?_
        refine x_iadd k231_958 ?_
        refine x_top (fun z483 e_z483 => ?_)
        refine x_scr k231_959 hN ⟨by omega, by omega⟩ (fun z484 g_z484 e_z484 => ?_)
        unfold in32 at g_z484
        refine x_A k231_960 (fun _ => rfl) ?_
        refine x_A k231_961 (fun _ => rfl) ?_
        refine x_A k231_962 (fun _ => rfl) ?_
        refine x_iadd k231_963 ?_
        refine x_top (fun z485 e_z485 => ?_)
        refine x_scr k231_964 hN ⟨by omega, by omega⟩ (fun z486 g_z486 e_z486 => ?_)
        unfold in32 at g_z486
        refine x_A k231_965 (fun _ => rfl) ?_
        refine x_A k231_966 (fun _ => rfl) ?_
        refine x_A k231_967 (fun _ => rfl) ?_
        refine x_iadd k231_968 ?_
        refine x_top (fun z487 e_z487 => ?_)
        refine x_scr k231_969 hN ⟨by omega, by omega⟩ (fun z488 g_z488 e_z488 => ?_)
        unfold in32 at g_z488
        refine x_A k231_970 (fun _ => rfl) ?_
        refine x_A k231_971 (fun _ => rfl) ?_
        refine x_A k231_972 (fun _ => rfl) ?_
        refine x_iadd k231_973 ?_
        refine x_top (fun z489 e_z489 => ?_)
        refine x_scr k231_974 hN ⟨by omega, by omega⟩ (fun z490 g_z490 e_z490 => ?_)
        unfold in32 at g_z490
        refine x_A k231_975 (fun _ => rfl) ?_
        refine x_A k231_976 (fun _ => rfl) ?_
        refine x_A k231_977 (fun _ => rfl) ?_
        refine x_iadd k231_978 ?_
        refine x_top (fun z491 e_z491 => ?_)
        refine x_scr k231_979 hN ⟨by omega, by omega⟩ (fun z492 g_z492 e_z492 => ?_)
        unfold in32 at g_z492
        refine x_A k231_980 (fun _ => rfl) ?_
        refine x_A k231_981 (fun _ => rfl) ?_
        refine x_bipush k231_982 (by decide +kernel) ?_
        refine x_iadd k231_984 ?_
        refine x_top (fun z493 e_z493 => ?_)
        refine x_scr k231_985 hN ⟨by omega, by omega⟩ (fun z494 g_z494 e_z494 => ?_)
        unfold in32 at g_z494
        refine x_callV k231_986 (y := 113) (n := 6) (w0 := 0) (w1 := 6) (as := [vi z484, vi z486, vi z488, vi z490, vi z492, vi z494]) (rest := []) (by decide +kernel) (q := 0) (nq := 12) (kq := 3) ⟨by decide, rfl⟩ rfl rfl rfl rfl (xe_mono (C_X10_together_0 s hG i_J z484 (by first | exact x_rbe e_z484 g_z484 rfl rfl | exact x_rb g_z484 rfl rfl | exact ⟨by omega, by omega⟩) z486 (by first | exact x_rbe e_z486 g_z486 rfl rfl | exact x_rb g_z486 rfl rfl | exact ⟨by omega, by omega⟩) z488 (by first | exact x_rbe e_z488 g_z488 rfl rfl | exact x_rb g_z488 rfl rfl | exact ⟨by omega, by omega⟩) z490 (by first | exact x_rbe e_z490 g_z490 rfl rfl | exact x_rb g_z490 rfl rfl | exact ⟨by omega, by omega⟩) z492 (by first | exact x_rbe e_z492 g_z492 rfl rfl | exact x_rb g_z492 rfl rfl | exact ⟨by omega, by omega⟩) z494 (by first | exact x_rbe e_z494 g_z494 rfl rfl | exact x_rb g_z494 rfl rfl | exact ⟨by omega, by omega⟩)) ?_)
        rintro s496 v ⟨hG_s496, t_s496, z495, rfl, g_z495⟩
        have q497 : s496 46 3 = x1000 := (t_s496 46 3 (show 452 ∉ [3329, 3334, 3335, 3336, 3392, 3456, 3520, 3584, 3276, 3648, 3712, 3776, 3840, 3904, 3968, 3277, 4032] from by decide +kernel)).trans e_x1000.symm
        have q498 : s496 256 6 = x1001 := (t_s496 256 6 (show 4103 ∉ [3329, 3334, 3335, 3336, 3392, 3456, 3520, 3584, 3276, 3648, 3712, 3776, 3840, 3904, 3968, 3277, 4032] from by decide +kernel)).trans e_x1001.symm
        have q499 : s496 50 6 = x1002 := (t_s496 50 6 (show 711 ∉ [3329, 3334, 3335, 3336, 3392, 3456, 3520, 3584, 3276, 3648, 3712, 3776, 3840, 3904, 3968, 3277, 4032] from by decide +kernel)).trans e_x1002.symm
        have q500 : s496 256 10 = x1003 := (t_s496 256 10 (show 4107 ∉ [3329, 3334, 3335, 3336, 3392, 3456, 3520, 3584, 3276, 3648, 3712, 3776, 3840, 3904, 3968, 3277, 4032] from by decide +kernel)).trans e_x1003.symm
        have J_s496 : J s496 := J.fl i_J t_s496 (by decide +kernel)
        have T0_s496 : T0 s496 := T0.fl i_T0 t_s496 (by decide +kernel)
        show xe (some (N, xs)) 231 989 [(0, .ref 2000), (1, .ref 0), (2, .ref 256), (3, vi x3)] [vi z495] s496 295 10442 _
        refine x_A k231_989 (fun _ => rfl) ?_
        refine x_A k231_990 (fun _ => rfl) ?_
        refine x_A k231_991 (fun _ => rfl) ?_
        refine x_A k231_992 (fun _ => rfl) ?_
        refine x_A k231_993 (fun _ => rfl) ?_
        refine x_iadd k231_994 ?_
        refine x_top (fun z501 e_z501 => ?_)
        refine x_scr k231_995 hN ⟨by omega, by omega⟩ (fun z502 g_z502 e_z502 => ?_)
        unfold in32 at g_z502
        have q_z502 : z502 = z484 := by rw [e_z502, e_z484, show z501 = z483 by omega]
        refine x_A k231_996 (fun _ => rfl) ?_
        refine x_A k231_997 (fun _ => rfl) ?_
        refine x_A k231_998 (fun _ => rfl) ?_
        refine x_iadd k231_999 ?_
        refine x_top (fun z503 e_z503 => ?_)
        refine x_scr k231_1000 hN ⟨by omega, by omega⟩ (fun z504 g_z504 e_z504 => ?_)
        unfold in32 at g_z504
        have q_z504 : z504 = z486 := by rw [e_z504, e_z486, show z503 = z485 by omega]
        refine x_A k231_1001 (fun _ => rfl) ?_
        refine x_A k231_1002 (fun _ => rfl) ?_
        refine x_A k231_1003 (fun _ => rfl) ?_
        refine x_iadd k231_1004 ?_
        refine x_top (fun z505 e_z505 => ?_)
        refine x_scr k231_1005 hN ⟨by omega, by omega⟩ (fun z506 g_z506 e_z506 => ?_)
        unfold in32 at g_z506
        have q_z506 : z506 = z488 := by rw [e_z506, e_z488, show z505 = z487 by omega]
        refine x_A k231_1006 (fun _ => rfl) ?_
        refine x_A k231_1007 (fun _ => rfl) ?_
        refine x_A k231_1008 (fun _ => rfl) ?_
        refine x_iadd k231_1009 ?_
        refine x_top (fun z507 e_z507 => ?_)
        refine x_scr k231_1010 hN ⟨by omega, by omega⟩ (fun z508 g_z508 e_z508 => ?_)
        unfold in32 at g_z508
        have q_z508 : z508 = z490 := by rw [e_z508, e_z490, show z507 = z489 by omega]
        refine x_A k231_1011 (fun _ => rfl) ?_
        refine x_A k231_1012 (fun _ => rfl) ?_
        refine x_A k231_1013 (fun _ => rfl) ?_
        refine x_iadd k231_1014 ?_
        refine x_top (fun z509 e_z509 => ?_)
        refine x_scr k231_1015 hN ⟨by omega, by omega⟩ (fun z510 g_z510 e_z510 => ?_)
        unfold in32 at g_z510
        have q_z510 : z510 = z492 := by rw [e_z510, e_z492, show z509 = z491 by omega]
        refine x_A k231_1016 (fun _ => rfl) ?_
        refine x_A k231_1017 (fun _ => rfl) ?_
        refine x_bipush k231_1018 (by decide +kernel) ?_
        refine x_iadd k231_1020 ?_
        refine x_top (fun z511 e_z511 => ?_)
        refine x_scr k231_1021 hN ⟨by omega, by omega⟩ (fun z512 g_z512 e_z512 => ?_)
        unfold in32 at g_z512
        have q_z512 : z512 = z494 := by rw [e_z512, e_z494, show z511 = z493 by omega]
        refine x_callV k231_1022 (y := 208) (n := 6) (w0 := 0) (w1 := 6) (as := [vi z502, vi z504, vi z506, vi z508, vi z510, vi z512]) (rest := []) (by decide +kernel) (q := 256) (nq := 62) (kq := 15) ⟨by decide, rfl⟩ rfl rfl rfl rfl (xe_mono (C_X11_together_256 s496 hG_s496 J_s496 z502 (by first | exact x_rbe e_z502 g_z502 rfl rfl | exact x_rb g_z502 rfl rfl | exact ⟨by omega, by omega⟩) z504 (by first | exact x_rbe e_z504 g_z504 rfl rfl | exact x_rb g_z504 rfl rfl | exact ⟨by omega, by omega⟩) z506 (by first | exact x_rbe e_z506 g_z506 rfl rfl | exact x_rb g_z506 rfl rfl | exact ⟨by omega, by omega⟩) z508 (by first | exact x_rbe e_z508 g_z508 rfl rfl | exact x_rb g_z508 rfl rfl | exact ⟨by omega, by omega⟩) z510 (by first | exact x_rbe e_z510 g_z510 rfl rfl | exact x_rb g_z510 rfl rfl | exact ⟨by omega, by omega⟩) z512 (by first | exact x_rbe e_z512 g_z512 rfl rfl | exact x_rb g_z512 rfl rfl | exact ⟨by omega, by omega⟩)) ?_)
        rintro s514 v ⟨hG_s514, t_s514, z513, rfl, g_z513⟩
        have q515 : s514 46 3 = x1000 := (t_s514 46 3 (show 452 ∉ [5312, 5376, 4123, 5440, 5504, 5568, 5632, 5696, 5760, 4150, 4151, 4152, 4153] from by decide +kernel)).trans q497
        have q516 : s514 256 6 = x1001 := (t_s514 256 6 (show 4103 ∉ [5312, 5376, 4123, 5440, 5504, 5568, 5632, 5696, 5760, 4150, 4151, 4152, 4153] from by decide +kernel)).trans q498
        have q517 : s514 50 6 = x1002 := (t_s514 50 6 (show 711 ∉ [5312, 5376, 4123, 5440, 5504, 5568, 5632, 5696, 5760, 4150, 4151, 4152, 4153] from by decide +kernel)).trans q499
        have q518 : s514 256 10 = x1003 := (t_s514 256 10 (show 4107 ∉ [5312, 5376, 4123, 5440, 5504, 5568, 5632, 5696, 5760, 4150, 4151, 4152, 4153] from by decide +kernel)).trans q500
        have J_s514 : J s514 := J.fl J_s496 t_s514 (by decide +kernel)
        have T0_s514 : T0 s514 := T0.fl T0_s496 t_s514 (by decide +kernel)
        show xe (some (N, xs)) 231 1025 [(0, .ref 2000), (1, .ref 0), (2, .ref 256), (3, vi x3)] [vi z513] s514 295 10442 _
        refine x_A k231_1025 (fun _ => rfl) ?_
        refine x_goto k231_1026 (t := 1300) rfl ?_
        refine x_iinc k231_1300 (ls' := [(3, vi (x3 + 7)), (0, .ref 2000), (1, .ref 0), (2, .ref 256)]) rfl (by decide) rfl ?_
        refine x_goto k231_1303 (t := 18) rfl ?_
        refine x_ls (l := [(0, .ref 2000), (1, .ref 0), (2, .ref 256), (3, vi (x3 + 7))]) (show ([0, 1, 2, 3] : List Nat).Nodup from by decide +kernel) ⟨rfl, rfl, rfl, rfl, trivial⟩ ?_
        exact ih s514 (x3 + 7) x1000 x1001 x1002 x1003 hG_s514 trivial ⟨by omega, by omega⟩ (by first | exact x_rb b_x1000 rfl rfl | exact ⟨by omega, by omega⟩) (by first | exact x_rb b_x1001 rfl rfl | exact ⟨by omega, by omega⟩) (by first | exact x_rb b_x1002 rfl rfl | exact ⟨by omega, by omega⟩) (by first | exact x_rb b_x1003 rfl rfl | exact ⟨by omega, by omega⟩) (by omega) (by omega) (q515).symm (q516).symm (q517).symm (q518).symm J_s514 T0_s514  (by omega)
      · rw [c5]
        refine x_B k231_33 rfl (fun _ => rfl) (fun _ => rfl) (fun _ _ => rfl) ?_
        show xe (some (N, xs)) 231 1029 [(0, .ref 2000), (1, .ref 0), (2, .ref 256), (3, vi x3)] [] s 295 10442 _
        refine x_A k231_1029 (fun _ => rfl) ?_
        refine x_A k231_1030 (fun _ => rfl) ?_
        refine x_A k231_1031 (fun _ => rfl) ?_
        refine x_A k231_1032 (fun _ => rfl) ?_
        refine x_iadd k231_1033 ?_
        refine x_top (fun z519 e_z519 => ?_)
        refine x_scr k231_1034 hN ⟨by omega, by omega⟩ (fun z520 g_z520 e_z520 => ?_)
        unfold in32 at g_z520
        refine x_A k231_1035 (fun _ => rfl) ?_
        refine x_A k231_1036 (fun _ => rfl) ?_
        refine x_A k231_1037 (fun _ => rfl) ?_
        refine x_iadd k231_1038 ?_
        refine x_top (fun z521 e_z521 => ?_)
        refine x_scr k231_1039 hN ⟨by omega, by omega⟩ (fun z522 g_z522 e_z522 => ?_)
        unfold in32 at g_z522
        refine x_A k231_1040 (fun _ => rfl) ?_
        refine x_A k231_1041 (fun _ => rfl) ?_
        refine x_A k231_1042 (fun _ => rfl) ?_
        refine x_iadd k231_1043 ?_
        refine x_top (fun z523 e_z523 => ?_)
        refine x_scr k231_1044 hN ⟨by omega, by omega⟩ (fun z524 g_z524 e_z524 => ?_)
        unfold in32 at g_z524
        refine x_callV k231_1045 (y := 114) (n := 3) (w0 := 0) (w1 := 3) (as := [vi z520, vi z522, vi z524]) (rest := []) (by decide +kernel) (q := 0) (nq := 12) (kq := 3) ⟨by decide, rfl⟩ rfl rfl rfl rfl (xe_mono (C_X10_along_0 s hG i_J z520 (by first | exact x_rbe e_z520 g_z520 rfl rfl | exact x_rb g_z520 rfl rfl | exact ⟨by omega, by omega⟩) z522 (by first | exact x_rbe e_z522 g_z522 rfl rfl | exact x_rb g_z522 rfl rfl | exact ⟨by omega, by omega⟩) z524 (by first | exact x_rbe e_z524 g_z524 rfl rfl | exact x_rb g_z524 rfl rfl | exact ⟨by omega, by omega⟩)) ?_)
        rintro s526 v ⟨hG_s526, t_s526, z525, rfl, g_z525⟩
        have q527 : s526 46 3 = x1000 := (t_s526 46 3 (show 452 ∉ [3329, 3334, 3335, 3336, 3392, 3456, 3520, 3584, 3276, 3648, 3712, 3776, 3840, 3904, 3968, 3277, 4032] from by decide +kernel)).trans e_x1000.symm
        have q528 : s526 256 6 = x1001 := (t_s526 256 6 (show 4103 ∉ [3329, 3334, 3335, 3336, 3392, 3456, 3520, 3584, 3276, 3648, 3712, 3776, 3840, 3904, 3968, 3277, 4032] from by decide +kernel)).trans e_x1001.symm
        have q529 : s526 50 6 = x1002 := (t_s526 50 6 (show 711 ∉ [3329, 3334, 3335, 3336, 3392, 3456, 3520, 3584, 3276, 3648, 3712, 3776, 3840, 3904, 3968, 3277, 4032] from by decide +kernel)).trans e_x1002.symm
        have q530 : s526 256 10 = x1003 := (t_s526 256 10 (show 4107 ∉ [3329, 3334, 3335, 3336, 3392, 3456, 3520, 3584, 3276, 3648, 3712, 3776, 3840, 3904, 3968, 3277, 4032] from by decide +kernel)).trans e_x1003.symm
        have J_s526 : J s526 := J.fl i_J t_s526 (by decide +kernel)
        have T0_s526 : T0 s526 := T0.fl i_T0 t_s526 (by decide +kernel)
        show xe (some (N, xs)) 231 1048 [(0, .ref 2000), (1, .ref 0), (2, .ref 256), (3, vi x3)] [vi z525] s526 295 10442 _
        refine x_A k231_1048 (fun _ => rfl) ?_
        refine x_A k231_1049 (fun _ => rfl) ?_
        refine x_A k231_1050 (fun _ => rfl) ?_
        refine x_A k231_1051 (fun _ => rfl) ?_
        refine x_A k231_1052 (fun _ => rfl) ?_
        refine x_iadd k231_1053 ?_
        refine x_top (fun z531 e_z531 => ?_)
        refine x_scr k231_1054 hN ⟨by omega, by omega⟩ (fun z532 g_z532 e_z532 => ?_)
        unfold in32 at g_z532
        have q_z532 : z532 = z520 := by rw [e_z532, e_z520, show z531 = z519 by omega]
        refine x_A k231_1055 (fun _ => rfl) ?_
        refine x_A k231_1056 (fun _ => rfl) ?_
        refine x_A k231_1057 (fun _ => rfl) ?_
        refine x_iadd k231_1058 ?_
        refine x_top (fun z533 e_z533 => ?_)
        refine x_scr k231_1059 hN ⟨by omega, by omega⟩ (fun z534 g_z534 e_z534 => ?_)
        unfold in32 at g_z534
        have q_z534 : z534 = z522 := by rw [e_z534, e_z522, show z533 = z521 by omega]
        refine x_A k231_1060 (fun _ => rfl) ?_
        refine x_A k231_1061 (fun _ => rfl) ?_
        refine x_A k231_1062 (fun _ => rfl) ?_
        refine x_iadd k231_1063 ?_
        refine x_top (fun z535 e_z535 => ?_)
        refine x_scr k231_1064 hN ⟨by omega, by omega⟩ (fun z536 g_z536 e_z536 => ?_)
        unfold in32 at g_z536
        have q_z536 : z536 = z524 := by rw [e_z536, e_z524, show z535 = z523 by omega]
        refine x_callV k231_1065 (y := 211) (n := 3) (w0 := 0) (w1 := 3) (as := [vi z532, vi z534, vi z536]) (rest := []) (by decide +kernel) (q := 256) (nq := 62) (kq := 15) ⟨by decide, rfl⟩ rfl rfl rfl rfl (xe_mono (C_X11_along_256 s526 hG_s526 J_s526 z532 (by first | exact x_rbe e_z532 g_z532 rfl rfl | exact x_rb g_z532 rfl rfl | exact ⟨by omega, by omega⟩) z534 (by first | exact x_rbe e_z534 g_z534 rfl rfl | exact x_rb g_z534 rfl rfl | exact ⟨by omega, by omega⟩) z536 (by first | exact x_rbe e_z536 g_z536 rfl rfl | exact x_rb g_z536 rfl rfl | exact ⟨by omega, by omega⟩)) ?_)
        rintro s538 v ⟨hG_s538, t_s538, z537, rfl, g_z537⟩
        have q539 : s538 46 3 = x1000 := (t_s538 46 3 (show 452 ∉ [5312, 5376, 4123, 5440, 5504, 5568, 5632, 5696, 5760, 4150, 4151, 4152, 4153] from by decide +kernel)).trans q527
        have q540 : s538 256 6 = x1001 := (t_s538 256 6 (show 4103 ∉ [5312, 5376, 4123, 5440, 5504, 5568, 5632, 5696, 5760, 4150, 4151, 4152, 4153] from by decide +kernel)).trans q528
        have q541 : s538 50 6 = x1002 := (t_s538 50 6 (show 711 ∉ [5312, 5376, 4123, 5440, 5504, 5568, 5632, 5696, 5760, 4150, 4151, 4152, 4153] from by decide +kernel)).trans q529
        have q542 : s538 256 10 = x1003 := (t_s538 256 10 (show 4107 ∉ [5312, 5376, 4123, 5440, 5504, 5568, 5632, 5696, 5760, 4150, 4151, 4152, 4153] from by decide +kernel)).trans q530
        have J_s538 : J s538 := J.fl J_s526 t_s538 (by decide +kernel)
        have T0_s538 : T0 s538 := T0.fl T0_s526 t_s538 (by decide +kernel)
        show xe (some (N, xs)) 231 1068 [(0, .ref 2000), (1, .ref 0), (2, .ref 256), (3, vi x3)] [vi z537] s538 295 10442 _
        refine x_A k231_1068 (fun _ => rfl) ?_
        refine x_goto k231_1069 (t := 1300) rfl ?_
        refine x_iinc k231_1300 (ls' := [(3, vi (x3 + 7)), (0, .ref 2000), (1, .ref 0), (2, .ref 256)]) rfl (by decide) rfl ?_
        refine x_goto k231_1303 (t := 18) rfl ?_
        refine x_ls (l := [(0, .ref 2000), (1, .ref 0), (2, .ref 256), (3, vi (x3 + 7))]) (show ([0, 1, 2, 3] : List Nat).Nodup from by decide +kernel) ⟨rfl, rfl, rfl, rfl, trivial⟩ ?_
        exact ih s538 (x3 + 7) x1000 x1001 x1002 x1003 hG_s538 trivial ⟨by omega, by omega⟩ (by first | exact x_rb b_x1000 rfl rfl | exact ⟨by omega, by omega⟩) (by first | exact x_rb b_x1001 rfl rfl | exact ⟨by omega, by omega⟩) (by first | exact x_rb b_x1002 rfl rfl | exact ⟨by omega, by omega⟩) (by first | exact x_rb b_x1003 rfl rfl | exact ⟨by omega, by omega⟩) (by omega) (by omega) (q539).symm (q540).symm (q541).symm (q542).symm J_s538 T0_s538  (by omega)
      · rw [c5]
        refine x_B k231_33 rfl (fun _ => rfl) (fun _ => rfl) (fun _ _ => rfl) ?_
        show xe (some (N, xs)) 231 1072 [(0, .ref 2000), (1, .ref 0), (2, .ref 256), (3, vi x3)] [] s 295 10442 _
        refine x_A k231_1072 (fun _ => rfl) ?_
        refine x_A k231_1073 (fun _ => rfl) ?_
        refine x_A k231_1074 (fun _ => rfl) ?_
        refine x_A k231_1075 (fun _ => rfl) ?_
        refine x_iadd k231_1076 ?_
        refine x_top (fun z543 e_z543 => ?_)
        refine x_scr k231_1077 hN ⟨by omega, by omega⟩ (fun z544 g_z544 e_z544 => ?_)
        unfold in32 at g_z544
        refine x_A k231_1078 (fun _ => rfl) ?_
        refine x_A k231_1079 (fun _ => rfl) ?_
        refine x_A k231_1080 (fun _ => rfl) ?_
        refine x_iadd k231_1081 ?_
        refine x_top (fun z545 e_z545 => ?_)
        refine x_scr k231_1082 hN ⟨by omega, by omega⟩ (fun z546 g_z546 e_z546 => ?_)
        unfold in32 at g_z546
        refine x_A k231_1083 (fun _ => rfl) ?_
        refine x_A k231_1084 (fun _ => rfl) ?_
        refine x_A k231_1085 (fun _ => rfl) ?_
        refine x_iadd k231_1086 ?_
        refine x_top (fun z547 e_z547 => ?_)
        refine x_scr k231_1087 hN ⟨by omega, by omega⟩ (fun z548 g_z548 e_z548 => ?_)
        unfold in32 at g_z548
        refine x_callV k231_1088 (y := 115) (n := 3) (w0 := 0) (w1 := 3) (as := [vi z544, vi z546, vi z548]) (rest := []) (by decide +kernel) (q := 0) (nq := 12) (kq := 3) ⟨by decide, rfl⟩ rfl rfl rfl rfl (xe_mono (C_X10_likely_0 s hG i_J z544 (by first | exact x_rbe e_z544 g_z544 rfl rfl | exact x_rb g_z544 rfl rfl | exact ⟨by omega, by omega⟩) z546 (by first | exact x_rbe e_z546 g_z546 rfl rfl | exact x_rb g_z546 rfl rfl | exact ⟨by omega, by omega⟩) z548 (by first | exact x_rbe e_z548 g_z548 rfl rfl | exact x_rb g_z548 rfl rfl | exact ⟨by omega, by omega⟩)) ?_)
        rintro s550 v ⟨hG_s550, t_s550, z549, rfl, g_z549⟩
        have q551 : s550 46 3 = x1000 := (t_s550 46 3 (show 452 ∉ [3329, 3334, 3335, 3336, 3392, 3456, 3520, 3584, 3276, 3648, 3712, 3776, 3840, 3904, 3968, 3277, 4032] from by decide +kernel)).trans e_x1000.symm
        have q552 : s550 256 6 = x1001 := (t_s550 256 6 (show 4103 ∉ [3329, 3334, 3335, 3336, 3392, 3456, 3520, 3584, 3276, 3648, 3712, 3776, 3840, 3904, 3968, 3277, 4032] from by decide +kernel)).trans e_x1001.symm
        have q553 : s550 50 6 = x1002 := (t_s550 50 6 (show 711 ∉ [3329, 3334, 3335, 3336, 3392, 3456, 3520, 3584, 3276, 3648, 3712, 3776, 3840, 3904, 3968, 3277, 4032] from by decide +kernel)).trans e_x1002.symm
        have q554 : s550 256 10 = x1003 := (t_s550 256 10 (show 4107 ∉ [3329, 3334, 3335, 3336, 3392, 3456, 3520, 3584, 3276, 3648, 3712, 3776, 3840, 3904, 3968, 3277, 4032] from by decide +kernel)).trans e_x1003.symm
        have J_s550 : J s550 := J.fl i_J t_s550 (by decide +kernel)
        have T0_s550 : T0 s550 := T0.fl i_T0 t_s550 (by decide +kernel)
        show xe (some (N, xs)) 231 1091 [(0, .ref 2000), (1, .ref 0), (2, .ref 256), (3, vi x3)] [vi z549] s550 295 10442 _
        refine x_A k231_1091 (fun _ => rfl) ?_
        refine x_A k231_1092 (fun _ => rfl) ?_
        refine x_A k231_1093 (fun _ => rfl) ?_
        refine x_A k231_1094 (fun _ => rfl) ?_
        refine x_A k231_1095 (fun _ => rfl) ?_
        refine x_iadd k231_1096 ?_
        refine x_top (fun z555 e_z555 => ?_)
        refine x_scr k231_1097 hN ⟨by omega, by omega⟩ (fun z556 g_z556 e_z556 => ?_)
        unfold in32 at g_z556
        have q_z556 : z556 = z544 := by rw [e_z556, e_z544, show z555 = z543 by omega]
        refine x_A k231_1098 (fun _ => rfl) ?_
        refine x_A k231_1099 (fun _ => rfl) ?_
        refine x_A k231_1100 (fun _ => rfl) ?_
        refine x_iadd k231_1101 ?_
        refine x_top (fun z557 e_z557 => ?_)
        refine x_scr k231_1102 hN ⟨by omega, by omega⟩ (fun z558 g_z558 e_z558 => ?_)
        unfold in32 at g_z558
        have q_z558 : z558 = z546 := by rw [e_z558, e_z546, show z557 = z545 by omega]
        refine x_A k231_1103 (fun _ => rfl) ?_
        refine x_A k231_1104 (fun _ => rfl) ?_
        refine x_A k231_1105 (fun _ => rfl) ?_
        refine x_iadd k231_1106 ?_
        refine x_top (fun z559 e_z559 => ?_)
        refine x_scr k231_1107 hN ⟨by omega, by omega⟩ (fun z560 g_z560 e_z560 => ?_)
        unfold in32 at g_z560
        have q_z560 : z560 = z548 := by rw [e_z560, e_z548, show z559 = z547 by omega]
        refine x_callV k231_1108 (y := 212) (n := 3) (w0 := 0) (w1 := 3) (as := [vi z556, vi z558, vi z560]) (rest := []) (by decide +kernel) (q := 256) (nq := 62) (kq := 15) ⟨by decide, rfl⟩ rfl rfl rfl rfl (xe_mono (C_X11_likely_256 s550 hG_s550 J_s550 z556 (by first | exact x_rbe e_z556 g_z556 rfl rfl | exact x_rb g_z556 rfl rfl | exact ⟨by omega, by omega⟩) z558 (by first | exact x_rbe e_z558 g_z558 rfl rfl | exact x_rb g_z558 rfl rfl | exact ⟨by omega, by omega⟩) z560 (by first | exact x_rbe e_z560 g_z560 rfl rfl | exact x_rb g_z560 rfl rfl | exact ⟨by omega, by omega⟩)) ?_)
        rintro s562 v ⟨hG_s562, t_s562, z561, rfl, g_z561⟩
        have q563 : s562 46 3 = x1000 := (t_s562 46 3 (show 452 ∉ [5312, 5376, 4123, 5440, 5504, 5568, 5632, 5696, 5760, 4150, 4151, 4152, 4153, 6336] from by decide +kernel)).trans q551
        have q564 : s562 256 6 = x1001 := (t_s562 256 6 (show 4103 ∉ [5312, 5376, 4123, 5440, 5504, 5568, 5632, 5696, 5760, 4150, 4151, 4152, 4153, 6336] from by decide +kernel)).trans q552
        have q565 : s562 50 6 = x1002 := (t_s562 50 6 (show 711 ∉ [5312, 5376, 4123, 5440, 5504, 5568, 5632, 5696, 5760, 4150, 4151, 4152, 4153, 6336] from by decide +kernel)).trans q553
        have q566 : s562 256 10 = x1003 := (t_s562 256 10 (show 4107 ∉ [5312, 5376, 4123, 5440, 5504, 5568, 5632, 5696, 5760, 4150, 4151, 4152, 4153, 6336] from by decide +kernel)).trans q554
        have J_s562 : J s562 := J.fl J_s550 t_s562 (by decide +kernel)
        have T0_s562 : T0 s562 := T0.fl T0_s550 t_s562 (by decide +kernel)
        show xe (some (N, xs)) 231 1111 [(0, .ref 2000), (1, .ref 0), (2, .ref 256), (3, vi x3)] [vi z561] s562 295 10442 _
        refine x_A k231_1111 (fun _ => rfl) ?_
        refine x_goto k231_1112 (t := 1300) rfl ?_
        refine x_iinc k231_1300 (ls' := [(3, vi (x3 + 7)), (0, .ref 2000), (1, .ref 0), (2, .ref 256)]) rfl (by decide) rfl ?_
        refine x_goto k231_1303 (t := 18) rfl ?_
        refine x_ls (l := [(0, .ref 2000), (1, .ref 0), (2, .ref 256), (3, vi (x3 + 7))]) (show ([0, 1, 2, 3] : List Nat).Nodup from by decide +kernel) ⟨rfl, rfl, rfl, rfl, trivial⟩ ?_
        exact ih s562 (x3 + 7) x1000 x1001 x1002 x1003 hG_s562 trivial ⟨by omega, by omega⟩ (by first | exact x_rb b_x1000 rfl rfl | exact ⟨by omega, by omega⟩) (by first | exact x_rb b_x1001 rfl rfl | exact ⟨by omega, by omega⟩) (by first | exact x_rb b_x1002 rfl rfl | exact ⟨by omega, by omega⟩) (by first | exact x_rb b_x1003 rfl rfl | exact ⟨by omega, by omega⟩) (by omega) (by omega) (q563).symm (q564).symm (q565).symm (q566).symm J_s562 T0_s562  (by omega)
      · rw [c5]
        refine x_B k231_33 rfl (fun _ => rfl) (fun _ => rfl) (fun _ _ => rfl) ?_
        show xe (some (N, xs)) 231 1115 [(0, .ref 2000), (1, .ref 0), (2, .ref 256), (3, vi x3)] [] s 295 10442 _
        refine x_A k231_1115 (fun _ => rfl) ?_
        refine x_A k231_1116 (fun _ => rfl) ?_
        refine x_A k231_1117 (fun _ => rfl) ?_
        refine x_A k231_1118 (fun _ => rfl) ?_
        refine x_iadd k231_1119 ?_
        refine x_top (fun z567 e_z567 => ?_)
        refine x_scr k231_1120 hN ⟨by omega, by omega⟩ (fun z568 g_z568 e_z568 => ?_)
        unfold in32 at g_z568
        refine x_A k231_1121 (fun _ => rfl) ?_
        refine x_A k231_1122 (fun _ => rfl) ?_
        refine x_A k231_1123 (fun _ => rfl) ?_
        refine x_iadd k231_1124 ?_
        refine x_top (fun z569 e_z569 => ?_)
        refine x_scr k231_1125 hN ⟨by omega, by omega⟩ (fun z570 g_z570 e_z570 => ?_)
        unfold in32 at g_z570
        refine x_callV k231_1126 (y := 116) (n := 2) (w0 := 0) (w1 := 2) (as := [vi z568, vi z570]) (rest := []) (by decide +kernel) (q := 0) (nq := 12) (kq := 3) ⟨by decide, rfl⟩ rfl rfl rfl rfl (xe_mono (C_X10_lacking_0 s hG i_J z568 (by first | exact x_rbe e_z568 g_z568 rfl rfl | exact x_rb g_z568 rfl rfl | exact ⟨by omega, by omega⟩) z570 (by first | exact x_rbe e_z570 g_z570 rfl rfl | exact x_rb g_z570 rfl rfl | exact ⟨by omega, by omega⟩)) ?_)
        rintro s572 v ⟨hG_s572, t_s572, z571, rfl, b_z571⟩
        have q573 : s572 46 3 = x1000 := (t_s572 46 3 (show 452 ∉ [3329, 3334, 3335, 3336, 3392, 3456, 3520, 3584, 3276, 3648, 3712, 3776, 3840, 3904, 3968, 3277, 4032] from by decide +kernel)).trans e_x1000.symm
        have q574 : s572 256 6 = x1001 := (t_s572 256 6 (show 4103 ∉ [3329, 3334, 3335, 3336, 3392, 3456, 3520, 3584, 3276, 3648, 3712, 3776, 3840, 3904, 3968, 3277, 4032] from by decide +kernel)).trans e_x1001.symm
        have q575 : s572 50 6 = x1002 := (t_s572 50 6 (show 711 ∉ [3329, 3334, 3335, 3336, 3392, 3456, 3520, 3584, 3276, 3648, 3712, 3776, 3840, 3904, 3968, 3277, 4032] from by decide +kernel)).trans e_x1002.symm
        have q576 : s572 256 10 = x1003 := (t_s572 256 10 (show 4107 ∉ [3329, 3334, 3335, 3336, 3392, 3456, 3520, 3584, 3276, 3648, 3712, 3776, 3840, 3904, 3968, 3277, 4032] from by decide +kernel)).trans e_x1003.symm
        have J_s572 : J s572 := J.fl i_J t_s572 (by decide +kernel)
        have T0_s572 : T0 s572 := T0.fl i_T0 t_s572 (by decide +kernel)
        show xe (some (N, xs)) 231 1129 [(0, .ref 2000), (1, .ref 0), (2, .ref 256), (3, vi x3)] [vj z571] s572 295 10442 _
        refine x_A k231_1129 (fun _ => rfl) ?_
        refine x_A k231_1130 (fun _ => rfl) ?_
        refine x_A k231_1131 (fun _ => rfl) ?_
        refine x_A k231_1132 (fun _ => rfl) ?_
        refine x_A k231_1133 (fun _ => rfl) ?_
        refine x_iadd k231_1134 ?_
        refine x_top (fun z577 e_z577 => ?_)
        refine x_scr k231_1135 hN ⟨by omega, by omega⟩ (fun z578 g_z578 e_z578 => ?_)
        unfold in32 at g_z578
        have q_z578 : z578 = z568 := by rw [e_z578, e_z568, show z577 = z567 by omega]
        refine x_A k231_1136 (fun _ => rfl) ?_
        refine x_A k231_1137 (fun _ => rfl) ?_
        refine x_A k231_1138 (fun _ => rfl) ?_
        refine x_iadd k231_1139 ?_
        refine x_top (fun z579 e_z579 => ?_)
        refine x_scr k231_1140 hN ⟨by omega, by omega⟩ (fun z580 g_z580 e_z580 => ?_)
        unfold in32 at g_z580
        have q_z580 : z580 = z570 := by rw [e_z580, e_z570, show z579 = z569 by omega]
        refine x_callV k231_1141 (y := 214) (n := 2) (w0 := 0) (w1 := 2) (as := [vi z578, vi z580]) (rest := []) (by decide +kernel) (q := 256) (nq := 62) (kq := 15) ⟨by decide, rfl⟩ rfl rfl rfl rfl (xe_mono (C_X11_lacking_256 s572 hG_s572 J_s572 z578 (by first | exact x_rbe e_z578 g_z578 rfl rfl | exact x_rb g_z578 rfl rfl | exact ⟨by omega, by omega⟩) z580 (by first | exact x_rbe e_z580 g_z580 rfl rfl | exact x_rb g_z580 rfl rfl | exact ⟨by omega, by omega⟩)) ?_)
        rintro s582 v ⟨hG_s582, t_s582, z581, rfl, b_z581⟩
        have q583 : s582 46 3 = x1000 := (t_s582 46 3 (show 452 ∉ [5312, 5376, 4123, 5440, 5504, 5568, 5632, 5696, 5760] from by decide +kernel)).trans q573
        have q584 : s582 256 6 = x1001 := (t_s582 256 6 (show 4103 ∉ [5312, 5376, 4123, 5440, 5504, 5568, 5632, 5696, 5760] from by decide +kernel)).trans q574
        have q585 : s582 50 6 = x1002 := (t_s582 50 6 (show 711 ∉ [5312, 5376, 4123, 5440, 5504, 5568, 5632, 5696, 5760] from by decide +kernel)).trans q575
        have q586 : s582 256 10 = x1003 := (t_s582 256 10 (show 4107 ∉ [5312, 5376, 4123, 5440, 5504, 5568, 5632, 5696, 5760] from by decide +kernel)).trans q576
        have J_s582 : J s582 := J.fl J_s572 t_s582 (by decide +kernel)
        have T0_s582 : T0 s582 := T0.fl T0_s572 t_s582 (by decide +kernel)
        show xe (some (N, xs)) 231 1144 [(0, .ref 2000), (1, .ref 0), (2, .ref 256), (3, vi x3)] [vj z581] s582 295 10442 _
        refine x_A k231_1144 (fun _ => rfl) ?_
        refine x_goto k231_1145 (t := 1300) rfl ?_
        refine x_iinc k231_1300 (ls' := [(3, vi (x3 + 7)), (0, .ref 2000), (1, .ref 0), (2, .ref 256)]) rfl (by decide) rfl ?_
        refine x_goto k231_1303 (t := 18) rfl ?_
        refine x_ls (l := [(0, .ref 2000), (1, .ref 0), (2, .ref 256), (3, vi (x3 + 7))]) (show ([0, 1, 2, 3] : List Nat).Nodup from by decide +kernel) ⟨rfl, rfl, rfl, rfl, trivial⟩ ?_
        exact ih s582 (x3 + 7) x1000 x1001 x1002 x1003 hG_s582 trivial ⟨by omega, by omega⟩ (by first | exact x_rb b_x1000 rfl rfl | exact ⟨by omega, by omega⟩) (by first | exact x_rb b_x1001 rfl rfl | exact ⟨by omega, by omega⟩) (by first | exact x_rb b_x1002 rfl rfl | exact ⟨by omega, by omega⟩) (by first | exact x_rb b_x1003 rfl rfl | exact ⟨by omega, by omega⟩) (by omega) (by omega) (q583).symm (q584).symm (q585).symm (q586).symm J_s582 T0_s582  (by omega)
      · rw [c5]
        refine x_B k231_33 rfl (fun _ => rfl) (fun _ => rfl) (fun _ _ => rfl) ?_
        show xe (some (N, xs)) 231 1148 [(0, .ref 2000), (1, .ref 0), (2, .ref 256), (3, vi x3)] [] s 295 10442 _
        refine x_A k231_1148 (fun _ => rfl) ?_
        refine x_callV k231_1149 (y := 117) (n := 0) (w0 := 0) (w1 := 0) (as := []) (rest := []) (by decide +kernel) (q := 0) (nq := 12) (kq := 3) ⟨by decide, rfl⟩ rfl rfl rfl rfl (xe_mono (C_X10_story_0 s hG) ?_)
        rintro s588 v ⟨hG_s588, t_s588, z587, rfl, g_z587⟩
        have q589 : s588 46 3 = x1000 := (t_s588 46 3 (show 452 ∉ [2884] from by decide +kernel)).trans e_x1000.symm
        have q590 : s588 256 6 = x1001 := (t_s588 256 6 (show 4103 ∉ [2884] from by decide +kernel)).trans e_x1001.symm
        have q591 : s588 50 6 = x1002 := (t_s588 50 6 (show 711 ∉ [2884] from by decide +kernel)).trans e_x1002.symm
        have q592 : s588 256 10 = x1003 := (t_s588 256 10 (show 4107 ∉ [2884] from by decide +kernel)).trans e_x1003.symm
        have J_s588 : J s588 := J.fl i_J t_s588 (by decide +kernel)
        have T0_s588 : T0 s588 := T0.fl i_T0 t_s588 (by decide +kernel)
        show xe (some (N, xs)) 231 1152 [(0, .ref 2000), (1, .ref 0), (2, .ref 256), (3, vi x3)] [vi z587] s588 295 10442 _
        refine x_A k231_1152 (fun _ => rfl) ?_
        refine x_A k231_1153 (fun _ => rfl) ?_
        refine x_callV k231_1154 (y := 215) (n := 0) (w0 := 0) (w1 := 0) (as := []) (rest := []) (by decide +kernel) (q := 256) (nq := 62) (kq := 15) ⟨by decide, rfl⟩ rfl rfl rfl rfl (xe_mono (C_X11_story_256 s588 hG_s588) ?_)
        rintro s594 v ⟨hG_s594, t_s594, z593, rfl, g_z593⟩
        have q595 : s594 46 3 = x1000 := (t_s594 46 3 (show 452 ∉ [4155, 6400] from by decide +kernel)).trans q589
        have q596 : s594 256 6 = x1001 := (t_s594 256 6 (show 4103 ∉ [4155, 6400] from by decide +kernel)).trans q590
        have q597 : s594 50 6 = x1002 := (t_s594 50 6 (show 711 ∉ [4155, 6400] from by decide +kernel)).trans q591
        have q598 : s594 256 10 = x1003 := (t_s594 256 10 (show 4107 ∉ [4155, 6400] from by decide +kernel)).trans q592
        have J_s594 : J s594 := J.fl J_s588 t_s594 (by decide +kernel)
        have T0_s594 : T0 s594 := T0.fl T0_s588 t_s594 (by decide +kernel)
        show xe (some (N, xs)) 231 1157 [(0, .ref 2000), (1, .ref 0), (2, .ref 256), (3, vi x3)] [vi z593] s594 295 10442 _
        refine x_A k231_1157 (fun _ => rfl) ?_
        refine x_goto k231_1158 (t := 1300) rfl ?_
        refine x_iinc k231_1300 (ls' := [(3, vi (x3 + 7)), (0, .ref 2000), (1, .ref 0), (2, .ref 256)]) rfl (by decide) rfl ?_
        refine x_goto k231_1303 (t := 18) rfl ?_
        refine x_ls (l := [(0, .ref 2000), (1, .ref 0), (2, .ref 256), (3, vi (x3 + 7))]) (show ([0, 1, 2, 3] : List Nat).Nodup from by decide +kernel) ⟨rfl, rfl, rfl, rfl, trivial⟩ ?_
        exact ih s594 (x3 + 7) x1000 x1001 x1002 x1003 hG_s594 trivial ⟨by omega, by omega⟩ (by first | exact x_rb b_x1000 rfl rfl | exact ⟨by omega, by omega⟩) (by first | exact x_rb b_x1001 rfl rfl | exact ⟨by omega, by omega⟩) (by first | exact x_rb b_x1002 rfl rfl | exact ⟨by omega, by omega⟩) (by first | exact x_rb b_x1003 rfl rfl | exact ⟨by omega, by omega⟩) (by omega) (by omega) (q595).symm (q596).symm (q597).symm (q598).symm J_s594 T0_s594  (by omega)
      · rw [c5]
        refine x_B k231_33 rfl (fun _ => rfl) (fun _ => rfl) (fun _ _ => rfl) ?_
        show xe (some (N, xs)) 231 1161 [(0, .ref 2000), (1, .ref 0), (2, .ref 256), (3, vi x3)] [] s 295 10442 _
        refine x_A k231_1161 (fun _ => rfl) ?_
        refine x_A k231_1162 (fun _ => rfl) ?_
        refine x_A k231_1163 (fun _ => rfl) ?_
        refine x_A k231_1164 (fun _ => rfl) ?_
        refine x_iadd k231_1165 ?_
        refine x_top (fun z599 e_z599 => ?_)
        refine x_scr k231_1166 hN ⟨by omega, by omega⟩ (fun z600 g_z600 e_z600 => ?_)
        unfold in32 at g_z600
        refine x_A k231_1167 (fun _ => rfl) ?_
        refine x_A k231_1168 (fun _ => rfl) ?_
        refine x_A k231_1169 (fun _ => rfl) ?_
        refine x_iadd k231_1170 ?_
        refine x_top (fun z601 e_z601 => ?_)
        refine x_scr k231_1171 hN ⟨by omega, by omega⟩ (fun z602 g_z602 e_z602 => ?_)
        unfold in32 at g_z602
        refine x_A k231_1172 (fun _ => rfl) ?_
        refine x_A k231_1173 (fun _ => rfl) ?_
        refine x_A k231_1174 (fun _ => rfl) ?_
        refine x_iadd k231_1175 ?_
        refine x_top (fun z603 e_z603 => ?_)
        refine x_scr k231_1176 hN ⟨by omega, by omega⟩ (fun z604 g_z604 e_z604 => ?_)
        unfold in32 at g_z604
        refine x_callV k231_1177 (y := 118) (n := 3) (w0 := 0) (w1 := 3) (as := [vi z600, vi z602, vi z604]) (rest := []) (by decide +kernel) (q := 0) (nq := 12) (kq := 3) ⟨by decide, rfl⟩ rfl rfl rfl rfl (xe_mono (C_X10_moment_0 s hG z600 (by first | exact x_rbe e_z600 g_z600 rfl rfl | exact x_rb g_z600 rfl rfl | exact ⟨by omega, by omega⟩) z602 (by first | exact x_rbe e_z602 g_z602 rfl rfl | exact x_rb g_z602 rfl rfl | exact ⟨by omega, by omega⟩) z604 (by first | exact x_rbe e_z604 g_z604 rfl rfl | exact x_rb g_z604 rfl rfl | exact ⟨by omega, by omega⟩)) ?_)
        rintro s606 v ⟨hG_s606, t_s606, z605, rfl, g_z605⟩
        have q607 : s606 46 3 = x1000 := (t_s606 46 3 (show 452 ∉ [2944, 3072, 3200] from by decide +kernel)).trans e_x1000.symm
        have q608 : s606 256 6 = x1001 := (t_s606 256 6 (show 4103 ∉ [2944, 3072, 3200] from by decide +kernel)).trans e_x1001.symm
        have q609 : s606 50 6 = x1002 := (t_s606 50 6 (show 711 ∉ [2944, 3072, 3200] from by decide +kernel)).trans e_x1002.symm
        have q610 : s606 256 10 = x1003 := (t_s606 256 10 (show 4107 ∉ [2944, 3072, 3200] from by decide +kernel)).trans e_x1003.symm
        have J_s606 : J s606 := J.fl i_J t_s606 (by decide +kernel)
        have T0_s606 : T0 s606 := T0.fl i_T0 t_s606 (by decide +kernel)
        show xe (some (N, xs)) 231 1180 [(0, .ref 2000), (1, .ref 0), (2, .ref 256), (3, vi x3)] [vi z605] s606 295 10442 _
        refine x_A k231_1180 (fun _ => rfl) ?_
        refine x_A k231_1181 (fun _ => rfl) ?_
        refine x_A k231_1182 (fun _ => rfl) ?_
        refine x_A k231_1183 (fun _ => rfl) ?_
        refine x_A k231_1184 (fun _ => rfl) ?_
        refine x_iadd k231_1185 ?_
        refine x_top (fun z611 e_z611 => ?_)
        refine x_scr k231_1186 hN ⟨by omega, by omega⟩ (fun z612 g_z612 e_z612 => ?_)
        unfold in32 at g_z612
        have q_z612 : z612 = z600 := by rw [e_z612, e_z600, show z611 = z599 by omega]
        refine x_A k231_1187 (fun _ => rfl) ?_
        refine x_A k231_1188 (fun _ => rfl) ?_
        refine x_A k231_1189 (fun _ => rfl) ?_
        refine x_iadd k231_1190 ?_
        refine x_top (fun z613 e_z613 => ?_)
        refine x_scr k231_1191 hN ⟨by omega, by omega⟩ (fun z614 g_z614 e_z614 => ?_)
        unfold in32 at g_z614
        have q_z614 : z614 = z602 := by rw [e_z614, e_z602, show z613 = z601 by omega]
        refine x_A k231_1192 (fun _ => rfl) ?_
        refine x_A k231_1193 (fun _ => rfl) ?_
        refine x_A k231_1194 (fun _ => rfl) ?_
        refine x_iadd k231_1195 ?_
        refine x_top (fun z615 e_z615 => ?_)
        refine x_scr k231_1196 hN ⟨by omega, by omega⟩ (fun z616 g_z616 e_z616 => ?_)
        unfold in32 at g_z616
        have q_z616 : z616 = z604 := by rw [e_z616, e_z604, show z615 = z603 by omega]
        refine x_callV k231_1197 (y := 216) (n := 3) (w0 := 0) (w1 := 3) (as := [vi z612, vi z614, vi z616]) (rest := []) (by decide +kernel) (q := 256) (nq := 62) (kq := 15) ⟨by decide, rfl⟩ rfl rfl rfl rfl (xe_mono (C_X11_moment_256 s606 hG_s606 z612 (by first | exact x_rbe e_z612 g_z612 rfl rfl | exact x_rb g_z612 rfl rfl | exact ⟨by omega, by omega⟩) z614 (by first | exact x_rbe e_z614 g_z614 rfl rfl | exact x_rb g_z614 rfl rfl | exact ⟨by omega, by omega⟩) z616 (by first | exact x_rbe e_z616 g_z616 rfl rfl | exact x_rb g_z616 rfl rfl | exact ⟨by omega, by omega⟩)) ?_)
        rintro s618 v ⟨hG_s618, t_s618, z617, rfl, g_z617⟩
        have q619 : s618 46 3 = x1000 := (t_s618 46 3 (show 452 ∉ [6400, 6464, 6528] from by decide +kernel)).trans q607
        have q620 : s618 256 6 = x1001 := (t_s618 256 6 (show 4103 ∉ [6400, 6464, 6528] from by decide +kernel)).trans q608
        have q621 : s618 50 6 = x1002 := (t_s618 50 6 (show 711 ∉ [6400, 6464, 6528] from by decide +kernel)).trans q609
        have q622 : s618 256 10 = x1003 := (t_s618 256 10 (show 4107 ∉ [6400, 6464, 6528] from by decide +kernel)).trans q610
        have J_s618 : J s618 := J.fl J_s606 t_s618 (by decide +kernel)
        have T0_s618 : T0 s618 := T0.fl T0_s606 t_s618 (by decide +kernel)
        show xe (some (N, xs)) 231 1200 [(0, .ref 2000), (1, .ref 0), (2, .ref 256), (3, vi x3)] [vi z617] s618 295 10442 _
        refine x_A k231_1200 (fun _ => rfl) ?_
        refine x_goto k231_1201 (t := 1300) rfl ?_
        refine x_iinc k231_1300 (ls' := [(3, vi (x3 + 7)), (0, .ref 2000), (1, .ref 0), (2, .ref 256)]) rfl (by decide) rfl ?_
        refine x_goto k231_1303 (t := 18) rfl ?_
        refine x_ls (l := [(0, .ref 2000), (1, .ref 0), (2, .ref 256), (3, vi (x3 + 7))]) (show ([0, 1, 2, 3] : List Nat).Nodup from by decide +kernel) ⟨rfl, rfl, rfl, rfl, trivial⟩ ?_
        exact ih s618 (x3 + 7) x1000 x1001 x1002 x1003 hG_s618 trivial ⟨by omega, by omega⟩ (by first | exact x_rb b_x1000 rfl rfl | exact ⟨by omega, by omega⟩) (by first | exact x_rb b_x1001 rfl rfl | exact ⟨by omega, by omega⟩) (by first | exact x_rb b_x1002 rfl rfl | exact ⟨by omega, by omega⟩) (by first | exact x_rb b_x1003 rfl rfl | exact ⟨by omega, by omega⟩) (by omega) (by omega) (q619).symm (q620).symm (q621).symm (q622).symm J_s618 T0_s618  (by omega)
      · rw [c5]
        refine x_B k231_33 rfl (fun _ => rfl) (fun _ => rfl) (fun _ _ => rfl) ?_
        show xe (some (N, xs)) 231 1204 [(0, .ref 2000), (1, .ref 0), (2, .ref 256), (3, vi x3)] [] s 295 10442 _
        refine x_A k231_1204 (fun _ => rfl) ?_
        refine x_A k231_1205 (fun _ => rfl) ?_
        refine x_A k231_1206 (fun _ => rfl) ?_
        refine x_A k231_1207 (fun _ => rfl) ?_
        refine x_iadd k231_1208 ?_
        refine x_top (fun z623 e_z623 => ?_)
        refine x_scr k231_1209 hN ⟨by omega, by omega⟩ (fun z624 g_z624 e_z624 => ?_)
        unfold in32 at g_z624
        refine x_A k231_1210 (fun _ => rfl) ?_
        refine x_A k231_1211 (fun _ => rfl) ?_
        refine x_A k231_1212 (fun _ => rfl) ?_
        refine x_iadd k231_1213 ?_
        refine x_top (fun z625 e_z625 => ?_)
        refine x_scr k231_1214 hN ⟨by omega, by omega⟩ (fun z626 g_z626 e_z626 => ?_)
        unfold in32 at g_z626
        refine x_A k231_1215 (fun _ => rfl) ?_
        refine x_A k231_1216 (fun _ => rfl) ?_
        refine x_A k231_1217 (fun _ => rfl) ?_
        refine x_iadd k231_1218 ?_
        refine x_top (fun z627 e_z627 => ?_)
        refine x_scr k231_1219 hN ⟨by omega, by omega⟩ (fun z628 g_z628 e_z628 => ?_)
        unfold in32 at g_z628
        refine x_A k231_1220 (fun _ => rfl) ?_
        refine x_A k231_1221 (fun _ => rfl) ?_
        refine x_A k231_1222 (fun _ => rfl) ?_
        refine x_iadd k231_1223 ?_
        refine x_top (fun z629 e_z629 => ?_)
        refine x_scr k231_1224 hN ⟨by omega, by omega⟩ (fun z630 g_z630 e_z630 => ?_)
        unfold in32 at g_z630
        refine x_callV k231_1225 (y := 119) (n := 4) (w0 := 0) (w1 := 4) (as := [vi z624, vi z626, vi z628, vi z630]) (rest := []) (by decide +kernel) (q := 0) (nq := 12) (kq := 3) ⟨by decide, rfl⟩ rfl rfl rfl rfl (xe_mono (C_X10_of_0 s hG i_J z624 (by first | exact x_rbe e_z624 g_z624 rfl rfl | exact x_rb g_z624 rfl rfl | exact ⟨by omega, by omega⟩) z626 (by first | exact x_rbe e_z626 g_z626 rfl rfl | exact x_rb g_z626 rfl rfl | exact ⟨by omega, by omega⟩) z628 (by first | exact x_rbe e_z628 g_z628 rfl rfl | exact x_rb g_z628 rfl rfl | exact ⟨by omega, by omega⟩) z630 (by first | exact x_rbe e_z630 g_z630 rfl rfl | exact x_rb g_z630 rfl rfl | exact ⟨by omega, by omega⟩)) ?_)
        rintro s632 v ⟨hG_s632, t_s632, z631, rfl, g_z631⟩
        have q633 : s632 46 3 = x1000 := (t_s632 46 3 (show 452 ∉ [3329, 3334, 3335, 3336, 3392, 3456, 3520, 3584, 3276, 3648, 3712, 3776, 3840, 3904, 3968, 3277, 4032] from by decide +kernel)).trans e_x1000.symm
        have q634 : s632 256 6 = x1001 := (t_s632 256 6 (show 4103 ∉ [3329, 3334, 3335, 3336, 3392, 3456, 3520, 3584, 3276, 3648, 3712, 3776, 3840, 3904, 3968, 3277, 4032] from by decide +kernel)).trans e_x1001.symm
        have q635 : s632 50 6 = x1002 := (t_s632 50 6 (show 711 ∉ [3329, 3334, 3335, 3336, 3392, 3456, 3520, 3584, 3276, 3648, 3712, 3776, 3840, 3904, 3968, 3277, 4032] from by decide +kernel)).trans e_x1002.symm
        have q636 : s632 256 10 = x1003 := (t_s632 256 10 (show 4107 ∉ [3329, 3334, 3335, 3336, 3392, 3456, 3520, 3584, 3276, 3648, 3712, 3776, 3840, 3904, 3968, 3277, 4032] from by decide +kernel)).trans e_x1003.symm
        have J_s632 : J s632 := J.fl i_J t_s632 (by decide +kernel)
        have T0_s632 : T0 s632 := T0.fl i_T0 t_s632 (by decide +kernel)
        show xe (some (N, xs)) 231 1228 [(0, .ref 2000), (1, .ref 0), (2, .ref 256), (3, vi x3)] [vi z631] s632 295 10442 _
        refine x_A k231_1228 (fun _ => rfl) ?_
        refine x_A k231_1229 (fun _ => rfl) ?_
        refine x_A k231_1230 (fun _ => rfl) ?_
        refine x_A k231_1231 (fun _ => rfl) ?_
        refine x_A k231_1232 (fun _ => rfl) ?_
        refine x_iadd k231_1233 ?_
        refine x_top (fun z637 e_z637 => ?_)
        refine x_scr k231_1234 hN ⟨by omega, by omega⟩ (fun z638 g_z638 e_z638 => ?_)
        unfold in32 at g_z638
        have q_z638 : z638 = z624 := by rw [e_z638, e_z624, show z637 = z623 by omega]
        refine x_A k231_1235 (fun _ => rfl) ?_
        refine x_A k231_1236 (fun _ => rfl) ?_
        refine x_A k231_1237 (fun _ => rfl) ?_
        refine x_iadd k231_1238 ?_
        refine x_top (fun z639 e_z639 => ?_)
        refine x_scr k231_1239 hN ⟨by omega, by omega⟩ (fun z640 g_z640 e_z640 => ?_)
        unfold in32 at g_z640
        have q_z640 : z640 = z626 := by rw [e_z640, e_z626, show z639 = z625 by omega]
        refine x_A k231_1240 (fun _ => rfl) ?_
        refine x_A k231_1241 (fun _ => rfl) ?_
        refine x_A k231_1242 (fun _ => rfl) ?_
        refine x_iadd k231_1243 ?_
        refine x_top (fun z641 e_z641 => ?_)
        refine x_scr k231_1244 hN ⟨by omega, by omega⟩ (fun z642 g_z642 e_z642 => ?_)
        unfold in32 at g_z642
        have q_z642 : z642 = z628 := by rw [e_z642, e_z628, show z641 = z627 by omega]
        refine x_A k231_1245 (fun _ => rfl) ?_
        refine x_A k231_1246 (fun _ => rfl) ?_
        refine x_A k231_1247 (fun _ => rfl) ?_
        refine x_iadd k231_1248 ?_
        refine x_top (fun z643 e_z643 => ?_)
        refine x_scr k231_1249 hN ⟨by omega, by omega⟩ (fun z644 g_z644 e_z644 => ?_)
        unfold in32 at g_z644
        have q_z644 : z644 = z630 := by rw [e_z644, e_z630, show z643 = z629 by omega]
        refine x_callV k231_1250 (y := 217) (n := 4) (w0 := 0) (w1 := 4) (as := [vi z638, vi z640, vi z642, vi z644]) (rest := []) (by decide +kernel) (q := 256) (nq := 62) (kq := 15) ⟨by decide, rfl⟩ rfl rfl rfl rfl (xe_mono (C_X11_of_256 s632 hG_s632 J_s632 z638 (by first | exact x_rbe e_z638 g_z638 rfl rfl | exact x_rb g_z638 rfl rfl | exact ⟨by omega, by omega⟩) z640 (by first | exact x_rbe e_z640 g_z640 rfl rfl | exact x_rb g_z640 rfl rfl | exact ⟨by omega, by omega⟩) z642 (by first | exact x_rbe e_z642 g_z642 rfl rfl | exact x_rb g_z642 rfl rfl | exact ⟨by omega, by omega⟩) z644 (by first | exact x_rbe e_z644 g_z644 rfl rfl | exact x_rb g_z644 rfl rfl | exact ⟨by omega, by omega⟩)) ?_)
        rintro s646 v ⟨hG_s646, t_s646, z645, rfl, g_z645⟩
        have q647 : s646 46 3 = x1000 := (t_s646 46 3 (show 452 ∉ [5312, 5376, 4123, 5440, 5504, 5568, 5632, 5696, 5760] from by decide +kernel)).trans q633
        have q648 : s646 256 6 = x1001 := (t_s646 256 6 (show 4103 ∉ [5312, 5376, 4123, 5440, 5504, 5568, 5632, 5696, 5760] from by decide +kernel)).trans q634
        have q649 : s646 50 6 = x1002 := (t_s646 50 6 (show 711 ∉ [5312, 5376, 4123, 5440, 5504, 5568, 5632, 5696, 5760] from by decide +kernel)).trans q635
        have q650 : s646 256 10 = x1003 := (t_s646 256 10 (show 4107 ∉ [5312, 5376, 4123, 5440, 5504, 5568, 5632, 5696, 5760] from by decide +kernel)).trans q636
        have J_s646 : J s646 := J.fl J_s632 t_s646 (by decide +kernel)
        have T0_s646 : T0 s646 := T0.fl T0_s632 t_s646 (by decide +kernel)
        show xe (some (N, xs)) 231 1253 [(0, .ref 2000), (1, .ref 0), (2, .ref 256), (3, vi x3)] [vi z645] s646 295 10442 _
        refine x_A k231_1253 (fun _ => rfl) ?_
        refine x_goto k231_1254 (t := 1300) rfl ?_
        refine x_iinc k231_1300 (ls' := [(3, vi (x3 + 7)), (0, .ref 2000), (1, .ref 0), (2, .ref 256)]) rfl (by decide) rfl ?_
        refine x_goto k231_1303 (t := 18) rfl ?_
        refine x_ls (l := [(0, .ref 2000), (1, .ref 0), (2, .ref 256), (3, vi (x3 + 7))]) (show ([0, 1, 2, 3] : List Nat).Nodup from by decide +kernel) ⟨rfl, rfl, rfl, rfl, trivial⟩ ?_
        exact ih s646 (x3 + 7) x1000 x1001 x1002 x1003 hG_s646 trivial ⟨by omega, by omega⟩ (by first | exact x_rb b_x1000 rfl rfl | exact ⟨by omega, by omega⟩) (by first | exact x_rb b_x1001 rfl rfl | exact ⟨by omega, by omega⟩) (by first | exact x_rb b_x1002 rfl rfl | exact ⟨by omega, by omega⟩) (by first | exact x_rb b_x1003 rfl rfl | exact ⟨by omega, by omega⟩) (by omega) (by omega) (q647).symm (q648).symm (q649).symm (q650).symm J_s646 T0_s646  (by omega)
      · rw [c5]
        refine x_B k231_33 rfl (fun _ => rfl) (fun _ => rfl) (fun _ _ => rfl) ?_
        show xe (some (N, xs)) 231 1257 [(0, .ref 2000), (1, .ref 0), (2, .ref 256), (3, vi x3)] [] s 295 10442 _
        refine x_A k231_1257 (fun _ => rfl) ?_
        refine x_A k231_1258 (fun _ => rfl) ?_
        refine x_A k231_1259 (fun _ => rfl) ?_
        refine x_A k231_1260 (fun _ => rfl) ?_
        refine x_iadd k231_1261 ?_
        refine x_top (fun z651 e_z651 => ?_)
        refine x_scr k231_1262 hN ⟨by omega, by omega⟩ (fun z652 g_z652 e_z652 => ?_)
        unfold in32 at g_z652
        refine x_A k231_1263 (fun _ => rfl) ?_
        refine x_A k231_1264 (fun _ => rfl) ?_
        refine x_A k231_1265 (fun _ => rfl) ?_
        refine x_iadd k231_1266 ?_
        refine x_top (fun z653 e_z653 => ?_)
        refine x_scr k231_1267 hN ⟨by omega, by omega⟩ (fun z654 g_z654 e_z654 => ?_)
        unfold in32 at g_z654
        refine x_A k231_1268 (fun _ => rfl) ?_
        refine x_A k231_1269 (fun _ => rfl) ?_
        refine x_A k231_1270 (fun _ => rfl) ?_
        refine x_iadd k231_1271 ?_
        refine x_top (fun z655 e_z655 => ?_)
        refine x_scr k231_1272 hN ⟨by omega, by omega⟩ (fun z656 g_z656 e_z656 => ?_)
        unfold in32 at g_z656
        refine x_callV k231_1273 (y := 120) (n := 3) (w0 := 0) (w1 := 3) (as := [vi z652, vi z654, vi z656]) (rest := []) (by decide +kernel) (q := 0) (nq := 12) (kq := 3) ⟨by decide, rfl⟩ rfl rfl rfl rfl (xe_mono (C_X10_split_0 s hG i_J z652 (by first | exact x_rbe e_z652 g_z652 rfl rfl | exact x_rb g_z652 rfl rfl | exact ⟨by omega, by omega⟩) z654 (by first | exact x_rbe e_z654 g_z654 rfl rfl | exact x_rb g_z654 rfl rfl | exact ⟨by omega, by omega⟩) z656 (by first | exact x_rbe e_z656 g_z656 rfl rfl | exact x_rb g_z656 rfl rfl | exact ⟨by omega, by omega⟩)) ?_)
        rintro s658 v ⟨hG_s658, t_s658, z657, rfl, g_z657⟩
        have q659 : s658 46 3 = x1000 := (t_s658 46 3 (show 452 ∉ [3329, 3334, 3335, 3336, 3392, 3456, 3520, 3584, 3276, 3648, 3712, 3776, 3840, 3904, 3968, 3277, 4032] from by decide +kernel)).trans e_x1000.symm
        have q660 : s658 256 6 = x1001 := (t_s658 256 6 (show 4103 ∉ [3329, 3334, 3335, 3336, 3392, 3456, 3520, 3584, 3276, 3648, 3712, 3776, 3840, 3904, 3968, 3277, 4032] from by decide +kernel)).trans e_x1001.symm
        have q661 : s658 50 6 = x1002 := (t_s658 50 6 (show 711 ∉ [3329, 3334, 3335, 3336, 3392, 3456, 3520, 3584, 3276, 3648, 3712, 3776, 3840, 3904, 3968, 3277, 4032] from by decide +kernel)).trans e_x1002.symm
        have q662 : s658 256 10 = x1003 := (t_s658 256 10 (show 4107 ∉ [3329, 3334, 3335, 3336, 3392, 3456, 3520, 3584, 3276, 3648, 3712, 3776, 3840, 3904, 3968, 3277, 4032] from by decide +kernel)).trans e_x1003.symm
        have J_s658 : J s658 := J.fl i_J t_s658 (by decide +kernel)
        have T0_s658 : T0 s658 := T0.fl i_T0 t_s658 (by decide +kernel)
        show xe (some (N, xs)) 231 1276 [(0, .ref 2000), (1, .ref 0), (2, .ref 256), (3, vi x3)] [vi z657] s658 295 10442 _
        refine x_A k231_1276 (fun _ => rfl) ?_
        refine x_A k231_1277 (fun _ => rfl) ?_
        refine x_A k231_1278 (fun _ => rfl) ?_
        refine x_A k231_1279 (fun _ => rfl) ?_
        refine x_A k231_1280 (fun _ => rfl) ?_
        refine x_iadd k231_1281 ?_
        refine x_top (fun z663 e_z663 => ?_)
        refine x_scr k231_1282 hN ⟨by omega, by omega⟩ (fun z664 g_z664 e_z664 => ?_)
        unfold in32 at g_z664
        have q_z664 : z664 = z652 := by rw [e_z664, e_z652, show z663 = z651 by omega]
        refine x_A k231_1283 (fun _ => rfl) ?_
        refine x_A k231_1284 (fun _ => rfl) ?_
        refine x_A k231_1285 (fun _ => rfl) ?_
        refine x_iadd k231_1286 ?_
        refine x_top (fun z665 e_z665 => ?_)
        refine x_scr k231_1287 hN ⟨by omega, by omega⟩ (fun z666 g_z666 e_z666 => ?_)
        unfold in32 at g_z666
        have q_z666 : z666 = z654 := by rw [e_z666, e_z654, show z665 = z653 by omega]
        refine x_A k231_1288 (fun _ => rfl) ?_
        refine x_A k231_1289 (fun _ => rfl) ?_
        refine x_A k231_1290 (fun _ => rfl) ?_
        refine x_iadd k231_1291 ?_
        refine x_top (fun z667 e_z667 => ?_)
        refine x_scr k231_1292 hN ⟨by omega, by omega⟩ (fun z668 g_z668 e_z668 => ?_)
        unfold in32 at g_z668
        have q_z668 : z668 = z656 := by rw [e_z668, e_z656, show z667 = z655 by omega]
        refine x_callV k231_1293 (y := 218) (n := 3) (w0 := 0) (w1 := 3) (as := [vi z664, vi z666, vi z668]) (rest := []) (by decide +kernel) (q := 256) (nq := 62) (kq := 15) ⟨by decide, rfl⟩ rfl rfl rfl rfl (xe_mono (C_X11_split_256 s658 hG_s658 J_s658 z664 (by first | exact x_rbe e_z664 g_z664 rfl rfl | exact x_rb g_z664 rfl rfl | exact ⟨by omega, by omega⟩) z666 (by first | exact x_rbe e_z666 g_z666 rfl rfl | exact x_rb g_z666 rfl rfl | exact ⟨by omega, by omega⟩) z668 (by first | exact x_rbe e_z668 g_z668 rfl rfl | exact x_rb g_z668 rfl rfl | exact ⟨by omega, by omega⟩)) ?_)
        rintro s670 v ⟨hG_s670, t_s670, z669, rfl, g_z669⟩
        have q671 : s670 46 3 = x1000 := (t_s670 46 3 (show 452 ∉ [5312, 5376, 4123, 5440, 5504, 5568, 5632, 5696, 5760] from by decide +kernel)).trans q659
        have q672 : s670 256 6 = x1001 := (t_s670 256 6 (show 4103 ∉ [5312, 5376, 4123, 5440, 5504, 5568, 5632, 5696, 5760] from by decide +kernel)).trans q660
        have q673 : s670 50 6 = x1002 := (t_s670 50 6 (show 711 ∉ [5312, 5376, 4123, 5440, 5504, 5568, 5632, 5696, 5760] from by decide +kernel)).trans q661
        have q674 : s670 256 10 = x1003 := (t_s670 256 10 (show 4107 ∉ [5312, 5376, 4123, 5440, 5504, 5568, 5632, 5696, 5760] from by decide +kernel)).trans q662
        have J_s670 : J s670 := J.fl J_s658 t_s670 (by decide +kernel)
        have T0_s670 : T0 s670 := T0.fl T0_s658 t_s670 (by decide +kernel)
        show xe (some (N, xs)) 231 1296 [(0, .ref 2000), (1, .ref 0), (2, .ref 256), (3, vi x3)] [vi z669] s670 295 10442 _
        refine x_A k231_1296 (fun _ => rfl) ?_
        refine x_goto k231_1297 (t := 1300) rfl ?_
        refine x_iinc k231_1300 (ls' := [(3, vi (x3 + 7)), (0, .ref 2000), (1, .ref 0), (2, .ref 256)]) rfl (by decide) rfl ?_
        refine x_goto k231_1303 (t := 18) rfl ?_
        refine x_ls (l := [(0, .ref 2000), (1, .ref 0), (2, .ref 256), (3, vi (x3 + 7))]) (show ([0, 1, 2, 3] : List Nat).Nodup from by decide +kernel) ⟨rfl, rfl, rfl, rfl, trivial⟩ ?_
        exact ih s670 (x3 + 7) x1000 x1001 x1002 x1003 hG_s670 trivial ⟨by omega, by omega⟩ (by first | exact x_rb b_x1000 rfl rfl | exact ⟨by omega, by omega⟩) (by first | exact x_rb b_x1001 rfl rfl | exact ⟨by omega, by omega⟩) (by first | exact x_rb b_x1002 rfl rfl | exact ⟨by omega, by omega⟩) (by first | exact x_rb b_x1003 rfl rfl | exact ⟨by omega, by omega⟩) (by omega) (by omega) (q671).symm (q672).symm (q673).symm (q674).symm J_s670 T0_s670  (by omega)
      · refine x_tabD k231_33 ⟨by omega, by omega⟩ c5 (t0 := 1300) rfl ?_
        refine x_iinc k231_1300 (ls' := [(3, vi (x3 + 7)), (0, .ref 2000), (1, .ref 0), (2, .ref 256)]) rfl (by decide) rfl ?_
        refine x_goto k231_1303 (t := 18) rfl ?_
        refine x_ls (l := [(0, .ref 2000), (1, .ref 0), (2, .ref 256), (3, vi (x3 + 7))]) (show ([0, 1, 2, 3] : List Nat).Nodup from by decide +kernel) ⟨rfl, rfl, rfl, rfl, trivial⟩ ?_
        exact ih s (x3 + 7) x1000 x1001 x1002 x1003 hG f ⟨by omega, by omega⟩ (by first | exact x_rb b_x1000 rfl rfl | exact ⟨by omega, by omega⟩) (by first | exact x_rb b_x1001 rfl rfl | exact ⟨by omega, by omega⟩) (by first | exact x_rb b_x1002 rfl rfl | exact ⟨by omega, by omega⟩) (by first | exact x_rb b_x1003 rfl rfl | exact ⟨by omega, by omega⟩) (by omega) (by omega) (e_x1000.symm).symm (e_x1001.symm).symm (e_x1002.symm).symm (e_x1003.symm).symm i_J i_T0  (by omega)
