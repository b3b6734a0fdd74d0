set_option maxHeartbeats 8000000 in
theorem law_loop (N : Nat) (xs : Nat → Int32) (hN : N ≤ 3584)  : ∀ (n : Nat) (s : xS) (x3 : Int) (hG : GI s) (f : True) (b_x3 : 0 ≤ x3 ∧ x3 ≤ 3584) (i_J : J s) (i_T0 : T0 s) (i_P1 : P1 s)  (hm : (3584 - x3) < (n : Int)), xe (some (N, xs)) 231 18 [(0, .ref 2000), (1, .ref 0), (2, .ref 256), (3, vi x3)] [] s 295 10442 (fun _ v => v = some (vi 1)) := by
  intro n
  induction n with
  | zero => intro s x3 hG f b_x3 i_J i_T0 i_P1  hm; exfalso; omega
  | succ n ih =>
    intro s x3 hG f b_x3 i_J i_T0 i_P1  hm
    refine x_A k231_18 (fun _ => rfl) ?_
    refine x_A k231_19 (fun _ => rfl) ?_
    refine x_slen k231_20 ?_
    refine x_bipush k231_21 (by decide +kernel) ?_
    refine x_isub k231_23 ?_
    refine x_top (fun z1 e_z1 => ?_)
    refine x_ic_gt k231_24 (t := 1306) rfl ⟨by omega, by omega⟩ ⟨by omega, by omega⟩ (fun c2 => ?_) (fun c2 => ?_)
    · skip
      refine x_A k231_1306 (fun _ => rfl) ?_
      exact x_zret k231_1307 rfl ⟨by omega, by omega⟩ rfl
    · skip
      refine x_A k231_27 (fun _ => rfl) ?_
      refine x_A k231_28 (fun _ => rfl) ?_
      refine x_scr k231_29 hN ⟨by omega, by omega⟩ (fun z3 g_z3 e_z3 => ?_)
      unfold in32 at g_z3
      refine x_bipush k231_30 (by decide +kernel) ?_
      refine x_and_mask k231_32 ⟨by omega, by omega⟩ (fun z4 g_z4 => ?_)
      have c5 : z4 = 0 ∨ z4 = 1 ∨ z4 = 2 ∨ z4 = 3 ∨ z4 = 4 ∨ z4 = 5 ∨ z4 = 6 ∨ z4 = 7 ∨ z4 = 8 ∨ z4 = 9 ∨ z4 = 10 ∨ z4 = 11 ∨ z4 = 12 ∨ z4 = 13 ∨ z4 = 14 ∨ z4 = 15 ∨ z4 = 16 ∨ z4 = 17 ∨ z4 = 18 ∨ z4 = 19 ∨ z4 = 20 ∨ z4 = 21 ∨ z4 = 22 ∨ z4 = 23 ∨ z4 = 24 ∨ z4 = 25 ∨ z4 = 26 ∨ z4 = 27 ∨ z4 = 28 ∨ z4 = 29 ∨ ¬ (0 ≤ z4 ∧ z4 ≤ 29) := by omega
      rcases c5 with c5 | c5 | c5 | c5 | c5 | c5 | c5 | c5 | c5 | c5 | c5 | c5 | c5 | c5 | c5 | c5 | c5 | c5 | c5 | c5 | c5 | c5 | c5 | c5 | c5 | c5 | c5 | c5 | c5 | c5 | c5
      · rw [c5]
        refine x_B k231_33 rfl (fun _ => rfl) (fun _ => rfl) (fun _ _ => rfl) ?_
        show xe (some (N, xs)) 231 168 [(0, .ref 2000), (1, .ref 0), (2, .ref 256), (3, vi x3)] [] s 295 10442 _
        refine x_A k231_168 (fun _ => rfl) ?_
        refine x_callV k231_169 (y := 91) (n := 0) (w0 := 0) (w1 := 0) (as := []) (rest := []) (by decide +kernel) (q := 0) (nq := 12) (kq := 3) ⟨by decide, rfl⟩ rfl rfl rfl rfl (xe_mono (C_X10_edition_0 s hG) ?_)
        rintro s7 v ⟨hG_s7, t_s7, z6, rfl, g_z6, xp_z6⟩
        have J_s7 : J s7 := J.fl i_J t_s7 (by decide)
        have P1_s7 : P1 s7 := P1.fl i_P1 (hG 256 1).2 t_s7 (by decide)
        obtain ⟨z8, e_z8⟩ : ∃ z, z = s7 0 10 := ⟨_, rfl⟩
        have g_z8 : (0 : Int) ≤ s7 0 10 ∧ s7 0 10 ≤ 9 := hG_s7 0 10
        show xe (some (N, xs)) 231 172 [(0, .ref 2000), (1, .ref 0), (2, .ref 256), (3, vi x3)] [vi z6] s7 295 10442 _
        refine x_A k231_172 (fun _ => rfl) ?_
        refine x_A k231_173 (fun _ => rfl) ?_
        refine x_callV k231_174 (y := 145) (n := 0) (w0 := 0) (w1 := 0) (as := []) (rest := []) (by decide +kernel) (q := 256) (nq := 62) (kq := 15) ⟨by decide, rfl⟩ rfl rfl rfl rfl (xe_mono (D_X11_edition_256 s7 hG_s7 J_s7) ?_)
        rintro s10 v ⟨hG_s10, t_s10, z9, rfl, g_z9, xp_z9, J_s10⟩
        have q11 : s10 0 10 = z8 := (t_s10 0 10 (show 11 ∉ [4097] from by decide)).trans e_z8.symm
        obtain ⟨z12, e_z12⟩ : ∃ z, z = s10 256 0 := ⟨_, rfl⟩
        have g_z12 : (0 : Int) ≤ s10 256 0 ∧ s10 256 0 ≤ 9 := hG_s10 256 0
        show xe (some (N, xs)) 231 177 [(0, .ref 2000), (1, .ref 0), (2, .ref 256), (3, vi x3)] [vi z9] s10 295 10442 _
        obtain ⟨ez_s10, T0_s10⟩ := T0.ed i_T0 t_s7 t_s10 (by decide) (by decide) xp_z6 xp_z9
        have P1_s10 := P1.ed i_P1 hG t_s7 t_s10 (by decide) (by decide) xp_z9
        refine x_A k231_177 (fun _ => rfl) ?_
        refine x_goto k231_178 (t := 1300) rfl ?_
        refine x_iinc k231_1300 (ls' := [(3, vi (x3 + 7)), (0, .ref 2000), (1, .ref 0), (2, .ref 256)]) rfl (by decide) rfl ?_
        refine x_goto k231_1303 (t := 18) rfl ?_
        refine x_ls (l := [(0, .ref 2000), (1, .ref 0), (2, .ref 256), (3, vi (x3 + 7))]) (show ([0, 1, 2, 3] : List Nat).Nodup from by decide) ⟨rfl, rfl, rfl, rfl, trivial⟩ ?_
        exact ih s10 (x3 + 7) hG_s10 trivial ⟨by omega, by omega⟩ J_s10 T0_s10 P1_s10  (by omega)
      · rw [c5]
        refine x_B k231_33 rfl (fun _ => rfl) (fun _ => rfl) (fun _ _ => rfl) ?_
        show xe (some (N, xs)) 231 181 [(0, .ref 2000), (1, .ref 0), (2, .ref 256), (3, vi x3)] [] s 295 10442 _
        refine x_A k231_181 (fun _ => rfl) ?_
        refine x_A k231_182 (fun _ => rfl) ?_
        refine x_A k231_183 (fun _ => rfl) ?_
        refine x_A k231_184 (fun _ => rfl) ?_
        refine x_iadd k231_185 ?_
        refine x_top (fun z13 e_z13 => ?_)
        refine x_scr k231_186 hN ⟨by omega, by omega⟩ (fun z14 g_z14 e_z14 => ?_)
        unfold in32 at g_z14
        obtain ⟨z15, e_z15⟩ : ∃ z, z = s 1 4 := ⟨_, rfl⟩
        have g_z15 : (1 : Int) ≤ s 1 4 ∧ s 1 4 ≤ 40 := hG 1 4
        obtain ⟨z16, e_z16⟩ : ∃ z, z = s 0 10 := ⟨_, rfl⟩
        have g_z16 : (0 : Int) ≤ s 0 10 ∧ s 0 10 ≤ 9 := hG 0 10
        refine x_callV k231_187 (y := 92) (n := 1) (w0 := 0) (w1 := 1) (as := [vi z14]) (rest := []) (by decide +kernel) (q := 0) (nq := 12) (kq := 3) ⟨by decide, rfl⟩ rfl rfl rfl rfl (xe_mono (F_X10_mark_0 s hG z14 ⟨by omega, by omega⟩ ⟨by omega, by omega⟩ ⟨by omega, by omega⟩) ?_)
        rintro s18 v ⟨hG_s18, t_s18, z17, rfl, g_z17, xp_z17⟩
        have q19 : s18 0 10 = z16 := (t_s18 0 10 (show 11 ∉ [69, 128, 384, 3276, 3277] from by decide)).trans e_z16.symm
        have J_s18 : J s18 := J.fl i_J t_s18 (by decide)
        obtain ⟨z20, e_z20⟩ : ∃ z, z = s18 1 4 := ⟨_, rfl⟩
        have g_z20 : (1 : Int) ≤ s18 1 4 ∧ s18 1 4 ≤ 40 := hG_s18 1 4
        show xe (some (N, xs)) 231 190 [(0, .ref 2000), (1, .ref 0), (2, .ref 256), (3, vi x3)] [vi z17] s18 295 10442 _
        refine x_A k231_190 (fun _ => rfl) ?_
        refine x_A k231_191 (fun _ => rfl) ?_
        refine x_A k231_192 (fun _ => rfl) ?_
        refine x_A k231_193 (fun _ => rfl) ?_
        refine x_A k231_194 (fun _ => rfl) ?_
        refine x_iadd k231_195 ?_
        refine x_top (fun z21 e_z21 => ?_)
        refine x_scr k231_196 hN ⟨by omega, by omega⟩ (fun z22 g_z22 e_z22 => ?_)
        unfold in32 at g_z22
        have q_z22 : z22 = z14 := by rw [e_z22, e_z14, show z21 = z13 by omega]
        obtain ⟨z23, e_z23⟩ : ∃ z, z = s18 256 1 := ⟨_, rfl⟩
        have g_z23 : (1 : Int) ≤ s18 256 1 ∧ s18 256 1 ≤ 40 := hG_s18 256 1
        obtain ⟨z24, e_z24⟩ : ∃ z, z = s18 256 0 := ⟨_, rfl⟩
        have g_z24 : (0 : Int) ≤ s18 256 0 ∧ s18 256 0 ≤ 9 := hG_s18 256 0
        refine x_callV k231_197 (y := 146) (n := 1) (w0 := 0) (w1 := 1) (as := [vi z22]) (rest := []) (by decide +kernel) (q := 256) (nq := 62) (kq := 15) ⟨by decide, rfl⟩ rfl rfl rfl rfl (xe_mono (F_X11_mark_256 s18 hG_s18 z22 ⟨by omega, by omega⟩ ⟨by omega, by omega⟩ ⟨by omega, by omega⟩ J_s18) ?_)
        rintro s26 v ⟨hG_s26, t_s26, z25, rfl, g_z25, xp_z25, J_s26⟩
        have q27 : s26 0 10 = z16 := (t_s26 0 10 (show 11 ∉ [4098, 4160, 4224, 4288, 4352] from by decide)).trans q19
        have q28 : s26 1 4 = z20 := (t_s26 1 4 (show 69 ∉ [4098, 4160, 4224, 4288, 4352] from by decide)).trans e_z20.symm
        have q29 : s26 256 0 = z24 := (t_s26 256 0 (show 4097 ∉ [4098, 4160, 4224, 4288, 4352] from by decide)).trans e_z24.symm
        obtain ⟨z30, e_z30⟩ : ∃ z, z = s26 256 1 := ⟨_, rfl⟩
        have g_z30 : (1 : Int) ≤ s26 256 1 ∧ s26 256 1 ≤ 40 := hG_s26 256 1
        show xe (some (N, xs)) 231 200 [(0, .ref 2000), (1, .ref 0), (2, .ref 256), (3, vi x3)] [vi z25] s26 295 10442 _
        obtain ⟨ez_s26, T0_s26⟩ := T0.mark i_T0 hG t_s18 t_s26 (by decide) (by decide) xp_z17.1 (by rw [← q_z22]; exact xp_z25.1)
        have P1_s26 := P1.mark i_P1 i_T0 hG t_s18 t_s26 (by decide) (by decide) ez_s26 xp_z17.2 (by rw [← q_z22]; exact xp_z25.1) (by rw [← q_z22]; exact xp_z25.2)
        refine x_A k231_200 (fun _ => rfl) ?_
        refine x_goto k231_201 (t := 1300) rfl ?_
        refine x_iinc k231_1300 (ls' := [(3, vi (x3 + 7)), (0, .ref 2000), (1, .ref 0), (2, .ref 256)]) rfl (by decide) rfl ?_
        refine x_goto k231_1303 (t := 18) rfl ?_
        refine x_ls (l := [(0, .ref 2000), (1, .ref 0), (2, .ref 256), (3, vi (x3 + 7))]) (show ([0, 1, 2, 3] : List Nat).Nodup from by decide) ⟨rfl, rfl, rfl, rfl, trivial⟩ ?_
        exact ih s26 (x3 + 7) hG_s26 trivial ⟨by omega, by omega⟩ J_s26 T0_s26 P1_s26  (by omega)
      · rw [c5]
        refine x_B k231_33 rfl (fun _ => rfl) (fun _ => rfl) (fun _ _ => rfl) ?_
        show xe (some (N, xs)) 231 204 [(0, .ref 2000), (1, .ref 0), (2, .ref 256), (3, vi x3)] [] s 295 10442 _
        refine x_A k231_204 (fun _ => rfl) ?_
        refine x_A k231_205 (fun _ => rfl) ?_
        refine x_A k231_206 (fun _ => rfl) ?_
        refine x_A k231_207 (fun _ => rfl) ?_
        refine x_iadd k231_208 ?_
        refine x_top (fun z31 e_z31 => ?_)
        refine x_scr k231_209 hN ⟨by omega, by omega⟩ (fun z32 g_z32 e_z32 => ?_)
        unfold in32 at g_z32
        refine x_A k231_210 (fun _ => rfl) ?_
        refine x_A k231_211 (fun _ => rfl) ?_
        refine x_A k231_212 (fun _ => rfl) ?_
        refine x_iadd k231_213 ?_
        refine x_top (fun z33 e_z33 => ?_)
        refine x_scr k231_214 hN ⟨by omega, by omega⟩ (fun z34 g_z34 e_z34 => ?_)
        unfold in32 at g_z34
        obtain ⟨z35, e_z35⟩ : ∃ z, z = s 1 4 := ⟨_, rfl⟩
        have g_z35 : (1 : Int) ≤ s 1 4 ∧ s 1 4 ≤ 40 := hG 1 4
        obtain ⟨z36, e_z36⟩ : ∃ z, z = s 0 10 := ⟨_, rfl⟩
        have g_z36 : (0 : Int) ≤ s 0 10 ∧ s 0 10 ≤ 9 := hG 0 10
        refine x_callV k231_215 (y := 93) (n := 2) (w0 := 0) (w1 := 2) (as := [vi z32, vi z34]) (rest := []) (by decide +kernel) (q := 0) (nq := 12) (kq := 3) ⟨by decide, rfl⟩ rfl rfl rfl rfl (xe_mono (E_X10_move_0 s hG z32 ⟨by omega, by omega⟩ z34 ⟨by omega, by omega⟩ ⟨by omega, by omega⟩ ⟨by omega, by omega⟩) ?_)
        rintro s38 v ⟨hG_s38, t_s38, z37, rfl, g_z37, xp_z37⟩
        have q39 : s38 1 4 = z35 := (t_s38 1 4 (show 69 ∉ [384, 3276, 3277] from by decide)).trans e_z35.symm
        have q40 : s38 0 10 = z36 := (t_s38 0 10 (show 11 ∉ [384, 3276, 3277] from by decide)).trans e_z36.symm
        have J_s38 : J s38 := J.fl i_J t_s38 (by decide)
        have T0_s38 : T0 s38 := T0.fl i_T0 t_s38 (by decide)
        show xe (some (N, xs)) 231 218 [(0, .ref 2000), (1, .ref 0), (2, .ref 256), (3, vi x3)] [vi z37] s38 295 10442 _
        refine x_A k231_218 (fun _ => rfl) ?_
        refine x_A k231_219 (fun _ => rfl) ?_
        refine x_A k231_220 (fun _ => rfl) ?_
        refine x_A k231_221 (fun _ => rfl) ?_
        refine x_iadd k231_222 ?_
        refine x_top (fun z41 e_z41 => ?_)
        refine x_scr k231_223 hN ⟨by omega, by omega⟩ (fun z42 g_z42 e_z42 => ?_)
        unfold in32 at g_z42
        have q_z42 : z42 = z32 := by rw [e_z42, e_z32, show z41 = z31 by omega]
        refine x_A k231_224 (fun _ => rfl) ?_
        refine x_A k231_225 (fun _ => rfl) ?_
        refine x_A k231_226 (fun _ => rfl) ?_
        refine x_iadd k231_227 ?_
        refine x_top (fun z43 e_z43 => ?_)
        refine x_scr k231_228 hN ⟨by omega, by omega⟩ (fun z44 g_z44 e_z44 => ?_)
        unfold in32 at g_z44
        have q_z44 : z44 = z34 := by rw [e_z44, e_z34, show z43 = z33 by omega]
        obtain ⟨z45, e_z45⟩ : ∃ z, z = s38 256 1 := ⟨_, rfl⟩
        have g_z45 : (1 : Int) ≤ s38 256 1 ∧ s38 256 1 ≤ 40 := hG_s38 256 1
        obtain ⟨z46, e_z46⟩ : ∃ z, z = s38 256 0 := ⟨_, rfl⟩
        have g_z46 : (0 : Int) ≤ s38 256 0 ∧ s38 256 0 ≤ 9 := hG_s38 256 0
        refine x_callV k231_229 (y := 147) (n := 2) (w0 := 1) (w1 := 2) (as := [vi z42, vi z44]) (rest := [vi z37]) (by decide +kernel) (q := 256) (nq := 62) (kq := 15) ⟨by decide, rfl⟩ rfl rfl rfl rfl (xe_mono (E_X11_move_256 s38 hG_s38 z42 ⟨by omega, by omega⟩ z44 ⟨by omega, by omega⟩ ⟨by omega, by omega⟩ ⟨by omega, by omega⟩ J_s38) ?_)
        rintro s48 v ⟨hG_s48, t_s48, z47, rfl, g_z47, xp_z47, J_s48⟩
        have q49 : s48 1 4 = z35 := (t_s48 1 4 (show 69 ∉ [4352] from by decide)).trans q39
        have q50 : s48 0 10 = z36 := (t_s48 0 10 (show 11 ∉ [4352] from by decide)).trans q40
        have q51 : s48 256 1 = z45 := (t_s48 256 1 (show 4098 ∉ [4352] from by decide)).trans e_z45.symm
        have q52 : s48 256 0 = z46 := (t_s48 256 0 (show 4097 ∉ [4352] from by decide)).trans e_z46.symm
        have T0_s48 : T0 s48 := T0.fl T0_s38 t_s48 (by decide)
        show xe (some (N, xs)) 231 232 [(0, .ref 2000), (1, .ref 0), (2, .ref 256), (3, vi x3)] [vi z47, vi z37] s48 295 10442 _
        obtain ⟨ez_s48, P1_s48⟩ := P1.move i_P1 i_T0 i_J hG t_s38 t_s48 (by decide) (by decide) xp_z37 (by rw [← q_z42, ← q_z44]; exact xp_z47)
        refine x_ic_eq k231_232 (t := 1300) rfl ⟨by omega, by omega⟩ ⟨by omega, by omega⟩ (fun c53 => ?_) (fun c53 => ?_)
        · skip
          refine x_iinc k231_1300 (ls' := [(3, vi (x3 + 7)), (0, .ref 2000), (1, .ref 0), (2, .ref 256)]) rfl (by decide) rfl ?_
          refine x_goto k231_1303 (t := 18) rfl ?_
          refine x_ls (l := [(0, .ref 2000), (1, .ref 0), (2, .ref 256), (3, vi (x3 + 7))]) (show ([0, 1, 2, 3] : List Nat).Nodup from by decide) ⟨rfl, rfl, rfl, rfl, trivial⟩ ?_
          exact ih s48 (x3 + 7) hG_s48 trivial ⟨by omega, by omega⟩ J_s48 T0_s48 P1_s48  (by omega)
        · skip
          refine x_A k231_235 (fun _ => rfl) ?_
          exfalso; omega
      · rw [c5]
        refine x_B k231_33 rfl (fun _ => rfl) (fun _ => rfl) (fun _ _ => rfl) ?_
        show xe (some (N, xs)) 231 237 [(0, .ref 2000), (1, .ref 0), (2, .ref 256), (3, vi x3)] [] s 295 10442 _
        refine x_A k231_237 (fun _ => rfl) ?_
        refine x_A k231_238 (fun _ => rfl) ?_
        refine x_A k231_239 (fun _ => rfl) ?_
        refine x_A k231_240 (fun _ => rfl) ?_
        refine x_iadd k231_241 ?_
        refine x_top (fun z54 e_z54 => ?_)
        refine x_scr k231_242 hN ⟨by omega, by omega⟩ (fun z55 g_z55 e_z55 => ?_)
        unfold in32 at g_z55
        refine x_A k231_243 (fun _ => rfl) ?_
        refine x_A k231_244 (fun _ => rfl) ?_
        refine x_A k231_245 (fun _ => rfl) ?_
        refine x_iadd k231_246 ?_
        refine x_top (fun z56 e_z56 => ?_)
        refine x_scr k231_247 hN ⟨by omega, by omega⟩ (fun z57 g_z57 e_z57 => ?_)
        unfold in32 at g_z57
        obtain ⟨z58, e_z58⟩ : ∃ z, z = s 1 4 := ⟨_, rfl⟩
        have g_z58 : (1 : Int) ≤ s 1 4 ∧ s 1 4 ≤ 40 := hG 1 4
        obtain ⟨z59, e_z59⟩ : ∃ z, z = s 0 10 := ⟨_, rfl⟩
        have g_z59 : (0 : Int) ≤ s 0 10 ∧ s 0 10 ≤ 9 := hG 0 10
        refine x_callV k231_248 (y := 94) (n := 2) (w0 := 0) (w1 := 2) (as := [vi z55, vi z57]) (rest := []) (by decide +kernel) (q := 0) (nq := 12) (kq := 3) ⟨by decide, rfl⟩ rfl rfl rfl rfl (xe_mono (E_X10_end_0 s hG z55 ⟨by omega, by omega⟩ z57 ⟨by omega, by omega⟩ ⟨by omega, by omega⟩ ⟨by omega, by omega⟩) ?_)
        rintro s61 v ⟨hG_s61, t_s61, z60, rfl, g_z60, xp_z60⟩
        have q62 : s61 1 4 = z58 := (t_s61 1 4 (show 69 ∉ [192, 256, 3276, 3277] from by decide)).trans e_z58.symm
        have q63 : s61 0 10 = z59 := (t_s61 0 10 (show 11 ∉ [192, 256, 3276, 3277] from by decide)).trans e_z59.symm
        have J_s61 : J s61 := J.fl i_J t_s61 (by decide)
        have P1_s61 : P1 s61 := P1.fl i_P1 (hG 256 1).2 t_s61 (by decide)
        show xe (some (N, xs)) 231 251 [(0, .ref 2000), (1, .ref 0), (2, .ref 256), (3, vi x3)] [vi z60] s61 295 10442 _
        refine x_A k231_251 (fun _ => rfl) ?_
        refine x_A k231_252 (fun _ => rfl) ?_
        refine x_A k231_253 (fun _ => rfl) ?_
        refine x_A k231_254 (fun _ => rfl) ?_
        refine x_A k231_255 (fun _ => rfl) ?_
        refine x_iadd k231_256 ?_
        refine x_top (fun z64 e_z64 => ?_)
        refine x_scr k231_257 hN ⟨by omega, by omega⟩ (fun z65 g_z65 e_z65 => ?_)
        unfold in32 at g_z65
        have q_z65 : z65 = z55 := by rw [e_z65, e_z55, show z64 = z54 by omega]
        refine x_A k231_258 (fun _ => rfl) ?_
        refine x_A k231_259 (fun _ => rfl) ?_
        refine x_A k231_260 (fun _ => rfl) ?_
        refine x_iadd k231_261 ?_
        refine x_top (fun z66 e_z66 => ?_)
        refine x_scr k231_262 hN ⟨by omega, by omega⟩ (fun z67 g_z67 e_z67 => ?_)
        unfold in32 at g_z67
        have q_z67 : z67 = z57 := by rw [e_z67, e_z57, show z66 = z56 by omega]
        obtain ⟨z68, e_z68⟩ : ∃ z, z = s61 256 1 := ⟨_, rfl⟩
        have g_z68 : (1 : Int) ≤ s61 256 1 ∧ s61 256 1 ≤ 40 := hG_s61 256 1
        obtain ⟨z69, e_z69⟩ : ∃ z, z = s61 256 0 := ⟨_, rfl⟩
        have g_z69 : (0 : Int) ≤ s61 256 0 ∧ s61 256 0 ≤ 9 := hG_s61 256 0
        refine x_callV k231_263 (y := 148) (n := 2) (w0 := 0) (w1 := 2) (as := [vi z65, vi z67]) (rest := []) (by decide +kernel) (q := 256) (nq := 62) (kq := 15) ⟨by decide, rfl⟩ rfl rfl rfl rfl (xe_mono (E_X11_end_256 s61 hG_s61 z65 ⟨by omega, by omega⟩ z67 ⟨by omega, by omega⟩ ⟨by omega, by omega⟩ ⟨by omega, by omega⟩ J_s61) ?_)
        rintro s71 v ⟨hG_s71, t_s71, z70, rfl, g_z70, xp_z70, J_s71⟩
        have q72 : s71 1 4 = z58 := (t_s71 1 4 (show 69 ∉ [4224, 4288] from by decide)).trans q62
        have q73 : s71 0 10 = z59 := (t_s71 0 10 (show 11 ∉ [4224, 4288] from by decide)).trans q63
        have q74 : s71 256 1 = z68 := (t_s71 256 1 (show 4098 ∉ [4224, 4288] from by decide)).trans e_z68.symm
        have q75 : s71 256 0 = z69 := (t_s71 256 0 (show 4097 ∉ [4224, 4288] from by decide)).trans e_z69.symm
        have P1_s71 : P1 s71 := P1.fl P1_s61 (hG_s61 256 1).2 t_s71 (by decide)
        show xe (some (N, xs)) 231 266 [(0, .ref 2000), (1, .ref 0), (2, .ref 256), (3, vi x3)] [vi z70] s71 295 10442 _
        have T0_s71 := T0.end i_T0 hG t_s61 t_s71 (by decide) (by decide) xp_z60 (by rw [← q_z65, ← q_z67]; exact xp_z70)
        refine x_A k231_266 (fun _ => rfl) ?_
        refine x_goto k231_267 (t := 1300) rfl ?_
        refine x_iinc k231_1300 (ls' := [(3, vi (x3 + 7)), (0, .ref 2000), (1, .ref 0), (2, .ref 256)]) rfl (by decide) rfl ?_
        refine x_goto k231_1303 (t := 18) rfl ?_
        refine x_ls (l := [(0, .ref 2000), (1, .ref 0), (2, .ref 256), (3, vi (x3 + 7))]) (show ([0, 1, 2, 3] : List Nat).Nodup from by decide) ⟨rfl, rfl, rfl, rfl, trivial⟩ ?_
        exact ih s71 (x3 + 7) hG_s71 trivial ⟨by omega, by omega⟩ J_s71 T0_s71 P1_s71  (by omega)
      · rw [c5]
        refine x_B k231_33 rfl (fun _ => rfl) (fun _ => rfl) (fun _ _ => rfl) ?_
        show xe (some (N, xs)) 231 270 [(0, .ref 2000), (1, .ref 0), (2, .ref 256), (3, vi x3)] [] s 295 10442 _
        refine x_A k231_270 (fun _ => rfl) ?_
        refine x_A k231_271 (fun _ => rfl) ?_
        refine x_A k231_272 (fun _ => rfl) ?_
        refine x_A k231_273 (fun _ => rfl) ?_
        refine x_iadd k231_274 ?_
        refine x_top (fun z76 e_z76 => ?_)
        refine x_scr k231_275 hN ⟨by omega, by omega⟩ (fun z77 g_z77 e_z77 => ?_)
        unfold in32 at g_z77
        refine x_A k231_276 (fun _ => rfl) ?_
        refine x_A k231_277 (fun _ => rfl) ?_
        refine x_A k231_278 (fun _ => rfl) ?_
        refine x_iadd k231_279 ?_
        refine x_top (fun z78 e_z78 => ?_)
        refine x_scr k231_280 hN ⟨by omega, by omega⟩ (fun z79 g_z79 e_z79 => ?_)
        unfold in32 at g_z79
        refine x_A k231_281 (fun _ => rfl) ?_
        refine x_A k231_282 (fun _ => rfl) ?_
        refine x_A k231_283 (fun _ => rfl) ?_
        refine x_iadd k231_284 ?_
        refine x_top (fun z80 e_z80 => ?_)
        refine x_scr k231_285 hN ⟨by omega, by omega⟩ (fun z81 g_z81 e_z81 => ?_)
        unfold in32 at g_z81
        refine x_callV k231_286 (y := 95) (n := 3) (w0 := 0) (w1 := 3) (as := [vi z77, vi z79, vi z81]) (rest := []) (by decide +kernel) (q := 0) (nq := 12) (kq := 3) ⟨by decide, rfl⟩ rfl rfl rfl rfl (xe_mono (C_X10_tree_0 s hG i_J z77 ⟨by omega, by omega⟩ z79 ⟨by omega, by omega⟩ z81 ⟨by omega, by omega⟩) ?_)
        rintro s83 v ⟨hG_s83, t_s83, z82, rfl, g_z82⟩
        have J_s83 : J s83 := J.fl i_J t_s83 (by decide)
        have T0_s83 : T0 s83 := T0.fl i_T0 t_s83 (by decide)
        have P1_s83 : P1 s83 := P1.fl i_P1 (hG 256 1).2 t_s83 (by decide)
        show xe (some (N, xs)) 231 289 [(0, .ref 2000), (1, .ref 0), (2, .ref 256), (3, vi x3)] [vi z82] s83 295 10442 _
        refine x_A k231_289 (fun _ => rfl) ?_
        refine x_A k231_290 (fun _ => rfl) ?_
        refine x_A k231_291 (fun _ => rfl) ?_
        refine x_A k231_292 (fun _ => rfl) ?_
        refine x_A k231_293 (fun _ => rfl) ?_
        refine x_iadd k231_294 ?_
        refine x_top (fun z84 e_z84 => ?_)
        refine x_scr k231_295 hN ⟨by omega, by omega⟩ (fun z85 g_z85 e_z85 => ?_)
        unfold in32 at g_z85
        have q_z85 : z85 = z77 := by rw [e_z85, e_z77, show z84 = z76 by omega]
        refine x_A k231_296 (fun _ => rfl) ?_
        refine x_A k231_297 (fun _ => rfl) ?_
        refine x_A k231_298 (fun _ => rfl) ?_
        refine x_iadd k231_299 ?_
        refine x_top (fun z86 e_z86 => ?_)
        refine x_scr k231_300 hN ⟨by omega, by omega⟩ (fun z87 g_z87 e_z87 => ?_)
        unfold in32 at g_z87
        have q_z87 : z87 = z79 := by rw [e_z87, e_z79, show z86 = z78 by omega]
        refine x_A k231_301 (fun _ => rfl) ?_
        refine x_A k231_302 (fun _ => rfl) ?_
        refine x_A k231_303 (fun _ => rfl) ?_
        refine x_iadd k231_304 ?_
        refine x_top (fun z88 e_z88 => ?_)
        refine x_scr k231_305 hN ⟨by omega, by omega⟩ (fun z89 g_z89 e_z89 => ?_)
        unfold in32 at g_z89
        have q_z89 : z89 = z81 := by rw [e_z89, e_z81, show z88 = z80 by omega]
        refine x_callV k231_306 (y := 149) (n := 3) (w0 := 0) (w1 := 3) (as := [vi z85, vi z87, vi z89]) (rest := []) (by decide +kernel) (q := 256) (nq := 62) (kq := 15) ⟨by decide, rfl⟩ rfl rfl rfl rfl (xe_mono (C_X11_tree_256 s83 hG_s83 J_s83 z85 ⟨by omega, by omega⟩ z87 ⟨by omega, by omega⟩ z89 ⟨by omega, by omega⟩) ?_)
        rintro s91 v ⟨hG_s91, t_s91, z90, rfl, g_z90⟩
        have J_s91 : J s91 := J.fl J_s83 t_s91 (by decide)
        have T0_s91 : T0 s91 := T0.fl T0_s83 t_s91 (by decide)
        have P1_s91 : P1 s91 := P1.fl P1_s83 (hG_s83 256 1).2 t_s91 (by decide)
        show xe (some (N, xs)) 231 309 [(0, .ref 2000), (1, .ref 0), (2, .ref 256), (3, vi x3)] [vi z90] s91 295 10442 _
        refine x_A k231_309 (fun _ => rfl) ?_
        refine x_goto k231_310 (t := 1300) rfl ?_
        refine x_iinc k231_1300 (ls' := [(3, vi (x3 + 7)), (0, .ref 2000), (1, .ref 0), (2, .ref 256)]) rfl (by decide) rfl ?_
        refine x_goto k231_1303 (t := 18) rfl ?_
        refine x_ls (l := [(0, .ref 2000), (1, .ref 0), (2, .ref 256), (3, vi (x3 + 7))]) (show ([0, 1, 2, 3] : List Nat).Nodup from by decide) ⟨rfl, rfl, rfl, rfl, trivial⟩ ?_
        exact ih s91 (x3 + 7) hG_s91 trivial ⟨by omega, by omega⟩ J_s91 T0_s91 P1_s91  (by omega)
      · rw [c5]
        refine x_B k231_33 rfl (fun _ => rfl) (fun _ => rfl) (fun _ _ => rfl) ?_
        show xe (some (N, xs)) 231 313 [(0, .ref 2000), (1, .ref 0), (2, .ref 256), (3, vi x3)] [] s 295 10442 _
        refine x_A k231_313 (fun _ => rfl) ?_
        refine x_A k231_314 (fun _ => rfl) ?_
        refine x_A k231_315 (fun _ => rfl) ?_
        refine x_A k231_316 (fun _ => rfl) ?_
        refine x_iadd k231_317 ?_
        refine x_top (fun z92 e_z92 => ?_)
        refine x_scr k231_318 hN ⟨by omega, by omega⟩ (fun z93 g_z93 e_z93 => ?_)
        unfold in32 at g_z93
        refine x_A k231_319 (fun _ => rfl) ?_
        refine x_A k231_320 (fun _ => rfl) ?_
        refine x_A k231_321 (fun _ => rfl) ?_
        refine x_iadd k231_322 ?_
        refine x_top (fun z94 e_z94 => ?_)
        refine x_scr k231_323 hN ⟨by omega, by omega⟩ (fun z95 g_z95 e_z95 => ?_)
        unfold in32 at g_z95
        refine x_A k231_324 (fun _ => rfl) ?_
        refine x_A k231_325 (fun _ => rfl) ?_
        refine x_A k231_326 (fun _ => rfl) ?_
        refine x_iadd k231_327 ?_
        refine x_top (fun z96 e_z96 => ?_)
        refine x_scr k231_328 hN ⟨by omega, by omega⟩ (fun z97 g_z97 e_z97 => ?_)
        unfold in32 at g_z97
        refine x_callV k231_329 (y := 96) (n := 3) (w0 := 0) (w1 := 3) (as := [vi z93, vi z95, vi z97]) (rest := []) (by decide +kernel) (q := 0) (nq := 12) (kq := 3) ⟨by decide, rfl⟩ rfl rfl rfl rfl (xe_mono (C_X10_below_0 s hG z93 ⟨by omega, by omega⟩ z95 ⟨by omega, by omega⟩ z97 ⟨by omega, by omega⟩) ?_)
        rintro s99 v ⟨-, t_s99, z98, rfl, g_z98⟩
        rw [t_s99.nil]
        show xe (some (N, xs)) 231 332 [(0, .ref 2000), (1, .ref 0), (2, .ref 256), (3, vi x3)] [vi z98] s 295 10442 _
        refine x_A k231_332 (fun _ => rfl) ?_
        refine x_A k231_333 (fun _ => rfl) ?_
        refine x_A k231_334 (fun _ => rfl) ?_
        refine x_A k231_335 (fun _ => rfl) ?_
        refine x_A k231_336 (fun _ => rfl) ?_
        refine x_iadd k231_337 ?_
        refine x_top (fun z100 e_z100 => ?_)
        refine x_scr k231_338 hN ⟨by omega, by omega⟩ (fun z101 g_z101 e_z101 => ?_)
        unfold in32 at g_z101
        have q_z101 : z101 = z93 := by rw [e_z101, e_z93, show z100 = z92 by omega]
        refine x_A k231_339 (fun _ => rfl) ?_
        refine x_A k231_340 (fun _ => rfl) ?_
        refine x_A k231_341 (fun _ => rfl) ?_
        refine x_iadd k231_342 ?_
        refine x_top (fun z102 e_z102 => ?_)
        refine x_scr k231_343 hN ⟨by omega, by omega⟩ (fun z103 g_z103 e_z103 => ?_)
        unfold in32 at g_z103
        have q_z103 : z103 = z95 := by rw [e_z103, e_z95, show z102 = z94 by omega]
        refine x_A k231_344 (fun _ => rfl) ?_
        refine x_A k231_345 (fun _ => rfl) ?_
        refine x_A k231_346 (fun _ => rfl) ?_
        refine x_iadd k231_347 ?_
        refine x_top (fun z104 e_z104 => ?_)
        refine x_scr k231_348 hN ⟨by omega, by omega⟩ (fun z105 g_z105 e_z105 => ?_)
        unfold in32 at g_z105
        have q_z105 : z105 = z97 := by rw [e_z105, e_z97, show z104 = z96 by omega]
        refine x_callV k231_349 (y := 150) (n := 3) (w0 := 0) (w1 := 3) (as := [vi z101, vi z103, vi z105]) (rest := []) (by decide +kernel) (q := 256) (nq := 62) (kq := 15) ⟨by decide, rfl⟩ rfl rfl rfl rfl (xe_mono (C_X11_below_256 s hG i_J z101 ⟨by omega, by omega⟩ z103 ⟨by omega, by omega⟩ z105 ⟨by omega, by omega⟩) ?_)
        rintro s107 v ⟨-, t_s107, z106, rfl, g_z106⟩
        rw [t_s107.nil]
        show xe (some (N, xs)) 231 352 [(0, .ref 2000), (1, .ref 0), (2, .ref 256), (3, vi x3)] [vi z106] s 295 10442 _
        refine x_A k231_352 (fun _ => rfl) ?_
        refine x_goto k231_353 (t := 1300) rfl ?_
        refine x_iinc k231_1300 (ls' := [(3, vi (x3 + 7)), (0, .ref 2000), (1, .ref 0), (2, .ref 256)]) rfl (by decide) rfl ?_
        refine x_goto k231_1303 (t := 18) rfl ?_
        refine x_ls (l := [(0, .ref 2000), (1, .ref 0), (2, .ref 256), (3, vi (x3 + 7))]) (show ([0, 1, 2, 3] : List Nat).Nodup from by decide) ⟨rfl, rfl, rfl, rfl, trivial⟩ ?_
        exact ih s (x3 + 7) hG f ⟨by omega, by omega⟩ i_J i_T0 i_P1  (by omega)
      · rw [c5]
        refine x_B k231_33 rfl (fun _ => rfl) (fun _ => rfl) (fun _ _ => rfl) ?_
        show xe (some (N, xs)) 231 356 [(0, .ref 2000), (1, .ref 0), (2, .ref 256), (3, vi x3)] [] s 295 10442 _
        refine x_A k231_356 (fun _ => rfl) ?_
        refine x_A k231_357 (fun _ => rfl) ?_
        refine x_A k231_358 (fun _ => rfl) ?_
        refine x_A k231_359 (fun _ => rfl) ?_
        refine x_iadd k231_360 ?_
        refine x_top (fun z108 e_z108 => ?_)
        refine x_scr k231_361 hN ⟨by omega, by omega⟩ (fun z109 g_z109 e_z109 => ?_)
        unfold in32 at g_z109
        refine x_A k231_362 (fun _ => rfl) ?_
        refine x_A k231_363 (fun _ => rfl) ?_
        refine x_A k231_364 (fun _ => rfl) ?_
        refine x_iadd k231_365 ?_
        refine x_top (fun z110 e_z110 => ?_)
        refine x_scr k231_366 hN ⟨by omega, by omega⟩ (fun z111 g_z111 e_z111 => ?_)
        unfold in32 at g_z111
        refine x_A k231_367 (fun _ => rfl) ?_
        refine x_A k231_368 (fun _ => rfl) ?_
        refine x_A k231_369 (fun _ => rfl) ?_
        refine x_iadd k231_370 ?_
        refine x_top (fun z112 e_z112 => ?_)
        refine x_scr k231_371 hN ⟨by omega, by omega⟩ (fun z113 g_z113 e_z113 => ?_)
        unfold in32 at g_z113
        refine x_callV k231_372 (y := 97) (n := 3) (w0 := 0) (w1 := 3) (as := [vi z109, vi z111, vi z113]) (rest := []) (by decide +kernel) (q := 0) (nq := 12) (kq := 3) ⟨by decide, rfl⟩ rfl rfl rfl rfl (xe_mono (C_X10_picture_0 s hG z109 ⟨by omega, by omega⟩ z111 ⟨by omega, by omega⟩ z113 ⟨by omega, by omega⟩) ?_)
        rintro s115 v ⟨hG_s115, t_s115, z114, rfl, g_z114⟩
        have J_s115 : J s115 := J.fl i_J t_s115 (by decide)
        have T0_s115 : T0 s115 := T0.fl i_T0 t_s115 (by decide)
        have P1_s115 : P1 s115 := P1.fl i_P1 (hG 256 1).2 t_s115 (by decide)
        show xe (some (N, xs)) 231 375 [(0, .ref 2000), (1, .ref 0), (2, .ref 256), (3, vi x3)] [vi z114] s115 295 10442 _
        refine x_A k231_375 (fun _ => rfl) ?_
        refine x_A k231_376 (fun _ => rfl) ?_
        refine x_A k231_377 (fun _ => rfl) ?_
        refine x_A k231_378 (fun _ => rfl) ?_
        refine x_A k231_379 (fun _ => rfl) ?_
        refine x_iadd k231_380 ?_
        refine x_top (fun z116 e_z116 => ?_)
        refine x_scr k231_381 hN ⟨by omega, by omega⟩ (fun z117 g_z117 e_z117 => ?_)
        unfold in32 at g_z117
        have q_z117 : z117 = z109 := by rw [e_z117, e_z109, show z116 = z108 by omega]
        refine x_A k231_382 (fun _ => rfl) ?_
        refine x_A k231_383 (fun _ => rfl) ?_
        refine x_A k231_384 (fun _ => rfl) ?_
        refine x_iadd k231_385 ?_
        refine x_top (fun z118 e_z118 => ?_)
        refine x_scr k231_386 hN ⟨by omega, by omega⟩ (fun z119 g_z119 e_z119 => ?_)
        unfold in32 at g_z119
        have q_z119 : z119 = z111 := by rw [e_z119, e_z111, show z118 = z110 by omega]
        refine x_A k231_387 (fun _ => rfl) ?_
        refine x_A k231_388 (fun _ => rfl) ?_
        refine x_A k231_389 (fun _ => rfl) ?_
        refine x_iadd k231_390 ?_
        refine x_top (fun z120 e_z120 => ?_)
        refine x_scr k231_391 hN ⟨by omega, by omega⟩ (fun z121 g_z121 e_z121 => ?_)
        unfold in32 at g_z121
        have q_z121 : z121 = z113 := by rw [e_z121, e_z113, show z120 = z112 by omega]
        refine x_callV k231_392 (y := 154) (n := 3) (w0 := 0) (w1 := 3) (as := [vi z117, vi z119, vi z121]) (rest := []) (by decide +kernel) (q := 256) (nq := 62) (kq := 15) ⟨by decide, rfl⟩ rfl rfl rfl rfl (xe_mono (D_X11_picture_256 s115 hG_s115 z117 ⟨by omega, by omega⟩ z119 ⟨by omega, by omega⟩ z121 ⟨by omega, by omega⟩ J_s115) ?_)
        rintro s123 v ⟨hG_s123, t_s123, z122, rfl, g_z122, J_s123⟩
        have T0_s123 : T0 s123 := T0.fl T0_s115 t_s123 (by decide)
        have P1_s123 : P1 s123 := P1.fl P1_s115 (hG_s115 256 1).2 t_s123 (by decide)
        show xe (some (N, xs)) 231 395 [(0, .ref 2000), (1, .ref 0), (2, .ref 256), (3, vi x3)] [vi z122] s123 295 10442 _
        refine x_A k231_395 (fun _ => rfl) ?_
        refine x_goto k231_396 (t := 1300) rfl ?_
        refine x_iinc k231_1300 (ls' := [(3, vi (x3 + 7)), (0, .ref 2000), (1, .ref 0), (2, .ref 256)]) rfl (by decide) rfl ?_
        refine x_goto k231_1303 (t := 18) rfl ?_
        refine x_ls (l := [(0, .ref 2000), (1, .ref 0), (2, .ref 256), (3, vi (x3 + 7))]) (show ([0, 1, 2, 3] : List Nat).Nodup from by decide) ⟨rfl, rfl, rfl, rfl, trivial⟩ ?_
        exact ih s123 (x3 + 7) hG_s123 trivial ⟨by omega, by omega⟩ J_s123 T0_s123 P1_s123  (by omega)
      · rw [c5]
        refine x_B k231_33 rfl (fun _ => rfl) (fun _ => rfl) (fun _ _ => rfl) ?_
        show xe (some (N, xs)) 231 399 [(0, .ref 2000), (1, .ref 0), (2, .ref 256), (3, vi x3)] [] s 295 10442 _
        refine x_A k231_399 (fun _ => rfl) ?_
        refine x_A k231_400 (fun _ => rfl) ?_
        refine x_A k231_401 (fun _ => rfl) ?_
        refine x_A k231_402 (fun _ => rfl) ?_
        refine x_iadd k231_403 ?_
        refine x_top (fun z124 e_z124 => ?_)
        refine x_scr k231_404 hN ⟨by omega, by omega⟩ (fun z125 g_z125 e_z125 => ?_)
        unfold in32 at g_z125
        refine x_A k231_405 (fun _ => rfl) ?_
        refine x_A k231_406 (fun _ => rfl) ?_
        refine x_A k231_407 (fun _ => rfl) ?_
        refine x_iadd k231_408 ?_
        refine x_top (fun z126 e_z126 => ?_)
        refine x_scr k231_409 hN ⟨by omega, by omega⟩ (fun z127 g_z127 e_z127 => ?_)
        unfold in32 at g_z127
        refine x_A k231_410 (fun _ => rfl) ?_
        refine x_A k231_411 (fun _ => rfl) ?_
        refine x_A k231_412 (fun _ => rfl) ?_
        refine x_iadd k231_413 ?_
        refine x_top (fun z128 e_z128 => ?_)
        refine x_scr k231_414 hN ⟨by omega, by omega⟩ (fun z129 g_z129 e_z129 => ?_)
        unfold in32 at g_z129
        refine x_A k231_415 (fun _ => rfl) ?_
        refine x_A k231_416 (fun _ => rfl) ?_
        refine x_A k231_417 (fun _ => rfl) ?_
        refine x_iadd k231_418 ?_
        refine x_top (fun z130 e_z130 => ?_)
        refine x_scr k231_419 hN ⟨by omega, by omega⟩ (fun z131 g_z131 e_z131 => ?_)
        unfold in32 at g_z131
        refine x_callV k231_420 (y := 98) (n := 4) (w0 := 0) (w1 := 4) (as := [vi z125, vi z127, vi z129, vi z131]) (rest := []) (by decide +kernel) (q := 0) (nq := 12) (kq := 3) ⟨by decide, rfl⟩ rfl rfl rfl rfl (xe_mono (C_X10_give_0 s hG z125 ⟨by omega, by omega⟩ z127 ⟨by omega, by omega⟩ z129 ⟨by omega, by omega⟩ z131 ⟨by omega, by omega⟩) ?_)
        rintro s133 v ⟨hG_s133, t_s133, z132, rfl, g_z132⟩
        have J_s133 : J s133 := J.fl i_J t_s133 (by decide)
        have T0_s133 : T0 s133 := T0.fl i_T0 t_s133 (by decide)
        have P1_s133 : P1 s133 := P1.fl i_P1 (hG 256 1).2 t_s133 (by decide)
        show xe (some (N, xs)) 231 423 [(0, .ref 2000), (1, .ref 0), (2, .ref 256), (3, vi x3)] [vi z132] s133 295 10442 _
        refine x_A k231_423 (fun _ => rfl) ?_
        refine x_A k231_424 (fun _ => rfl) ?_
        refine x_A k231_425 (fun _ => rfl) ?_
        refine x_A k231_426 (fun _ => rfl) ?_
        refine x_A k231_427 (fun _ => rfl) ?_
        refine x_iadd k231_428 ?_
        refine x_top (fun z134 e_z134 => ?_)
        refine x_scr k231_429 hN ⟨by omega, by omega⟩ (fun z135 g_z135 e_z135 => ?_)
        unfold in32 at g_z135
        have q_z135 : z135 = z125 := by rw [e_z135, e_z125, show z134 = z124 by omega]
        refine x_A k231_430 (fun _ => rfl) ?_
        refine x_A k231_431 (fun _ => rfl) ?_
        refine x_A k231_432 (fun _ => rfl) ?_
        refine x_iadd k231_433 ?_
        refine x_top (fun z136 e_z136 => ?_)
        refine x_scr k231_434 hN ⟨by omega, by omega⟩ (fun z137 g_z137 e_z137 => ?_)
        unfold in32 at g_z137
        have q_z137 : z137 = z127 := by rw [e_z137, e_z127, show z136 = z126 by omega]
        refine x_A k231_435 (fun _ => rfl) ?_
        refine x_A k231_436 (fun _ => rfl) ?_
        refine x_A k231_437 (fun _ => rfl) ?_
        refine x_iadd k231_438 ?_
        refine x_top (fun z138 e_z138 => ?_)
        refine x_scr k231_439 hN ⟨by omega, by omega⟩ (fun z139 g_z139 e_z139 => ?_)
        unfold in32 at g_z139
        have q_z139 : z139 = z129 := by rw [e_z139, e_z129, show z138 = z128 by omega]
        refine x_A k231_440 (fun _ => rfl) ?_
        refine x_A k231_441 (fun _ => rfl) ?_
        refine x_A k231_442 (fun _ => rfl) ?_
        refine x_iadd k231_443 ?_
        refine x_top (fun z140 e_z140 => ?_)
        refine x_scr k231_444 hN ⟨by omega, by omega⟩ (fun z141 g_z141 e_z141 => ?_)
        unfold in32 at g_z141
        have q_z141 : z141 = z131 := by rw [e_z141, e_z131, show z140 = z130 by omega]
        refine x_callV k231_445 (y := 155) (n := 4) (w0 := 0) (w1 := 4) (as := [vi z135, vi z137, vi z139, vi z141]) (rest := []) (by decide +kernel) (q := 256) (nq := 62) (kq := 15) ⟨by decide, rfl⟩ rfl rfl rfl rfl (xe_mono (C_X11_give_256 s133 hG_s133 z135 ⟨by omega, by omega⟩ z137 ⟨by omega, by omega⟩ z139 ⟨by omega, by omega⟩ z141 ⟨by omega, by omega⟩) ?_)
        rintro s143 v ⟨hG_s143, t_s143, z142, rfl, g_z142⟩
        have J_s143 : J s143 := J.fl J_s133 t_s143 (by decide)
        have T0_s143 : T0 s143 := T0.fl T0_s133 t_s143 (by decide)
        have P1_s143 : P1 s143 := P1.fl P1_s133 (hG_s133 256 1).2 t_s143 (by decide)
        show xe (some (N, xs)) 231 448 [(0, .ref 2000), (1, .ref 0), (2, .ref 256), (3, vi x3)] [vi z142] s143 295 10442 _
        refine x_A k231_448 (fun _ => rfl) ?_
        refine x_goto k231_449 (t := 1300) rfl ?_
        refine x_iinc k231_1300 (ls' := [(3, vi (x3 + 7)), (0, .ref 2000), (1, .ref 0), (2, .ref 256)]) rfl (by decide) rfl ?_
        refine x_goto k231_1303 (t := 18) rfl ?_
        refine x_ls (l := [(0, .ref 2000), (1, .ref 0), (2, .ref 256), (3, vi (x3 + 7))]) (show ([0, 1, 2, 3] : List Nat).Nodup from by decide) ⟨rfl, rfl, rfl, rfl, trivial⟩ ?_
        exact ih s143 (x3 + 7) hG_s143 trivial ⟨by omega, by omega⟩ J_s143 T0_s143 P1_s143  (by omega)
      · rw [c5]
        refine x_B k231_33 rfl (fun _ => rfl) (fun _ => rfl) (fun _ _ => rfl) ?_
        show xe (some (N, xs)) 231 452 [(0, .ref 2000), (1, .ref 0), (2, .ref 256), (3, vi x3)] [] s 295 10442 _
        refine x_A k231_452 (fun _ => rfl) ?_
        refine x_A k231_453 (fun _ => rfl) ?_
        refine x_A k231_454 (fun _ => rfl) ?_
        refine x_A k231_455 (fun _ => rfl) ?_
        refine x_iadd k231_456 ?_
        refine x_top (fun z144 e_z144 => ?_)
        refine x_scr k231_457 hN ⟨by omega, by omega⟩ (fun z145 g_z145 e_z145 => ?_)
        unfold in32 at g_z145
        refine x_A k231_458 (fun _ => rfl) ?_
        refine x_A k231_459 (fun _ => rfl) ?_
        refine x_A k231_460 (fun _ => rfl) ?_
        refine x_iadd k231_461 ?_
        refine x_top (fun z146 e_z146 => ?_)
        refine x_scr k231_462 hN ⟨by omega, by omega⟩ (fun z147 g_z147 e_z147 => ?_)
        unfold in32 at g_z147
        refine x_callV k231_463 (y := 99) (n := 2) (w0 := 0) (w1 := 2) (as := [vi z145, vi z147]) (rest := []) (by decide +kernel) (q := 0) (nq := 12) (kq := 3) ⟨by decide, rfl⟩ rfl rfl rfl rfl (xe_mono (C_X10_doubt_0 s hG z145 ⟨by omega, by omega⟩ z147 ⟨by omega, by omega⟩) ?_)
        rintro s149 v ⟨hG_s149, t_s149, z148, rfl, g_z148⟩
        have J_s149 : J s149 := J.fl i_J t_s149 (by decide)
        have T0_s149 : T0 s149 := T0.fl i_T0 t_s149 (by decide)
        have P1_s149 : P1 s149 := P1.fl i_P1 (hG 256 1).2 t_s149 (by decide)
        show xe (some (N, xs)) 231 466 [(0, .ref 2000), (1, .ref 0), (2, .ref 256), (3, vi x3)] [vi z148] s149 295 10442 _
        refine x_A k231_466 (fun _ => rfl) ?_
        refine x_A k231_467 (fun _ => rfl) ?_
        refine x_A k231_468 (fun _ => rfl) ?_
        refine x_A k231_469 (fun _ => rfl) ?_
        refine x_A k231_470 (fun _ => rfl) ?_
        refine x_iadd k231_471 ?_
        refine x_top (fun z150 e_z150 => ?_)
        refine x_scr k231_472 hN ⟨by omega, by omega⟩ (fun z151 g_z151 e_z151 => ?_)
        unfold in32 at g_z151
        have q_z151 : z151 = z145 := by rw [e_z151, e_z145, show z150 = z144 by omega]
        refine x_A k231_473 (fun _ => rfl) ?_
        refine x_A k231_474 (fun _ => rfl) ?_
        refine x_A k231_475 (fun _ => rfl) ?_
        refine x_iadd k231_476 ?_
        refine x_top (fun z152 e_z152 => ?_)
        refine x_scr k231_477 hN ⟨by omega, by omega⟩ (fun z153 g_z153 e_z153 => ?_)
        unfold in32 at g_z153
        have q_z153 : z153 = z147 := by rw [e_z153, e_z147, show z152 = z146 by omega]
        refine x_callV k231_478 (y := 157) (n := 2) (w0 := 0) (w1 := 2) (as := [vi z151, vi z153]) (rest := []) (by decide +kernel) (q := 256) (nq := 62) (kq := 15) ⟨by decide, rfl⟩ rfl rfl rfl rfl (xe_mono (C_X11_doubt_256 s149 hG_s149 z151 ⟨by omega, by omega⟩ z153 ⟨by omega, by omega⟩) ?_)
        rintro s155 v ⟨hG_s155, t_s155, z154, rfl, g_z154⟩
        have J_s155 : J s155 := J.fl J_s149 t_s155 (by decide)
        have T0_s155 : T0 s155 := T0.fl T0_s149 t_s155 (by decide)
        have P1_s155 : P1 s155 := P1.fl P1_s149 (hG_s149 256 1).2 t_s155 (by decide)
        show xe (some (N, xs)) 231 481 [(0, .ref 2000), (1, .ref 0), (2, .ref 256), (3, vi x3)] [vi z154] s155 295 10442 _
        refine x_A k231_481 (fun _ => rfl) ?_
        refine x_goto k231_482 (t := 1300) rfl ?_
        refine x_iinc k231_1300 (ls' := [(3, vi (x3 + 7)), (0, .ref 2000), (1, .ref 0), (2, .ref 256)]) rfl (by decide) rfl ?_
        refine x_goto k231_1303 (t := 18) rfl ?_
        refine x_ls (l := [(0, .ref 2000), (1, .ref 0), (2, .ref 256), (3, vi (x3 + 7))]) (show ([0, 1, 2, 3] : List Nat).Nodup from by decide) ⟨rfl, rfl, rfl, rfl, trivial⟩ ?_
        exact ih s155 (x3 + 7) hG_s155 trivial ⟨by omega, by omega⟩ J_s155 T0_s155 P1_s155  (by omega)
      · rw [c5]
        refine x_B k231_33 rfl (fun _ => rfl) (fun _ => rfl) (fun _ _ => rfl) ?_
        show xe (some (N, xs)) 231 485 [(0, .ref 2000), (1, .ref 0), (2, .ref 256), (3, vi x3)] [] s 295 10442 _
        refine x_A k231_485 (fun _ => rfl) ?_
        refine x_A k231_486 (fun _ => rfl) ?_
        refine x_A k231_487 (fun _ => rfl) ?_
        refine x_A k231_488 (fun _ => rfl) ?_
        refine x_iadd k231_489 ?_
        refine x_top (fun z156 e_z156 => ?_)
        refine x_scr k231_490 hN ⟨by omega, by omega⟩ (fun z157 g_z157 e_z157 => ?_)
        unfold in32 at g_z157
        refine x_A k231_491 (fun _ => rfl) ?_
        refine x_A k231_492 (fun _ => rfl) ?_
        refine x_A k231_493 (fun _ => rfl) ?_
        refine x_iadd k231_494 ?_
        refine x_top (fun z158 e_z158 => ?_)
        refine x_scr k231_495 hN ⟨by omega, by omega⟩ (fun z159 g_z159 e_z159 => ?_)
        unfold in32 at g_z159
        refine x_callV k231_496 (y := 100) (n := 2) (w0 := 0) (w1 := 2) (as := [vi z157, vi z159]) (rest := []) (by decide +kernel) (q := 0) (nq := 12) (kq := 3) ⟨by decide, rfl⟩ rfl rfl rfl rfl (xe_mono (C_X10_told_0 s hG i_J z157 ⟨by omega, by omega⟩ z159 ⟨by omega, by omega⟩) ?_)
        rintro s161 v ⟨hG_s161, t_s161, z160, rfl, g_z160⟩
        have J_s161 : J s161 := J.fl i_J t_s161 (by decide)
        have T0_s161 : T0 s161 := T0.fl i_T0 t_s161 (by decide)
        have P1_s161 : P1 s161 := P1.fl i_P1 (hG 256 1).2 t_s161 (by decide)
        show xe (some (N, xs)) 231 499 [(0, .ref 2000), (1, .ref 0), (2, .ref 256), (3, vi x3)] [vi z160] s161 295 10442 _
        refine x_A k231_499 (fun _ => rfl) ?_
        refine x_A k231_500 (fun _ => rfl) ?_
        refine x_A k231_501 (fun _ => rfl) ?_
        refine x_A k231_502 (fun _ => rfl) ?_
        refine x_A k231_503 (fun _ => rfl) ?_
        refine x_iadd k231_504 ?_
        refine x_top (fun z162 e_z162 => ?_)
        refine x_scr k231_505 hN ⟨by omega, by omega⟩ (fun z163 g_z163 e_z163 => ?_)
        unfold in32 at g_z163
        have q_z163 : z163 = z157 := by rw [e_z163, e_z157, show z162 = z156 by omega]
        refine x_A k231_506 (fun _ => rfl) ?_
        refine x_A k231_507 (fun _ => rfl) ?_
        refine x_A k231_508 (fun _ => rfl) ?_
        refine x_iadd k231_509 ?_
        refine x_top (fun z164 e_z164 => ?_)
        refine x_scr k231_510 hN ⟨by omega, by omega⟩ (fun z165 g_z165 e_z165 => ?_)
        unfold in32 at g_z165
        have q_z165 : z165 = z159 := by rw [e_z165, e_z159, show z164 = z158 by omega]
        refine x_callV k231_511 (y := 158) (n := 2) (w0 := 0) (w1 := 2) (as := [vi z163, vi z165]) (rest := []) (by decide +kernel) (q := 256) (nq := 62) (kq := 15) ⟨by decide, rfl⟩ rfl rfl rfl rfl (xe_mono (C_X11_told_256 s161 hG_s161 J_s161 z163 ⟨by omega, by omega⟩ z165 ⟨by omega, by omega⟩) ?_)
        rintro s167 v ⟨hG_s167, t_s167, z166, rfl, g_z166⟩
        have J_s167 : J s167 := J.fl J_s161 t_s167 (by decide)
        have T0_s167 : T0 s167 := T0.fl T0_s161 t_s167 (by decide)
        have P1_s167 : P1 s167 := P1.fl P1_s161 (hG_s161 256 1).2 t_s167 (by decide)
        show xe (some (N, xs)) 231 514 [(0, .ref 2000), (1, .ref 0), (2, .ref 256), (3, vi x3)] [vi z166] s167 295 10442 _
        refine x_A k231_514 (fun _ => rfl) ?_
        refine x_goto k231_515 (t := 1300) rfl ?_
        refine x_iinc k231_1300 (ls' := [(3, vi (x3 + 7)), (0, .ref 2000), (1, .ref 0), (2, .ref 256)]) rfl (by decide) rfl ?_
        refine x_goto k231_1303 (t := 18) rfl ?_
        refine x_ls (l := [(0, .ref 2000), (1, .ref 0), (2, .ref 256), (3, vi (x3 + 7))]) (show ([0, 1, 2, 3] : List Nat).Nodup from by decide) ⟨rfl, rfl, rfl, rfl, trivial⟩ ?_
        exact ih s167 (x3 + 7) hG_s167 trivial ⟨by omega, by omega⟩ J_s167 T0_s167 P1_s167  (by omega)
      · rw [c5]
        refine x_B k231_33 rfl (fun _ => rfl) (fun _ => rfl) (fun _ _ => rfl) ?_
        show xe (some (N, xs)) 231 518 [(0, .ref 2000), (1, .ref 0), (2, .ref 256), (3, vi x3)] [] s 295 10442 _
        refine x_A k231_518 (fun _ => rfl) ?_
        refine x_A k231_519 (fun _ => rfl) ?_
        refine x_A k231_520 (fun _ => rfl) ?_
        refine x_A k231_521 (fun _ => rfl) ?_
        refine x_iadd k231_522 ?_
        refine x_top (fun z168 e_z168 => ?_)
        refine x_scr k231_523 hN ⟨by omega, by omega⟩ (fun z169 g_z169 e_z169 => ?_)
        unfold in32 at g_z169
        refine x_A k231_524 (fun _ => rfl) ?_
        refine x_A k231_525 (fun _ => rfl) ?_
        refine x_A k231_526 (fun _ => rfl) ?_
        refine x_iadd k231_527 ?_
        refine x_top (fun z170 e_z170 => ?_)
        refine x_scr k231_528 hN ⟨by omega, by omega⟩ (fun z171 g_z171 e_z171 => ?_)
        unfold in32 at g_z171
        refine x_A k231_529 (fun _ => rfl) ?_
        refine x_A k231_530 (fun _ => rfl) ?_
        refine x_A k231_531 (fun _ => rfl) ?_
        refine x_iadd k231_532 ?_
        refine x_top (fun z172 e_z172 => ?_)
        refine x_scr k231_533 hN ⟨by omega, by omega⟩ (fun z173 g_z173 e_z173 => ?_)
        unfold in32 at g_z173
        refine x_callV k231_534 (y := 101) (n := 3) (w0 := 0) (w1 := 3) (as := [vi z169, vi z171, vi z173]) (rest := []) (by decide +kernel) (q := 0) (nq := 12) (kq := 3) ⟨by decide, rfl⟩ rfl rfl rfl rfl (xe_mono (C_X10_means_0 s hG i_J z169 ⟨by omega, by omega⟩ z171 ⟨by omega, by omega⟩ z173 ⟨by omega, by omega⟩) ?_)
        rintro s175 v ⟨hG_s175, t_s175, z174, rfl, g_z174⟩
        have J_s175 : J s175 := J.fl i_J t_s175 (by decide)
        have T0_s175 : T0 s175 := T0.fl i_T0 t_s175 (by decide)
        have P1_s175 : P1 s175 := P1.fl i_P1 (hG 256 1).2 t_s175 (by decide)
        show xe (some (N, xs)) 231 537 [(0, .ref 2000), (1, .ref 0), (2, .ref 256), (3, vi x3)] [vi z174] s175 295 10442 _
        refine x_A k231_537 (fun _ => rfl) ?_
        refine x_A k231_538 (fun _ => rfl) ?_
        refine x_A k231_539 (fun _ => rfl) ?_
        refine x_A k231_540 (fun _ => rfl) ?_
        refine x_A k231_541 (fun _ => rfl) ?_
        refine x_iadd k231_542 ?_
        refine x_top (fun z176 e_z176 => ?_)
        refine x_scr k231_543 hN ⟨by omega, by omega⟩ (fun z177 g_z177 e_z177 => ?_)
        unfold in32 at g_z177
        have q_z177 : z177 = z169 := by rw [e_z177, e_z169, show z176 = z168 by omega]
        refine x_A k231_544 (fun _ => rfl) ?_
        refine x_A k231_545 (fun _ => rfl) ?_
        refine x_A k231_546 (fun _ => rfl) ?_
        refine x_iadd k231_547 ?_
        refine x_top (fun z178 e_z178 => ?_)
        refine x_scr k231_548 hN ⟨by omega, by omega⟩ (fun z179 g_z179 e_z179 => ?_)
        unfold in32 at g_z179
        have q_z179 : z179 = z171 := by rw [e_z179, e_z171, show z178 = z170 by omega]
        refine x_A k231_549 (fun _ => rfl) ?_
        refine x_A k231_550 (fun _ => rfl) ?_
        refine x_A k231_551 (fun _ => rfl) ?_
        refine x_iadd k231_552 ?_
        refine x_top (fun z180 e_z180 => ?_)
        refine x_scr k231_553 hN ⟨by omega, by omega⟩ (fun z181 g_z181 e_z181 => ?_)
        unfold in32 at g_z181
        have q_z181 : z181 = z173 := by rw [e_z181, e_z173, show z180 = z172 by omega]
        refine x_callV k231_554 (y := 172) (n := 3) (w0 := 0) (w1 := 3) (as := [vi z177, vi z179, vi z181]) (rest := []) (by decide +kernel) (q := 256) (nq := 62) (kq := 15) ⟨by decide, rfl⟩ rfl rfl rfl rfl (xe_mono (C_X11_means_256 s175 hG_s175 J_s175 z177 ⟨by omega, by omega⟩ z179 ⟨by omega, by omega⟩ z181 ⟨by omega, by omega⟩) ?_)
        rintro s183 v ⟨hG_s183, t_s183, z182, rfl, g_z182⟩
        have J_s183 : J s183 := J.fl J_s175 t_s183 (by decide)
        have T0_s183 : T0 s183 := T0.fl T0_s175 t_s183 (by decide)
        have P1_s183 : P1 s183 := P1.fl P1_s175 (hG_s175 256 1).2 t_s183 (by decide)
        show xe (some (N, xs)) 231 557 [(0, .ref 2000), (1, .ref 0), (2, .ref 256), (3, vi x3)] [vi z182] s183 295 10442 _
        refine x_A k231_557 (fun _ => rfl) ?_
        refine x_goto k231_558 (t := 1300) rfl ?_
        refine x_iinc k231_1300 (ls' := [(3, vi (x3 + 7)), (0, .ref 2000), (1, .ref 0), (2, .ref 256)]) rfl (by decide) rfl ?_
        refine x_goto k231_1303 (t := 18) rfl ?_
        refine x_ls (l := [(0, .ref 2000), (1, .ref 0), (2, .ref 256), (3, vi (x3 + 7))]) (show ([0, 1, 2, 3] : List Nat).Nodup from by decide) ⟨rfl, rfl, rfl, rfl, trivial⟩ ?_
        exact ih s183 (x3 + 7) hG_s183 trivial ⟨by omega, by omega⟩ J_s183 T0_s183 P1_s183  (by omega)
      · rw [c5]
        refine x_B k231_33 rfl (fun _ => rfl) (fun _ => rfl) (fun _ _ => rfl) ?_
        show xe (some (N, xs)) 231 561 [(0, .ref 2000), (1, .ref 0), (2, .ref 256), (3, vi x3)] [] s 295 10442 _
        refine x_A k231_561 (fun _ => rfl) ?_
        refine x_A k231_562 (fun _ => rfl) ?_
        refine x_A k231_563 (fun _ => rfl) ?_
        refine x_A k231_564 (fun _ => rfl) ?_
        refine x_iadd k231_565 ?_
        refine x_top (fun z184 e_z184 => ?_)
        refine x_scr k231_566 hN ⟨by omega, by omega⟩ (fun z185 g_z185 e_z185 => ?_)
        unfold in32 at g_z185
        refine x_A k231_567 (fun _ => rfl) ?_
        refine x_A k231_568 (fun _ => rfl) ?_
        refine x_A k231_569 (fun _ => rfl) ?_
        refine x_iadd k231_570 ?_
        refine x_top (fun z186 e_z186 => ?_)
        refine x_scr k231_571 hN ⟨by omega, by omega⟩ (fun z187 g_z187 e_z187 => ?_)
        unfold in32 at g_z187
        refine x_A k231_572 (fun _ => rfl) ?_
        refine x_A k231_573 (fun _ => rfl) ?_
        refine x_A k231_574 (fun _ => rfl) ?_
        refine x_iadd k231_575 ?_
        refine x_top (fun z188 e_z188 => ?_)
        refine x_scr k231_576 hN ⟨by omega, by omega⟩ (fun z189 g_z189 e_z189 => ?_)
        unfold in32 at g_z189
        refine x_callV k231_577 (y := 102) (n := 3) (w0 := 0) (w1 := 3) (as := [vi z185, vi z187, vi z189]) (rest := []) (by decide +kernel) (q := 0) (nq := 12) (kq := 3) ⟨by decide, rfl⟩ rfl rfl rfl rfl (xe_mono (C_X10_led_0 s hG i_J z185 ⟨by omega, by omega⟩ z187 ⟨by omega, by omega⟩ z189 ⟨by omega, by omega⟩) ?_)
        rintro s191 v ⟨hG_s191, t_s191, z190, rfl, g_z190⟩
        have J_s191 : J s191 := J.fl i_J t_s191 (by decide)
        have T0_s191 : T0 s191 := T0.fl i_T0 t_s191 (by decide)
        have P1_s191 : P1 s191 := P1.fl i_P1 (hG 256 1).2 t_s191 (by decide)
        show xe (some (N, xs)) 231 580 [(0, .ref 2000), (1, .ref 0), (2, .ref 256), (3, vi x3)] [vi z190] s191 295 10442 _
        refine x_A k231_580 (fun _ => rfl) ?_
        refine x_A k231_581 (fun _ => rfl) ?_
        refine x_A k231_582 (fun _ => rfl) ?_
        refine x_A k231_583 (fun _ => rfl) ?_
        refine x_A k231_584 (fun _ => rfl) ?_
        refine x_iadd k231_585 ?_
        refine x_top (fun z192 e_z192 => ?_)
        refine x_scr k231_586 hN ⟨by omega, by omega⟩ (fun z193 g_z193 e_z193 => ?_)
        unfold in32 at g_z193
        have q_z193 : z193 = z185 := by rw [e_z193, e_z185, show z192 = z184 by omega]
        refine x_A k231_587 (fun _ => rfl) ?_
        refine x_A k231_588 (fun _ => rfl) ?_
        refine x_A k231_589 (fun _ => rfl) ?_
        refine x_iadd k231_590 ?_
        refine x_top (fun z194 e_z194 => ?_)
        refine x_scr k231_591 hN ⟨by omega, by omega⟩ (fun z195 g_z195 e_z195 => ?_)
        unfold in32 at g_z195
        have q_z195 : z195 = z187 := by rw [e_z195, e_z187, show z194 = z186 by omega]
        refine x_A k231_592 (fun _ => rfl) ?_
        refine x_A k231_593 (fun _ => rfl) ?_
        refine x_A k231_594 (fun _ => rfl) ?_
        refine x_iadd k231_595 ?_
        refine x_top (fun z196 e_z196 => ?_)
        refine x_scr k231_596 hN ⟨by omega, by omega⟩ (fun z197 g_z197 e_z197 => ?_)
        unfold in32 at g_z197
        have q_z197 : z197 = z189 := by rw [e_z197, e_z189, show z196 = z188 by omega]
        refine x_callV k231_597 (y := 173) (n := 3) (w0 := 0) (w1 := 3) (as := [vi z193, vi z195, vi z197]) (rest := []) (by decide +kernel) (q := 256) (nq := 62) (kq := 15) ⟨by decide, rfl⟩ rfl rfl rfl rfl (xe_mono (C_X11_led_256 s191 hG_s191 J_s191 z193 ⟨by omega, by omega⟩ z195 ⟨by omega, by omega⟩ z197 ⟨by omega, by omega⟩) ?_)
        rintro s199 v ⟨hG_s199, t_s199, z198, rfl, g_z198⟩
        have J_s199 : J s199 := J.fl J_s191 t_s199 (by decide)
        have T0_s199 : T0 s199 := T0.fl T0_s191 t_s199 (by decide)
        have P1_s199 : P1 s199 := P1.fl P1_s191 (hG_s191 256 1).2 t_s199 (by decide)
        show xe (some (N, xs)) 231 600 [(0, .ref 2000), (1, .ref 0), (2, .ref 256), (3, vi x3)] [vi z198] s199 295 10442 _
        refine x_A k231_600 (fun _ => rfl) ?_
        refine x_goto k231_601 (t := 1300) rfl ?_
        refine x_iinc k231_1300 (ls' := [(3, vi (x3 + 7)), (0, .ref 2000), (1, .ref 0), (2, .ref 256)]) rfl (by decide) rfl ?_
        refine x_goto k231_1303 (t := 18) rfl ?_
        refine x_ls (l := [(0, .ref 2000), (1, .ref 0), (2, .ref 256), (3, vi (x3 + 7))]) (show ([0, 1, 2, 3] : List Nat).Nodup from by decide) ⟨rfl, rfl, rfl, rfl, trivial⟩ ?_
        exact ih s199 (x3 + 7) hG_s199 trivial ⟨by omega, by omega⟩ J_s199 T0_s199 P1_s199  (by omega)
      · rw [c5]
        refine x_B k231_33 rfl (fun _ => rfl) (fun _ => rfl) (fun _ _ => rfl) ?_
        show xe (some (N, xs)) 231 604 [(0, .ref 2000), (1, .ref 0), (2, .ref 256), (3, vi x3)] [] s 295 10442 _
        refine x_A k231_604 (fun _ => rfl) ?_
        refine x_A k231_605 (fun _ => rfl) ?_
        refine x_A k231_606 (fun _ => rfl) ?_
        refine x_A k231_607 (fun _ => rfl) ?_
        refine x_iadd k231_608 ?_
        refine x_top (fun z200 e_z200 => ?_)
        refine x_scr k231_609 hN ⟨by omega, by omega⟩ (fun z201 g_z201 e_z201 => ?_)
        unfold in32 at g_z201
        refine x_callV k231_610 (y := 103) (n := 1) (w0 := 0) (w1 := 1) (as := [vi z201]) (rest := []) (by decide +kernel) (q := 0) (nq := 12) (kq := 3) ⟨by decide, rfl⟩ rfl rfl rfl rfl (xe_mono (C_X10_count_0 s hG i_J z201 ⟨by omega, by omega⟩) ?_)
        rintro s203 v ⟨hG_s203, t_s203, z202, rfl, g_z202⟩
        have J_s203 : J s203 := J.fl i_J t_s203 (by decide)
        have T0_s203 : T0 s203 := T0.fl i_T0 t_s203 (by decide)
        have P1_s203 : P1 s203 := P1.fl i_P1 (hG 256 1).2 t_s203 (by decide)
        show xe (some (N, xs)) 231 613 [(0, .ref 2000), (1, .ref 0), (2, .ref 256), (3, vi x3)] [vi z202] s203 295 10442 _
        refine x_A k231_613 (fun _ => rfl) ?_
        refine x_A k231_614 (fun _ => rfl) ?_
        refine x_A k231_615 (fun _ => rfl) ?_
        refine x_A k231_616 (fun _ => rfl) ?_
        refine x_A k231_617 (fun _ => rfl) ?_
        refine x_iadd k231_618 ?_
        refine x_top (fun z204 e_z204 => ?_)
        refine x_scr k231_619 hN ⟨by omega, by omega⟩ (fun z205 g_z205 e_z205 => ?_)
        unfold in32 at g_z205
        have q_z205 : z205 = z201 := by rw [e_z205, e_z201, show z204 = z200 by omega]
        refine x_callV k231_620 (y := 174) (n := 1) (w0 := 0) (w1 := 1) (as := [vi z205]) (rest := []) (by decide +kernel) (q := 256) (nq := 62) (kq := 15) ⟨by decide, rfl⟩ rfl rfl rfl rfl (xe_mono (C_X11_count_256 s203 hG_s203 J_s203 z205 ⟨by omega, by omega⟩) ?_)
        rintro s207 v ⟨hG_s207, t_s207, z206, rfl, g_z206⟩
        have J_s207 : J s207 := J.fl J_s203 t_s207 (by decide)
        have T0_s207 : T0 s207 := T0.fl T0_s203 t_s207 (by decide)
        have P1_s207 : P1 s207 := P1.fl P1_s203 (hG_s203 256 1).2 t_s207 (by decide)
        show xe (some (N, xs)) 231 623 [(0, .ref 2000), (1, .ref 0), (2, .ref 256), (3, vi x3)] [vi z206] s207 295 10442 _
        refine x_A k231_623 (fun _ => rfl) ?_
        refine x_goto k231_624 (t := 1300) rfl ?_
        refine x_iinc k231_1300 (ls' := [(3, vi (x3 + 7)), (0, .ref 2000), (1, .ref 0), (2, .ref 256)]) rfl (by decide) rfl ?_
        refine x_goto k231_1303 (t := 18) rfl ?_
        refine x_ls (l := [(0, .ref 2000), (1, .ref 0), (2, .ref 256), (3, vi (x3 + 7))]) (show ([0, 1, 2, 3] : List Nat).Nodup from by decide) ⟨rfl, rfl, rfl, rfl, trivial⟩ ?_
        exact ih s207 (x3 + 7) hG_s207 trivial ⟨by omega, by omega⟩ J_s207 T0_s207 P1_s207  (by omega)
      · rw [c5]
        refine x_B k231_33 rfl (fun _ => rfl) (fun _ => rfl) (fun _ _ => rfl) ?_
        show xe (some (N, xs)) 231 627 [(0, .ref 2000), (1, .ref 0), (2, .ref 256), (3, vi x3)] [] s 295 10442 _
        refine x_A k231_627 (fun _ => rfl) ?_
        refine x_A k231_628 (fun _ => rfl) ?_
        refine x_A k231_629 (fun _ => rfl) ?_
        refine x_A k231_630 (fun _ => rfl) ?_
        refine x_iadd k231_631 ?_
        refine x_top (fun z208 e_z208 => ?_)
        refine x_scr k231_632 hN ⟨by omega, by omega⟩ (fun z209 g_z209 e_z209 => ?_)
        unfold in32 at g_z209
        refine x_A k231_633 (fun _ => rfl) ?_
        refine x_A k231_634 (fun _ => rfl) ?_
        refine x_A k231_635 (fun _ => rfl) ?_
        refine x_iadd k231_636 ?_
        refine x_top (fun z210 e_z210 => ?_)
        refine x_scr k231_637 hN ⟨by omega, by omega⟩ (fun z211 g_z211 e_z211 => ?_)
        unfold in32 at g_z211
        refine x_i2l k231_638 ⟨by omega, by omega⟩ ?_
        refine x_bipush k231_639 (by decide +kernel) ?_
        refine x_lshl_any k231_641 (fun z212 b_z212 => ?_)
        refine x_A k231_642 (fun _ => rfl) ?_
        refine x_A k231_643 (fun _ => rfl) ?_
        refine x_A k231_644 (fun _ => rfl) ?_
        refine x_iadd k231_645 ?_
        refine x_top (fun z213 e_z213 => ?_)
        refine x_scr k231_646 hN ⟨by omega, by omega⟩ (fun z214 g_z214 e_z214 => ?_)
        unfold in32 at g_z214
        refine x_i2l k231_647 ⟨by omega, by omega⟩ ?_
        refine x_ldc2 k231_648 (z := 4294967295) rfl (by decide +kernel) ?_
        refine x_land_mask k231_651 ⟨by omega, by omega⟩ (fun z215 g_z215 => ?_)
        refine x_lor_any k231_652 (fun z216 b_z216 => ?_)
        refine x_callV k231_653 (y := 104) (n := 2) (w0 := 0) (w1 := 3) (as := [vi z209, vj z216]) (rest := []) (by decide +kernel) (q := 0) (nq := 12) (kq := 3) ⟨by decide, rfl⟩ rfl rfl rfl rfl (xe_mono (C_X10_feed_0 s hG z209 ⟨by omega, by omega⟩ z216 b_z216) ?_)
        rintro s218 v ⟨hG_s218, t_s218, z217, rfl, g_z217⟩
        have J_s218 : J s218 := J.fl i_J t_s218 (by decide)
        have T0_s218 : T0 s218 := T0.fl i_T0 t_s218 (by decide)
        have P1_s218 : P1 s218 := P1.fl i_P1 (hG 256 1).2 t_s218 (by decide)
        show xe (some (N, xs)) 231 656 [(0, .ref 2000), (1, .ref 0), (2, .ref 256), (3, vi x3)] [vi z217] s218 295 10442 _
        refine x_A k231_656 (fun _ => rfl) ?_
        refine x_A k231_657 (fun _ => rfl) ?_
        refine x_A k231_658 (fun _ => rfl) ?_
        refine x_A k231_659 (fun _ => rfl) ?_
        refine x_A k231_660 (fun _ => rfl) ?_
        refine x_iadd k231_661 ?_
        refine x_top (fun z219 e_z219 => ?_)
        refine x_scr k231_662 hN ⟨by omega, by omega⟩ (fun z220 g_z220 e_z220 => ?_)
        unfold in32 at g_z220
        have q_z220 : z220 = z209 := by rw [e_z220, e_z209, show z219 = z208 by omega]
        refine x_A k231_663 (fun _ => rfl) ?_
        refine x_A k231_664 (fun _ => rfl) ?_
        refine x_A k231_665 (fun _ => rfl) ?_
        refine x_iadd k231_666 ?_
        refine x_top (fun z221 e_z221 => ?_)
        refine x_scr k231_667 hN ⟨by omega, by omega⟩ (fun z222 g_z222 e_z222 => ?_)
        unfold in32 at g_z222
        have q_z222 : z222 = z211 := by rw [e_z222, e_z211, show z221 = z210 by omega]
        refine x_i2l k231_668 ⟨by omega, by omega⟩ ?_
        refine x_bipush k231_669 (by decide +kernel) ?_
        refine x_lshl_any k231_671 (fun z223 b_z223 => ?_)
        refine x_A k231_672 (fun _ => rfl) ?_
        refine x_A k231_673 (fun _ => rfl) ?_
        refine x_A k231_674 (fun _ => rfl) ?_
        refine x_iadd k231_675 ?_
        refine x_top (fun z224 e_z224 => ?_)
        refine x_scr k231_676 hN ⟨by omega, by omega⟩ (fun z225 g_z225 e_z225 => ?_)
        unfold in32 at g_z225
        have q_z225 : z225 = z214 := by rw [e_z225, e_z214, show z224 = z213 by omega]
        refine x_i2l k231_677 ⟨by omega, by omega⟩ ?_
        refine x_ldc2 k231_678 (z := 4294967295) rfl (by decide +kernel) ?_
        refine x_land_mask k231_681 ⟨by omega, by omega⟩ (fun z226 g_z226 => ?_)
        refine x_lor_any k231_682 (fun z227 b_z227 => ?_)
        refine x_callV k231_683 (y := 175) (n := 2) (w0 := 0) (w1 := 3) (as := [vi z220, vj z227]) (rest := []) (by decide +kernel) (q := 256) (nq := 62) (kq := 15) ⟨by decide, rfl⟩ rfl rfl rfl rfl (xe_mono (C_X11_feed_256 s218 hG_s218 z220 ⟨by omega, by omega⟩ z227 b_z227) ?_)
        rintro s229 v ⟨hG_s229, t_s229, z228, rfl, g_z228⟩
        have J_s229 : J s229 := J.fl J_s218 t_s229 (by decide)
        have T0_s229 : T0 s229 := T0.fl T0_s218 t_s229 (by decide)
        have P1_s229 : P1 s229 := P1.fl P1_s218 (hG_s218 256 1).2 t_s229 (by decide)
        show xe (some (N, xs)) 231 686 [(0, .ref 2000), (1, .ref 0), (2, .ref 256), (3, vi x3)] [vi z228] s229 295 10442 _
        refine x_A k231_686 (fun _ => rfl) ?_
        refine x_goto k231_687 (t := 1300) rfl ?_
        refine x_iinc k231_1300 (ls' := [(3, vi (x3 + 7)), (0, .ref 2000), (1, .ref 0), (2, .ref 256)]) rfl (by decide) rfl ?_
        refine x_goto k231_1303 (t := 18) rfl ?_
        refine x_ls (l := [(0, .ref 2000), (1, .ref 0), (2, .ref 256), (3, vi (x3 + 7))]) (show ([0, 1, 2, 3] : List Nat).Nodup from by decide) ⟨rfl, rfl, rfl, rfl, trivial⟩ ?_
        exact ih s229 (x3 + 7) hG_s229 trivial ⟨by omega, by omega⟩ J_s229 T0_s229 P1_s229  (by omega)
      · rw [c5]
        refine x_B k231_33 rfl (fun _ => rfl) (fun _ => rfl) (fun _ _ => rfl) ?_
        show xe (some (N, xs)) 231 690 [(0, .ref 2000), (1, .ref 0), (2, .ref 256), (3, vi x3)] [] s 295 10442 _
        refine x_A k231_690 (fun _ => rfl) ?_
        refine x_A k231_691 (fun _ => rfl) ?_
        refine x_A k231_692 (fun _ => rfl) ?_
        refine x_A k231_693 (fun _ => rfl) ?_
        refine x_iadd k231_694 ?_
        refine x_top (fun z230 e_z230 => ?_)
        refine x_scr k231_695 hN ⟨by omega, by omega⟩ (fun z231 g_z231 e_z231 => ?_)
        unfold in32 at g_z231
        refine x_callV k231_696 (y := 105) (n := 1) (w0 := 0) (w1 := 1) (as := [vi z231]) (rest := []) (by decide +kernel) (q := 0) (nq := 12) (kq := 3) ⟨by decide, rfl⟩ rfl rfl rfl rfl (xe_mono (C_X10_rule_0 s hG z231 ⟨by omega, by omega⟩ i_J) ?_)
        rintro s233 v ⟨hG_s233, t_s233, z232, rfl, g_z232, J_s233⟩
        have T0_s233 : T0 s233 := T0.fl i_T0 t_s233 (by decide)
        have P1_s233 : P1 s233 := P1.fl i_P1 (hG 256 1).2 t_s233 (by decide)
        show xe (some (N, xs)) 231 699 [(0, .ref 2000), (1, .ref 0), (2, .ref 256), (3, vi x3)] [vi z232] s233 295 10442 _
        refine x_A k231_699 (fun _ => rfl) ?_
        refine x_A k231_700 (fun _ => rfl) ?_
        refine x_A k231_701 (fun _ => rfl) ?_
        refine x_A k231_702 (fun _ => rfl) ?_
        refine x_A k231_703 (fun _ => rfl) ?_
        refine x_iadd k231_704 ?_
        refine x_top (fun z234 e_z234 => ?_)
        refine x_scr k231_705 hN ⟨by omega, by omega⟩ (fun z235 g_z235 e_z235 => ?_)
        unfold in32 at g_z235
        have q_z235 : z235 = z231 := by rw [e_z235, e_z231, show z234 = z230 by omega]
        obtain ⟨z236, e_z236⟩ : ∃ z, z = s233 256 20 := ⟨_, rfl⟩
        have g_z236 : (0 : Int) ≤ s233 256 20 ∧ s233 256 20 ≤ 64 := hG_s233 256 20
        obtain ⟨z237, e_z237⟩ : ∃ z, z = s233 256 17 := ⟨_, rfl⟩
        have g_z237 : (0 : Int) ≤ s233 256 17 ∧ s233 256 17 ≤ 8 := hG_s233 256 17
        refine x_callV k231_706 (y := 187) (n := 1) (w0 := 0) (w1 := 1) (as := [vi z235]) (rest := []) (by decide +kernel) (q := 256) (nq := 62) (kq := 15) ⟨by decide, rfl⟩ rfl rfl rfl rfl (xe_mono (C_X11_rule_256 s233 hG_s233 z235 ⟨by omega, by omega⟩ ⟨by omega, by omega⟩ ⟨by omega, by omega⟩ J_s233) ?_)
        rintro s239 v ⟨hG_s239, t_s239, z238, rfl, g_z238, J_s239⟩
        have T0_s239 : T0 s239 := T0.fl T0_s233 t_s239 (by decide)
        have P1_s239 : P1 s239 := P1.fl P1_s233 (hG_s233 256 1).2 t_s239 (by decide)
        show xe (some (N, xs)) 231 709 [(0, .ref 2000), (1, .ref 0), (2, .ref 256), (3, vi x3)] [vi z238] s239 295 10442 _
        refine x_A k231_709 (fun _ => rfl) ?_
        refine x_goto k231_710 (t := 1300) rfl ?_
        refine x_iinc k231_1300 (ls' := [(3, vi (x3 + 7)), (0, .ref 2000), (1, .ref 0), (2, .ref 256)]) rfl (by decide) rfl ?_
        refine x_goto k231_1303 (t := 18) rfl ?_
        refine x_ls (l := [(0, .ref 2000), (1, .ref 0), (2, .ref 256), (3, vi (x3 + 7))]) (show ([0, 1, 2, 3] : List Nat).Nodup from by decide) ⟨rfl, rfl, rfl, rfl, trivial⟩ ?_
        exact ih s239 (x3 + 7) hG_s239 trivial ⟨by omega, by omega⟩ J_s239 T0_s239 P1_s239  (by omega)
      · rw [c5]
        refine x_B k231_33 rfl (fun _ => rfl) (fun _ => rfl) (fun _ _ => rfl) ?_
        show xe (some (N, xs)) 231 713 [(0, .ref 2000), (1, .ref 0), (2, .ref 256), (3, vi x3)] [] s 295 10442 _
        refine x_A k231_713 (fun _ => rfl) ?_
        refine x_callV k231_714 (y := 106) (n := 0) (w0 := 0) (w1 := 0) (as := []) (rest := []) (by decide +kernel) (q := 0) (nq := 12) (kq := 3) ⟨by decide, rfl⟩ rfl rfl rfl rfl (xe_mono (C_X10_fault_0 s hG) ?_)
        rintro s241 v ⟨-, t_s241, z240, rfl, g_z240⟩
        rw [t_s241.nil]
        show xe (some (N, xs)) 231 717 [(0, .ref 2000), (1, .ref 0), (2, .ref 256), (3, vi x3)] [vi z240] s 295 10442 _
        refine x_A k231_717 (fun _ => rfl) ?_
        refine x_A k231_718 (fun _ => rfl) ?_
        refine x_callV k231_719 (y := 188) (n := 0) (w0 := 0) (w1 := 0) (as := []) (rest := []) (by decide +kernel) (q := 256) (nq := 62) (kq := 15) ⟨by decide, rfl⟩ rfl rfl rfl rfl (xe_mono (C_X11_fault_256 s hG) ?_)
        rintro s243 v ⟨-, t_s243, z242, rfl, g_z242⟩
        rw [t_s243.nil]
        show xe (some (N, xs)) 231 722 [(0, .ref 2000), (1, .ref 0), (2, .ref 256), (3, vi x3)] [vi z242] s 295 10442 _
        refine x_A k231_722 (fun _ => rfl) ?_
        refine x_goto k231_723 (t := 1300) rfl ?_
        refine x_iinc k231_1300 (ls' := [(3, vi (x3 + 7)), (0, .ref 2000), (1, .ref 0), (2, .ref 256)]) rfl (by decide) rfl ?_
        refine x_goto k231_1303 (t := 18) rfl ?_
        refine x_ls (l := [(0, .ref 2000), (1, .ref 0), (2, .ref 256), (3, vi (x3 + 7))]) (show ([0, 1, 2, 3] : List Nat).Nodup from by decide) ⟨rfl, rfl, rfl, rfl, trivial⟩ ?_
        exact ih s (x3 + 7) hG f ⟨by omega, by omega⟩ i_J i_T0 i_P1  (by omega)
      · rw [c5]
        refine x_B k231_33 rfl (fun _ => rfl) (fun _ => rfl) (fun _ _ => rfl) ?_
        show xe (some (N, xs)) 231 726 [(0, .ref 2000), (1, .ref 0), (2, .ref 256), (3, vi x3)] [] s 295 10442 _
        refine x_A k231_726 (fun _ => rfl) ?_
        refine x_A k231_727 (fun _ => rfl) ?_
        refine x_A k231_728 (fun _ => rfl) ?_
        refine x_A k231_729 (fun _ => rfl) ?_
        refine x_iadd k231_730 ?_
        refine x_top (fun z244 e_z244 => ?_)
        refine x_scr k231_731 hN ⟨by omega, by omega⟩ (fun z245 g_z245 e_z245 => ?_)
        unfold in32 at g_z245
        refine x_A k231_732 (fun _ => rfl) ?_
        refine x_A k231_733 (fun _ => rfl) ?_
        refine x_A k231_734 (fun _ => rfl) ?_
        refine x_iadd k231_735 ?_
        refine x_top (fun z246 e_z246 => ?_)
        refine x_scr k231_736 hN ⟨by omega, by omega⟩ (fun z247 g_z247 e_z247 => ?_)
        unfold in32 at g_z247
        refine x_callV k231_737 (y := 107) (n := 2) (w0 := 0) (w1 := 2) (as := [vi z245, vi z247]) (rest := []) (by decide +kernel) (q := 0) (nq := 12) (kq := 3) ⟨by decide, rfl⟩ rfl rfl rfl rfl (xe_mono (C_X10_force_0 s hG i_J z245 ⟨by omega, by omega⟩ z247 ⟨by omega, by omega⟩) ?_)
        rintro s249 v ⟨hG_s249, t_s249, z248, rfl, g_z248⟩
        have J_s249 : J s249 := J.fl i_J t_s249 (by decide)
        have T0_s249 : T0 s249 := T0.fl i_T0 t_s249 (by decide)
        have P1_s249 : P1 s249 := P1.fl i_P1 (hG 256 1).2 t_s249 (by decide)
        show xe (some (N, xs)) 231 740 [(0, .ref 2000), (1, .ref 0), (2, .ref 256), (3, vi x3)] [vi z248] s249 295 10442 _
        refine x_A k231_740 (fun _ => rfl) ?_
        refine x_A k231_741 (fun _ => rfl) ?_
        refine x_A k231_742 (fun _ => rfl) ?_
        refine x_A k231_743 (fun _ => rfl) ?_
        refine x_A k231_744 (fun _ => rfl) ?_
        refine x_iadd k231_745 ?_
        refine x_top (fun z250 e_z250 => ?_)
        refine x_scr k231_746 hN ⟨by omega, by omega⟩ (fun z251 g_z251 e_z251 => ?_)
        unfold in32 at g_z251
        have q_z251 : z251 = z245 := by rw [e_z251, e_z245, show z250 = z244 by omega]
        refine x_A k231_747 (fun _ => rfl) ?_
        refine x_A k231_748 (fun _ => rfl) ?_
        refine x_A k231_749 (fun _ => rfl) ?_
        refine x_iadd k231_750 ?_
        refine x_top (fun z252 e_z252 => ?_)
        refine x_scr k231_751 hN ⟨by omega, by omega⟩ (fun z253 g_z253 e_z253 => ?_)
        unfold in32 at g_z253
        have q_z253 : z253 = z247 := by rw [e_z253, e_z247, show z252 = z246 by omega]
        refine x_callV k231_752 (y := 189) (n := 2) (w0 := 0) (w1 := 2) (as := [vi z251, vi z253]) (rest := []) (by decide +kernel) (q := 256) (nq := 62) (kq := 15) ⟨by decide, rfl⟩ rfl rfl rfl rfl (xe_mono (C_X11_force_256 s249 hG_s249 J_s249 z251 ⟨by omega, by omega⟩ z253 ⟨by omega, by omega⟩) ?_)
        rintro s255 v ⟨hG_s255, t_s255, z254, rfl, g_z254⟩
        have J_s255 : J s255 := J.fl J_s249 t_s255 (by decide)
        have T0_s255 : T0 s255 := T0.fl T0_s249 t_s255 (by decide)
        have P1_s255 : P1 s255 := P1.fl P1_s249 (hG_s249 256 1).2 t_s255 (by decide)
        show xe (some (N, xs)) 231 755 [(0, .ref 2000), (1, .ref 0), (2, .ref 256), (3, vi x3)] [vi z254] s255 295 10442 _
        refine x_A k231_755 (fun _ => rfl) ?_
        refine x_goto k231_756 (t := 1300) rfl ?_
        refine x_iinc k231_1300 (ls' := [(3, vi (x3 + 7)), (0, .ref 2000), (1, .ref 0), (2, .ref 256)]) rfl (by decide) rfl ?_
        refine x_goto k231_1303 (t := 18) rfl ?_
        refine x_ls (l := [(0, .ref 2000), (1, .ref 0), (2, .ref 256), (3, vi (x3 + 7))]) (show ([0, 1, 2, 3] : List Nat).Nodup from by decide) ⟨rfl, rfl, rfl, rfl, trivial⟩ ?_
        exact ih s255 (x3 + 7) hG_s255 trivial ⟨by omega, by omega⟩ J_s255 T0_s255 P1_s255  (by omega)
      · rw [c5]
        refine x_B k231_33 rfl (fun _ => rfl) (fun _ => rfl) (fun _ _ => rfl) ?_
        show xe (some (N, xs)) 231 759 [(0, .ref 2000), (1, .ref 0), (2, .ref 256), (3, vi x3)] [] s 295 10442 _
        refine x_A k231_759 (fun _ => rfl) ?_
        refine x_A k231_760 (fun _ => rfl) ?_
        refine x_A k231_761 (fun _ => rfl) ?_
        refine x_A k231_762 (fun _ => rfl) ?_
        refine x_iadd k231_763 ?_
        refine x_top (fun z256 e_z256 => ?_)
        refine x_scr k231_764 hN ⟨by omega, by omega⟩ (fun z257 g_z257 e_z257 => ?_)
        unfold in32 at g_z257
        refine x_A k231_765 (fun _ => rfl) ?_
        refine x_A k231_766 (fun _ => rfl) ?_
        refine x_A k231_767 (fun _ => rfl) ?_
        refine x_iadd k231_768 ?_
        refine x_top (fun z258 e_z258 => ?_)
        refine x_scr k231_769 hN ⟨by omega, by omega⟩ (fun z259 g_z259 e_z259 => ?_)
        unfold in32 at g_z259
        refine x_A k231_770 (fun _ => rfl) ?_
        refine x_A k231_771 (fun _ => rfl) ?_
        refine x_A k231_772 (fun _ => rfl) ?_
        refine x_iadd k231_773 ?_
        refine x_top (fun z260 e_z260 => ?_)
        refine x_scr k231_774 hN ⟨by omega, by omega⟩ (fun z261 g_z261 e_z261 => ?_)
        unfold in32 at g_z261
        refine x_callV k231_775 (y := 108) (n := 3) (w0 := 0) (w1 := 3) (as := [vi z257, vi z259, vi z261]) (rest := []) (by decide +kernel) (q := 0) (nq := 12) (kq := 3) ⟨by decide, rfl⟩ rfl rfl rfl rfl (xe_mono (C_X10_word_0 s hG z257 ⟨by omega, by omega⟩ z259 ⟨by omega, by omega⟩ z261 ⟨by omega, by omega⟩) ?_)
        rintro s263 v ⟨hG_s263, t_s263, z262, rfl, g_z262⟩
        have J_s263 : J s263 := J.fl i_J t_s263 (by decide)
        have T0_s263 : T0 s263 := T0.fl i_T0 t_s263 (by decide)
        have P1_s263 : P1 s263 := P1.fl i_P1 (hG 256 1).2 t_s263 (by decide)
        show xe (some (N, xs)) 231 778 [(0, .ref 2000), (1, .ref 0), (2, .ref 256), (3, vi x3)] [vi z262] s263 295 10442 _
        refine x_A k231_778 (fun _ => rfl) ?_
        refine x_A k231_779 (fun _ => rfl) ?_
        refine x_A k231_780 (fun _ => rfl) ?_
        refine x_A k231_781 (fun _ => rfl) ?_
        refine x_A k231_782 (fun _ => rfl) ?_
        refine x_iadd k231_783 ?_
        refine x_top (fun z264 e_z264 => ?_)
        refine x_scr k231_784 hN ⟨by omega, by omega⟩ (fun z265 g_z265 e_z265 => ?_)
        unfold in32 at g_z265
        have q_z265 : z265 = z257 := by rw [e_z265, e_z257, show z264 = z256 by omega]
        refine x_A k231_785 (fun _ => rfl) ?_
        refine x_A k231_786 (fun _ => rfl) ?_
        refine x_A k231_787 (fun _ => rfl) ?_
        refine x_iadd k231_788 ?_
        refine x_top (fun z266 e_z266 => ?_)
        refine x_scr k231_789 hN ⟨by omega, by omega⟩ (fun z267 g_z267 e_z267 => ?_)
        unfold in32 at g_z267
        have q_z267 : z267 = z259 := by rw [e_z267, e_z259, show z266 = z258 by omega]
        refine x_A k231_790 (fun _ => rfl) ?_
        refine x_A k231_791 (fun _ => rfl) ?_
        refine x_A k231_792 (fun _ => rfl) ?_
        refine x_iadd k231_793 ?_
        refine x_top (fun z268 e_z268 => ?_)
        refine x_scr k231_794 hN ⟨by omega, by omega⟩ (fun z269 g_z269 e_z269 => ?_)
        unfold in32 at g_z269
        have q_z269 : z269 = z261 := by rw [e_z269, e_z261, show z268 = z260 by omega]
        refine x_callV k231_795 (y := 192) (n := 3) (w0 := 0) (w1 := 3) (as := [vi z265, vi z267, vi z269]) (rest := []) (by decide +kernel) (q := 256) (nq := 62) (kq := 15) ⟨by decide, rfl⟩ rfl rfl rfl rfl (xe_mono (C_X11_word_256 s263 hG_s263 z265 ⟨by omega, by omega⟩ z267 ⟨by omega, by omega⟩ z269 ⟨by omega, by omega⟩) ?_)
        rintro s271 v ⟨hG_s271, t_s271, z270, rfl, g_z270⟩
        have J_s271 : J s271 := J.fl J_s263 t_s271 (by decide)
        have T0_s271 : T0 s271 := T0.fl T0_s263 t_s271 (by decide)
        have P1_s271 : P1 s271 := P1.fl P1_s263 (hG_s263 256 1).2 t_s271 (by decide)
        show xe (some (N, xs)) 231 798 [(0, .ref 2000), (1, .ref 0), (2, .ref 256), (3, vi x3)] [vi z270] s271 295 10442 _
        refine x_A k231_798 (fun _ => rfl) ?_
        refine x_goto k231_799 (t := 1300) rfl ?_
        refine x_iinc k231_1300 (ls' := [(3, vi (x3 + 7)), (0, .ref 2000), (1, .ref 0), (2, .ref 256)]) rfl (by decide) rfl ?_
        refine x_goto k231_1303 (t := 18) rfl ?_
        refine x_ls (l := [(0, .ref 2000), (1, .ref 0), (2, .ref 256), (3, vi (x3 + 7))]) (show ([0, 1, 2, 3] : List Nat).Nodup from by decide) ⟨rfl, rfl, rfl, rfl, trivial⟩ ?_
        exact ih s271 (x3 + 7) hG_s271 trivial ⟨by omega, by omega⟩ J_s271 T0_s271 P1_s271  (by omega)
      · rw [c5]
        refine x_B k231_33 rfl (fun _ => rfl) (fun _ => rfl) (fun _ _ => rfl) ?_
        show xe (some (N, xs)) 231 802 [(0, .ref 2000), (1, .ref 0), (2, .ref 256), (3, vi x3)] [] s 295 10442 _
        refine x_A k231_802 (fun _ => rfl) ?_
        refine x_A k231_803 (fun _ => rfl) ?_
        refine x_A k231_804 (fun _ => rfl) ?_
        refine x_A k231_805 (fun _ => rfl) ?_
        refine x_iadd k231_806 ?_
        refine x_top (fun z272 e_z272 => ?_)
        refine x_scr k231_807 hN ⟨by omega, by omega⟩ (fun z273 g_z273 e_z273 => ?_)
        unfold in32 at g_z273
        refine x_A k231_808 (fun _ => rfl) ?_
        refine x_A k231_809 (fun _ => rfl) ?_
        refine x_A k231_810 (fun _ => rfl) ?_
        refine x_iadd k231_811 ?_
        refine x_top (fun z274 e_z274 => ?_)
        refine x_scr k231_812 hN ⟨by omega, by omega⟩ (fun z275 g_z275 e_z275 => ?_)
        unfold in32 at g_z275
        refine x_callV k231_813 (y := 109) (n := 2) (w0 := 0) (w1 := 2) (as := [vi z273, vi z275]) (rest := []) (by decide +kernel) (q := 0) (nq := 12) (kq := 3) ⟨by decide, rfl⟩ rfl rfl rfl rfl (xe_mono (C_X10_leads_0 s hG z273 ⟨by omega, by omega⟩ z275 ⟨by omega, by omega⟩) ?_)
        rintro s277 v ⟨-, t_s277, z276, rfl, g_z276⟩
        rw [t_s277.nil]
        show xe (some (N, xs)) 231 816 [(0, .ref 2000), (1, .ref 0), (2, .ref 256), (3, vi x3)] [vi z276] s 295 10442 _
        refine x_A k231_816 (fun _ => rfl) ?_
        refine x_A k231_817 (fun _ => rfl) ?_
        refine x_A k231_818 (fun _ => rfl) ?_
        refine x_A k231_819 (fun _ => rfl) ?_
        refine x_A k231_820 (fun _ => rfl) ?_
        refine x_iadd k231_821 ?_
        refine x_top (fun z278 e_z278 => ?_)
        refine x_scr k231_822 hN ⟨by omega, by omega⟩ (fun z279 g_z279 e_z279 => ?_)
        unfold in32 at g_z279
        have q_z279 : z279 = z273 := by rw [e_z279, e_z273, show z278 = z272 by omega]
        refine x_A k231_823 (fun _ => rfl) ?_
        refine x_A k231_824 (fun _ => rfl) ?_
        refine x_A k231_825 (fun _ => rfl) ?_
        refine x_iadd k231_826 ?_
        refine x_top (fun z280 e_z280 => ?_)
        refine x_scr k231_827 hN ⟨by omega, by omega⟩ (fun z281 g_z281 e_z281 => ?_)
        unfold in32 at g_z281
        have q_z281 : z281 = z275 := by rw [e_z281, e_z275, show z280 = z274 by omega]
        refine x_callV k231_828 (y := 193) (n := 2) (w0 := 0) (w1 := 2) (as := [vi z279, vi z281]) (rest := []) (by decide +kernel) (q := 256) (nq := 62) (kq := 15) ⟨by decide, rfl⟩ rfl rfl rfl rfl (xe_mono (C_X11_leads_256 s hG z279 ⟨by omega, by omega⟩ z281 ⟨by omega, by omega⟩) ?_)
        rintro s283 v ⟨-, t_s283, z282, rfl, g_z282⟩
        rw [t_s283.nil]
        show xe (some (N, xs)) 231 831 [(0, .ref 2000), (1, .ref 0), (2, .ref 256), (3, vi x3)] [vi z282] s 295 10442 _
        refine x_A k231_831 (fun _ => rfl) ?_
        refine x_goto k231_832 (t := 1300) rfl ?_
        refine x_iinc k231_1300 (ls' := [(3, vi (x3 + 7)), (0, .ref 2000), (1, .ref 0), (2, .ref 256)]) rfl (by decide) rfl ?_
        refine x_goto k231_1303 (t := 18) rfl ?_
        refine x_ls (l := [(0, .ref 2000), (1, .ref 0), (2, .ref 256), (3, vi (x3 + 7))]) (show ([0, 1, 2, 3] : List Nat).Nodup from by decide) ⟨rfl, rfl, rfl, rfl, trivial⟩ ?_
        exact ih s (x3 + 7) hG f ⟨by omega, by omega⟩ i_J i_T0 i_P1  (by omega)
      · rw [c5]
        refine x_B k231_33 rfl (fun _ => rfl) (fun _ => rfl) (fun _ _ => rfl) ?_
        show xe (some (N, xs)) 231 835 [(0, .ref 2000), (1, .ref 0), (2, .ref 256), (3, vi x3)] [] s 295 10442 _
        refine x_A k231_835 (fun _ => rfl) ?_
        refine x_callV k231_836 (y := 110) (n := 0) (w0 := 0) (w1 := 0) (as := []) (rest := []) (by decide +kernel) (q := 0) (nq := 12) (kq := 3) ⟨by decide, rfl⟩ rfl rfl rfl rfl (xe_mono (C_X10_ask_0 s hG) ?_)
        rintro s285 v ⟨hG_s285, t_s285, z284, rfl, g_z284⟩
        have J_s285 : J s285 := J.fl i_J t_s285 (by decide)
        have T0_s285 : T0 s285 := T0.fl i_T0 t_s285 (by decide)
        have P1_s285 : P1 s285 := P1.fl i_P1 (hG 256 1).2 t_s285 (by decide)
        show xe (some (N, xs)) 231 839 [(0, .ref 2000), (1, .ref 0), (2, .ref 256), (3, vi x3)] [vi z284] s285 295 10442 _
        refine x_A k231_839 (fun _ => rfl) ?_
        refine x_A k231_840 (fun _ => rfl) ?_
        obtain ⟨z286, e_z286⟩ : ∃ z, z = s285 256 47 := ⟨_, rfl⟩
        have g_z286 : (0 : Int) ≤ s285 256 47 ∧ s285 256 47 ≤ 110 := hG_s285 256 47
        obtain ⟨z287, e_z287⟩ : ∃ z, z = s285 256 48 := ⟨_, rfl⟩
        have g_z287 : (0 : Int) ≤ s285 256 48 ∧ s285 256 48 ≤ 120 := hG_s285 256 48
        obtain ⟨z288, e_z288⟩ : ∃ z, z = s285 256 36 := ⟨_, rfl⟩
        have g_z288 : (0 : Int) ≤ s285 256 36 ∧ s285 256 36 ≤ 160 := hG_s285 256 36
        obtain ⟨z289, e_z289⟩ : ∃ z, z = s285 256 34 := ⟨_, rfl⟩
        have g_z289 : (0 : Int) ≤ s285 256 34 ∧ s285 256 34 ≤ 160 := hG_s285 256 34
        obtain ⟨z290, e_z290⟩ : ∃ z, z = s285 256 43 := ⟨_, rfl⟩
        have g_z290 : (0 : Int) ≤ s285 256 43 ∧ s285 256 43 ≤ 8 := hG_s285 256 43
        obtain ⟨z291, e_z291⟩ : ∃ z, z = s285 256 50 := ⟨_, rfl⟩
        have g_z291 : (0 : Int) ≤ s285 256 50 ∧ s285 256 50 ≤ 5 := hG_s285 256 50
        obtain ⟨z292, e_z292⟩ : ∃ z, z = s285 256 51 := ⟨_, rfl⟩
        have g_z292 : (0 : Int) ≤ s285 256 51 ∧ s285 256 51 ≤ 1 := hG_s285 256 51
        refine x_callV k231_841 (y := 200) (n := 0) (w0 := 0) (w1 := 0) (as := []) (rest := []) (by decide +kernel) (q := 256) (nq := 62) (kq := 15) ⟨by decide, rfl⟩ rfl rfl rfl rfl (xe_mono (C_X11_ask_256 s285 hG_s285 ⟨by omega, by omega⟩ ⟨by omega, by omega⟩ ⟨by omega, by omega⟩ ⟨by omega, by omega⟩ ⟨by omega, by omega⟩ ⟨by omega, by omega⟩ ⟨by omega, by omega⟩ J_s285) ?_)
        rintro s294 v ⟨hG_s294, t_s294, z293, rfl, g_z293, J_s294⟩
        have T0_s294 : T0 s294 := T0.fl T0_s285 t_s294 (by decide)
        have P1_s294 : P1 s294 := P1.fl P1_s285 (hG_s285 256 1).2 t_s294 (by decide)
        show xe (some (N, xs)) 231 844 [(0, .ref 2000), (1, .ref 0), (2, .ref 256), (3, vi x3)] [vi z293] s294 295 10442 _
        refine x_A k231_844 (fun _ => rfl) ?_
        refine x_goto k231_845 (t := 1300) rfl ?_
        refine x_iinc k231_1300 (ls' := [(3, vi (x3 + 7)), (0, .ref 2000), (1, .ref 0), (2, .ref 256)]) rfl (by decide) rfl ?_
        refine x_goto k231_1303 (t := 18) rfl ?_
        refine x_ls (l := [(0, .ref 2000), (1, .ref 0), (2, .ref 256), (3, vi (x3 + 7))]) (show ([0, 1, 2, 3] : List Nat).Nodup from by decide) ⟨rfl, rfl, rfl, rfl, trivial⟩ ?_
        exact ih s294 (x3 + 7) hG_s294 trivial ⟨by omega, by omega⟩ J_s294 T0_s294 P1_s294  (by omega)
      · rw [c5]
        refine x_B k231_33 rfl (fun _ => rfl) (fun _ => rfl) (fun _ _ => rfl) ?_
        show xe (some (N, xs)) 231 848 [(0, .ref 2000), (1, .ref 0), (2, .ref 256), (3, vi x3)] [] s 295 10442 _
        refine x_A k231_848 (fun _ => rfl) ?_
        refine x_A k231_849 (fun _ => rfl) ?_
        refine x_A k231_850 (fun _ => rfl) ?_
        refine x_A k231_851 (fun _ => rfl) ?_
        refine x_iadd k231_852 ?_
        refine x_top (fun z295 e_z295 => ?_)
        refine x_scr k231_853 hN ⟨by omega, by omega⟩ (fun z296 g_z296 e_z296 => ?_)
        unfold in32 at g_z296
        refine x_A k231_854 (fun _ => rfl) ?_
        refine x_A k231_855 (fun _ => rfl) ?_
        refine x_A k231_856 (fun _ => rfl) ?_
        refine x_iadd k231_857 ?_
        refine x_top (fun z297 e_z297 => ?_)
        refine x_scr k231_858 hN ⟨by omega, by omega⟩ (fun z298 g_z298 e_z298 => ?_)
        unfold in32 at g_z298
        refine x_A k231_859 (fun _ => rfl) ?_
        refine x_A k231_860 (fun _ => rfl) ?_
        refine x_A k231_861 (fun _ => rfl) ?_
        refine x_iadd k231_862 ?_
        refine x_top (fun z299 e_z299 => ?_)
        refine x_scr k231_863 hN ⟨by omega, by omega⟩ (fun z300 g_z300 e_z300 => ?_)
        unfold in32 at g_z300
        refine x_callV k231_864 (y := 111) (n := 3) (w0 := 0) (w1 := 3) (as := [vi z296, vi z298, vi z300]) (rest := []) (by decide +kernel) (q := 0) (nq := 12) (kq := 3) ⟨by decide, rfl⟩ rfl rfl rfl rfl (xe_mono (C_X10_met_0 s hG i_J z296 ⟨by omega, by omega⟩ z298 ⟨by omega, by omega⟩ z300 ⟨by omega, by omega⟩) ?_)
        rintro s302 v ⟨hG_s302, t_s302, z301, rfl, g_z301⟩
        have J_s302 : J s302 := J.fl i_J t_s302 (by decide)
        have T0_s302 : T0 s302 := T0.fl i_T0 t_s302 (by decide)
        have P1_s302 : P1 s302 := P1.fl i_P1 (hG 256 1).2 t_s302 (by decide)
        show xe (some (N, xs)) 231 867 [(0, .ref 2000), (1, .ref 0), (2, .ref 256), (3, vi x3)] [vi z301] s302 295 10442 _
        refine x_A k231_867 (fun _ => rfl) ?_
        refine x_A k231_868 (fun _ => rfl) ?_
        refine x_A k231_869 (fun _ => rfl) ?_
        refine x_A k231_870 (fun _ => rfl) ?_
        refine x_A k231_871 (fun _ => rfl) ?_
        refine x_iadd k231_872 ?_
        refine x_top (fun z303 e_z303 => ?_)
        refine x_scr k231_873 hN ⟨by omega, by omega⟩ (fun z304 g_z304 e_z304 => ?_)
        unfold in32 at g_z304
        have q_z304 : z304 = z296 := by rw [e_z304, e_z296, show z303 = z295 by omega]
        refine x_A k231_874 (fun _ => rfl) ?_
        refine x_A k231_875 (fun _ => rfl) ?_
        refine x_A k231_876 (fun _ => rfl) ?_
        refine x_iadd k231_877 ?_
        refine x_top (fun z305 e_z305 => ?_)
        refine x_scr k231_878 hN ⟨by omega, by omega⟩ (fun z306 g_z306 e_z306 => ?_)
        unfold in32 at g_z306
        have q_z306 : z306 = z298 := by rw [e_z306, e_z298, show z305 = z297 by omega]
        refine x_A k231_879 (fun _ => rfl) ?_
        refine x_A k231_880 (fun _ => rfl) ?_
        refine x_A k231_881 (fun _ => rfl) ?_
        refine x_iadd k231_882 ?_
        refine x_top (fun z307 e_z307 => ?_)
        refine x_scr k231_883 hN ⟨by omega, by omega⟩ (fun z308 g_z308 e_z308 => ?_)
        unfold in32 at g_z308
        have q_z308 : z308 = z300 := by rw [e_z308, e_z300, show z307 = z299 by omega]
        refine x_callV k231_884 (y := 204) (n := 3) (w0 := 0) (w1 := 3) (as := [vi z304, vi z306, vi z308]) (rest := []) (by decide +kernel) (q := 256) (nq := 62) (kq := 15) ⟨by decide, rfl⟩ rfl rfl rfl rfl (xe_mono (C_X11_met_256 s302 hG_s302 J_s302 z304 ⟨by omega, by omega⟩ z306 ⟨by omega, by omega⟩ z308 ⟨by omega, by omega⟩) ?_)
        rintro s310 v ⟨hG_s310, t_s310, z309, rfl, g_z309⟩
        have J_s310 : J s310 := J.fl J_s302 t_s310 (by decide)
        have T0_s310 : T0 s310 := T0.fl T0_s302 t_s310 (by decide)
        have P1_s310 : P1 s310 := P1.fl P1_s302 (hG_s302 256 1).2 t_s310 (by decide)
        show xe (some (N, xs)) 231 887 [(0, .ref 2000), (1, .ref 0), (2, .ref 256), (3, vi x3)] [vi z309] s310 295 10442 _
        refine x_A k231_887 (fun _ => rfl) ?_
        refine x_goto k231_888 (t := 1300) rfl ?_
        refine x_iinc k231_1300 (ls' := [(3, vi (x3 + 7)), (0, .ref 2000), (1, .ref 0), (2, .ref 256)]) rfl (by decide) rfl ?_
        refine x_goto k231_1303 (t := 18) rfl ?_
        refine x_ls (l := [(0, .ref 2000), (1, .ref 0), (2, .ref 256), (3, vi (x3 + 7))]) (show ([0, 1, 2, 3] : List Nat).Nodup from by decide) ⟨rfl, rfl, rfl, rfl, trivial⟩ ?_
        exact ih s310 (x3 + 7) hG_s310 trivial ⟨by omega, by omega⟩ J_s310 T0_s310 P1_s310  (by omega)
      · rw [c5]
        refine x_B k231_33 rfl (fun _ => rfl) (fun _ => rfl) (fun _ _ => rfl) ?_
        show xe (some (N, xs)) 231 891 [(0, .ref 2000), (1, .ref 0), (2, .ref 256), (3, vi x3)] [] s 295 10442 _
        refine x_A k231_891 (fun _ => rfl) ?_
        refine x_A k231_892 (fun _ => rfl) ?_
        refine x_A k231_893 (fun _ => rfl) ?_
        refine x_A k231_894 (fun _ => rfl) ?_
        refine x_iadd k231_895 ?_
        refine x_top (fun z311 e_z311 => ?_)
        refine x_scr k231_896 hN ⟨by omega, by omega⟩ (fun z312 g_z312 e_z312 => ?_)
        unfold in32 at g_z312
        refine x_A k231_897 (fun _ => rfl) ?_
        refine x_A k231_898 (fun _ => rfl) ?_
        refine x_A k231_899 (fun _ => rfl) ?_
        refine x_iadd k231_900 ?_
        refine x_top (fun z313 e_z313 => ?_)
        refine x_scr k231_901 hN ⟨by omega, by omega⟩ (fun z314 g_z314 e_z314 => ?_)
        unfold in32 at g_z314
        refine x_A k231_902 (fun _ => rfl) ?_
        refine x_A k231_903 (fun _ => rfl) ?_
        refine x_A k231_904 (fun _ => rfl) ?_
        refine x_iadd k231_905 ?_
        refine x_top (fun z315 e_z315 => ?_)
        refine x_scr k231_906 hN ⟨by omega, by omega⟩ (fun z316 g_z316 e_z316 => ?_)
        unfold in32 at g_z316
        refine x_A k231_907 (fun _ => rfl) ?_
        refine x_A k231_908 (fun _ => rfl) ?_
        refine x_A k231_909 (fun _ => rfl) ?_
        refine x_iadd k231_910 ?_
        refine x_top (fun z317 e_z317 => ?_)
        refine x_scr k231_911 hN ⟨by omega, by omega⟩ (fun z318 g_z318 e_z318 => ?_)
        unfold in32 at g_z318
        refine x_A k231_912 (fun _ => rfl) ?_
        refine x_A k231_913 (fun _ => rfl) ?_
        refine x_A k231_914 (fun _ => rfl) ?_
        refine x_iadd k231_915 ?_
        refine x_top (fun z319 e_z319 => ?_)
        refine x_scr k231_916 hN ⟨by omega, by omega⟩ (fun z320 g_z320 e_z320 => ?_)
        unfold in32 at g_z320
        refine x_callV k231_917 (y := 112) (n := 5) (w0 := 0) (w1 := 5) (as := [vi z312, vi z314, vi z316, vi z318, vi z320]) (rest := []) (by decide +kernel) (q := 0) (nq := 12) (kq := 3) ⟨by decide, rfl⟩ rfl rfl rfl rfl (xe_mono (C_X10_hands_0 s hG i_J z312 ⟨by omega, by omega⟩ z314 ⟨by omega, by omega⟩ z316 ⟨by omega, by omega⟩ z318 ⟨by omega, by omega⟩ z320 ⟨by omega, by omega⟩) ?_)
        rintro s322 v ⟨hG_s322, t_s322, z321, rfl, g_z321⟩
        have J_s322 : J s322 := J.fl i_J t_s322 (by decide)
        have T0_s322 : T0 s322 := T0.fl i_T0 t_s322 (by decide)
        have P1_s322 : P1 s322 := P1.fl i_P1 (hG 256 1).2 t_s322 (by decide)
        show xe (some (N, xs)) 231 920 [(0, .ref 2000), (1, .ref 0), (2, .ref 256), (3, vi x3)] [vi z321] s322 295 10442 _
        refine x_A k231_920 (fun _ => rfl) ?_
        refine x_A k231_921 (fun _ => rfl) ?_
        refine x_A k231_922 (fun _ => rfl) ?_
        refine x_A k231_923 (fun _ => rfl) ?_
        refine x_A k231_924 (fun _ => rfl) ?_
        refine x_iadd k231_925 ?_
        refine x_top (fun z323 e_z323 => ?_)
        refine x_scr k231_926 hN ⟨by omega, by omega⟩ (fun z324 g_z324 e_z324 => ?_)
        unfold in32 at g_z324
        have q_z324 : z324 = z312 := by rw [e_z324, e_z312, show z323 = z311 by omega]
        refine x_A k231_927 (fun _ => rfl) ?_
        refine x_A k231_928 (fun _ => rfl) ?_
        refine x_A k231_929 (fun _ => rfl) ?_
        refine x_iadd k231_930 ?_
        refine x_top (fun z325 e_z325 => ?_)
        refine x_scr k231_931 hN ⟨by omega, by omega⟩ (fun z326 g_z326 e_z326 => ?_)
        unfold in32 at g_z326
        have q_z326 : z326 = z314 := by rw [e_z326, e_z314, show z325 = z313 by omega]
        refine x_A k231_932 (fun _ => rfl) ?_
        refine x_A k231_933 (fun _ => rfl) ?_
        refine x_A k231_934 (fun _ => rfl) ?_
        refine x_iadd k231_935 ?_
        refine x_top (fun z327 e_z327 => ?_)
        refine x_scr k231_936 hN ⟨by omega, by omega⟩ (fun z328 g_z328 e_z328 => ?_)
        unfold in32 at g_z328
        have q_z328 : z328 = z316 := by rw [e_z328, e_z316, show z327 = z315 by omega]
        refine x_A k231_937 (fun _ => rfl) ?_
        refine x_A k231_938 (fun _ => rfl) ?_
        refine x_A k231_939 (fun _ => rfl) ?_
        refine x_iadd k231_940 ?_
        refine x_top (fun z329 e_z329 => ?_)
        refine x_scr k231_941 hN ⟨by omega, by omega⟩ (fun z330 g_z330 e_z330 => ?_)
        unfold in32 at g_z330
        have q_z330 : z330 = z318 := by rw [e_z330, e_z318, show z329 = z317 by omega]
        refine x_A k231_942 (fun _ => rfl) ?_
        refine x_A k231_943 (fun _ => rfl) ?_
        refine x_A k231_944 (fun _ => rfl) ?_
        refine x_iadd k231_945 ?_
        refine x_top (fun z331 e_z331 => ?_)
        refine x_scr k231_946 hN ⟨by omega, by omega⟩ (fun z332 g_z332 e_z332 => ?_)
        unfold in32 at g_z332
        have q_z332 : z332 = z320 := by rw [e_z332, e_z320, show z331 = z319 by omega]
        refine x_callV k231_947 (y := 206) (n := 5) (w0 := 0) (w1 := 5) (as := [vi z324, vi z326, vi z328, vi z330, vi z332]) (rest := []) (by decide +kernel) (q := 256) (nq := 62) (kq := 15) ⟨by decide, rfl⟩ rfl rfl rfl rfl (xe_mono (C_X11_hands_256 s322 hG_s322 J_s322 z324 ⟨by omega, by omega⟩ z326 ⟨by omega, by omega⟩ z328 ⟨by omega, by omega⟩ z330 ⟨by omega, by omega⟩ z332 ⟨by omega, by omega⟩) ?_)
        rintro s334 v ⟨hG_s334, t_s334, z333, rfl, g_z333⟩
        have J_s334 : J s334 := J.fl J_s322 t_s334 (by decide)
        have T0_s334 : T0 s334 := T0.fl T0_s322 t_s334 (by decide)
        have P1_s334 : P1 s334 := P1.fl P1_s322 (hG_s322 256 1).2 t_s334 (by decide)
        show xe (some (N, xs)) 231 950 [(0, .ref 2000), (1, .ref 0), (2, .ref 256), (3, vi x3)] [vi z333] s334 295 10442 _
        refine x_A k231_950 (fun _ => rfl) ?_
        refine x_goto k231_951 (t := 1300) rfl ?_
        refine x_iinc k231_1300 (ls' := [(3, vi (x3 + 7)), (0, .ref 2000), (1, .ref 0), (2, .ref 256)]) rfl (by decide) rfl ?_
        refine x_goto k231_1303 (t := 18) rfl ?_
        refine x_ls (l := [(0, .ref 2000), (1, .ref 0), (2, .ref 256), (3, vi (x3 + 7))]) (show ([0, 1, 2, 3] : List Nat).Nodup from by decide) ⟨rfl, rfl, rfl, rfl, trivial⟩ ?_
        exact ih s334 (x3 + 7) hG_s334 trivial ⟨by omega, by omega⟩ J_s334 T0_s334 P1_s334  (by omega)
      · rw [c5]
        refine x_B k231_33 rfl (fun _ => rfl) (fun _ => rfl) (fun _ _ => rfl) ?_
        show xe (some (N, xs)) 231 954 [(0, .ref 2000), (1, .ref 0), (2, .ref 256), (3, vi x3)] [] s 295 10442 _
        refine x_A k231_954 (fun _ => rfl) ?_
        refine x_A k231_955 (fun _ => rfl) ?_
        refine x_A k231_956 (fun _ => rfl) ?_
        refine x_A k231_957 (fun _ => rfl) ?_
        refine x_iadd k231_958 ?_
        refine x_top (fun z335 e_z335 => ?_)
        refine x_scr k231_959 hN ⟨by omega, by omega⟩ (fun z336 g_z336 e_z336 => ?_)
        unfold in32 at g_z336
        refine x_A k231_960 (fun _ => rfl) ?_
        refine x_A k231_961 (fun _ => rfl) ?_
        refine x_A k231_962 (fun _ => rfl) ?_
        refine x_iadd k231_963 ?_
        refine x_top (fun z337 e_z337 => ?_)
        refine x_scr k231_964 hN ⟨by omega, by omega⟩ (fun z338 g_z338 e_z338 => ?_)
        unfold in32 at g_z338
        refine x_A k231_965 (fun _ => rfl) ?_
        refine x_A k231_966 (fun _ => rfl) ?_
        refine x_A k231_967 (fun _ => rfl) ?_
        refine x_iadd k231_968 ?_
        refine x_top (fun z339 e_z339 => ?_)
        refine x_scr k231_969 hN ⟨by omega, by omega⟩ (fun z340 g_z340 e_z340 => ?_)
        unfold in32 at g_z340
        refine x_A k231_970 (fun _ => rfl) ?_
        refine x_A k231_971 (fun _ => rfl) ?_
        refine x_A k231_972 (fun _ => rfl) ?_
        refine x_iadd k231_973 ?_
        refine x_top (fun z341 e_z341 => ?_)
        refine x_scr k231_974 hN ⟨by omega, by omega⟩ (fun z342 g_z342 e_z342 => ?_)
        unfold in32 at g_z342
        refine x_A k231_975 (fun _ => rfl) ?_
        refine x_A k231_976 (fun _ => rfl) ?_
        refine x_A k231_977 (fun _ => rfl) ?_
        refine x_iadd k231_978 ?_
        refine x_top (fun z343 e_z343 => ?_)
        refine x_scr k231_979 hN ⟨by omega, by omega⟩ (fun z344 g_z344 e_z344 => ?_)
        unfold in32 at g_z344
        refine x_A k231_980 (fun _ => rfl) ?_
        refine x_A k231_981 (fun _ => rfl) ?_
        refine x_bipush k231_982 (by decide +kernel) ?_
        refine x_iadd k231_984 ?_
        refine x_top (fun z345 e_z345 => ?_)
        refine x_scr k231_985 hN ⟨by omega, by omega⟩ (fun z346 g_z346 e_z346 => ?_)
        unfold in32 at g_z346
        refine x_callV k231_986 (y := 113) (n := 6) (w0 := 0) (w1 := 6) (as := [vi z336, vi z338, vi z340, vi z342, vi z344, vi z346]) (rest := []) (by decide +kernel) (q := 0) (nq := 12) (kq := 3) ⟨by decide, rfl⟩ rfl rfl rfl rfl (xe_mono (C_X10_together_0 s hG i_J z336 ⟨by omega, by omega⟩ z338 ⟨by omega, by omega⟩ z340 ⟨by omega, by omega⟩ z342 ⟨by omega, by omega⟩ z344 ⟨by omega, by omega⟩ z346 ⟨by omega, by omega⟩) ?_)
        rintro s348 v ⟨hG_s348, t_s348, z347, rfl, g_z347⟩
        have J_s348 : J s348 := J.fl i_J t_s348 (by decide)
        have T0_s348 : T0 s348 := T0.fl i_T0 t_s348 (by decide)
        have P1_s348 : P1 s348 := P1.fl i_P1 (hG 256 1).2 t_s348 (by decide)
        show xe (some (N, xs)) 231 989 [(0, .ref 2000), (1, .ref 0), (2, .ref 256), (3, vi x3)] [vi z347] s348 295 10442 _
        refine x_A k231_989 (fun _ => rfl) ?_
        refine x_A k231_990 (fun _ => rfl) ?_
        refine x_A k231_991 (fun _ => rfl) ?_
        refine x_A k231_992 (fun _ => rfl) ?_
        refine x_A k231_993 (fun _ => rfl) ?_
        refine x_iadd k231_994 ?_
        refine x_top (fun z349 e_z349 => ?_)
        refine x_scr k231_995 hN ⟨by omega, by omega⟩ (fun z350 g_z350 e_z350 => ?_)
        unfold in32 at g_z350
        have q_z350 : z350 = z336 := by rw [e_z350, e_z336, show z349 = z335 by omega]
        refine x_A k231_996 (fun _ => rfl) ?_
        refine x_A k231_997 (fun _ => rfl) ?_
        refine x_A k231_998 (fun _ => rfl) ?_
        refine x_iadd k231_999 ?_
        refine x_top (fun z351 e_z351 => ?_)
        refine x_scr k231_1000 hN ⟨by omega, by omega⟩ (fun z352 g_z352 e_z352 => ?_)
        unfold in32 at g_z352
        have q_z352 : z352 = z338 := by rw [e_z352, e_z338, show z351 = z337 by omega]
        refine x_A k231_1001 (fun _ => rfl) ?_
        refine x_A k231_1002 (fun _ => rfl) ?_
        refine x_A k231_1003 (fun _ => rfl) ?_
        refine x_iadd k231_1004 ?_
        refine x_top (fun z353 e_z353 => ?_)
        refine x_scr k231_1005 hN ⟨by omega, by omega⟩ (fun z354 g_z354 e_z354 => ?_)
        unfold in32 at g_z354
        have q_z354 : z354 = z340 := by rw [e_z354, e_z340, show z353 = z339 by omega]
        refine x_A k231_1006 (fun _ => rfl) ?_
        refine x_A k231_1007 (fun _ => rfl) ?_
        refine x_A k231_1008 (fun _ => rfl) ?_
        refine x_iadd k231_1009 ?_
        refine x_top (fun z355 e_z355 => ?_)
        refine x_scr k231_1010 hN ⟨by omega, by omega⟩ (fun z356 g_z356 e_z356 => ?_)
        unfold in32 at g_z356
        have q_z356 : z356 = z342 := by rw [e_z356, e_z342, show z355 = z341 by omega]
        refine x_A k231_1011 (fun _ => rfl) ?_
        refine x_A k231_1012 (fun _ => rfl) ?_
        refine x_A k231_1013 (fun _ => rfl) ?_
        refine x_iadd k231_1014 ?_
        refine x_top (fun z357 e_z357 => ?_)
        refine x_scr k231_1015 hN ⟨by omega, by omega⟩ (fun z358 g_z358 e_z358 => ?_)
        unfold in32 at g_z358
        have q_z358 : z358 = z344 := by rw [e_z358, e_z344, show z357 = z343 by omega]
        refine x_A k231_1016 (fun _ => rfl) ?_
        refine x_A k231_1017 (fun _ => rfl) ?_
        refine x_bipush k231_1018 (by decide +kernel) ?_
        refine x_iadd k231_1020 ?_
        refine x_top (fun z359 e_z359 => ?_)
        refine x_scr k231_1021 hN ⟨by omega, by omega⟩ (fun z360 g_z360 e_z360 => ?_)
        unfold in32 at g_z360
        have q_z360 : z360 = z346 := by rw [e_z360, e_z346, show z359 = z345 by omega]
        refine x_callV k231_1022 (y := 208) (n := 6) (w0 := 0) (w1 := 6) (as := [vi z350, vi z352, vi z354, vi z356, vi z358, vi z360]) (rest := []) (by decide +kernel) (q := 256) (nq := 62) (kq := 15) ⟨by decide, rfl⟩ rfl rfl rfl rfl (xe_mono (C_X11_together_256 s348 hG_s348 J_s348 z350 ⟨by omega, by omega⟩ z352 ⟨by omega, by omega⟩ z354 ⟨by omega, by omega⟩ z356 ⟨by omega, by omega⟩ z358 ⟨by omega, by omega⟩ z360 ⟨by omega, by omega⟩) ?_)
        rintro s362 v ⟨hG_s362, t_s362, z361, rfl, g_z361⟩
        have J_s362 : J s362 := J.fl J_s348 t_s362 (by decide)
        have T0_s362 : T0 s362 := T0.fl T0_s348 t_s362 (by decide)
        have P1_s362 : P1 s362 := P1.fl P1_s348 (hG_s348 256 1).2 t_s362 (by decide)
        show xe (some (N, xs)) 231 1025 [(0, .ref 2000), (1, .ref 0), (2, .ref 256), (3, vi x3)] [vi z361] s362 295 10442 _
        refine x_A k231_1025 (fun _ => rfl) ?_
        refine x_goto k231_1026 (t := 1300) rfl ?_
        refine x_iinc k231_1300 (ls' := [(3, vi (x3 + 7)), (0, .ref 2000), (1, .ref 0), (2, .ref 256)]) rfl (by decide) rfl ?_
        refine x_goto k231_1303 (t := 18) rfl ?_
        refine x_ls (l := [(0, .ref 2000), (1, .ref 0), (2, .ref 256), (3, vi (x3 + 7))]) (show ([0, 1, 2, 3] : List Nat).Nodup from by decide) ⟨rfl, rfl, rfl, rfl, trivial⟩ ?_
        exact ih s362 (x3 + 7) hG_s362 trivial ⟨by omega, by omega⟩ J_s362 T0_s362 P1_s362  (by omega)
      · rw [c5]
        refine x_B k231_33 rfl (fun _ => rfl) (fun _ => rfl) (fun _ _ => rfl) ?_
        show xe (some (N, xs)) 231 1029 [(0, .ref 2000), (1, .ref 0), (2, .ref 256), (3, vi x3)] [] s 295 10442 _
        refine x_A k231_1029 (fun _ => rfl) ?_
        refine x_A k231_1030 (fun _ => rfl) ?_
        refine x_A k231_1031 (fun _ => rfl) ?_
        refine x_A k231_1032 (fun _ => rfl) ?_
        refine x_iadd k231_1033 ?_
        refine x_top (fun z363 e_z363 => ?_)
        refine x_scr k231_1034 hN ⟨by omega, by omega⟩ (fun z364 g_z364 e_z364 => ?_)
        unfold in32 at g_z364
        refine x_A k231_1035 (fun _ => rfl) ?_
        refine x_A k231_1036 (fun _ => rfl) ?_
        refine x_A k231_1037 (fun _ => rfl) ?_
        refine x_iadd k231_1038 ?_
        refine x_top (fun z365 e_z365 => ?_)
        refine x_scr k231_1039 hN ⟨by omega, by omega⟩ (fun z366 g_z366 e_z366 => ?_)
        unfold in32 at g_z366
        refine x_A k231_1040 (fun _ => rfl) ?_
        refine x_A k231_1041 (fun _ => rfl) ?_
        refine x_A k231_1042 (fun _ => rfl) ?_
        refine x_iadd k231_1043 ?_
        refine x_top (fun z367 e_z367 => ?_)
        refine x_scr k231_1044 hN ⟨by omega, by omega⟩ (fun z368 g_z368 e_z368 => ?_)
        unfold in32 at g_z368
        refine x_callV k231_1045 (y := 114) (n := 3) (w0 := 0) (w1 := 3) (as := [vi z364, vi z366, vi z368]) (rest := []) (by decide +kernel) (q := 0) (nq := 12) (kq := 3) ⟨by decide, rfl⟩ rfl rfl rfl rfl (xe_mono (C_X10_along_0 s hG i_J z364 ⟨by omega, by omega⟩ z366 ⟨by omega, by omega⟩ z368 ⟨by omega, by omega⟩) ?_)
        rintro s370 v ⟨hG_s370, t_s370, z369, rfl, g_z369⟩
        have J_s370 : J s370 := J.fl i_J t_s370 (by decide)
        have T0_s370 : T0 s370 := T0.fl i_T0 t_s370 (by decide)
        have P1_s370 : P1 s370 := P1.fl i_P1 (hG 256 1).2 t_s370 (by decide)
        show xe (some (N, xs)) 231 1048 [(0, .ref 2000), (1, .ref 0), (2, .ref 256), (3, vi x3)] [vi z369] s370 295 10442 _
        refine x_A k231_1048 (fun _ => rfl) ?_
        refine x_A k231_1049 (fun _ => rfl) ?_
        refine x_A k231_1050 (fun _ => rfl) ?_
        refine x_A k231_1051 (fun _ => rfl) ?_
        refine x_A k231_1052 (fun _ => rfl) ?_
        refine x_iadd k231_1053 ?_
        refine x_top (fun z371 e_z371 => ?_)
        refine x_scr k231_1054 hN ⟨by omega, by omega⟩ (fun z372 g_z372 e_z372 => ?_)
        unfold in32 at g_z372
        have q_z372 : z372 = z364 := by rw [e_z372, e_z364, show z371 = z363 by omega]
        refine x_A k231_1055 (fun _ => rfl) ?_
        refine x_A k231_1056 (fun _ => rfl) ?_
        refine x_A k231_1057 (fun _ => rfl) ?_
        refine x_iadd k231_1058 ?_
        refine x_top (fun z373 e_z373 => ?_)
        refine x_scr k231_1059 hN ⟨by omega, by omega⟩ (fun z374 g_z374 e_z374 => ?_)
        unfold in32 at g_z374
        have q_z374 : z374 = z366 := by rw [e_z374, e_z366, show z373 = z365 by omega]
        refine x_A k231_1060 (fun _ => rfl) ?_
        refine x_A k231_1061 (fun _ => rfl) ?_
        refine x_A k231_1062 (fun _ => rfl) ?_
        refine x_iadd k231_1063 ?_
        refine x_top (fun z375 e_z375 => ?_)
        refine x_scr k231_1064 hN ⟨by omega, by omega⟩ (fun z376 g_z376 e_z376 => ?_)
        unfold in32 at g_z376
        have q_z376 : z376 = z368 := by rw [e_z376, e_z368, show z375 = z367 by omega]
        refine x_callV k231_1065 (y := 211) (n := 3) (w0 := 0) (w1 := 3) (as := [vi z372, vi z374, vi z376]) (rest := []) (by decide +kernel) (q := 256) (nq := 62) (kq := 15) ⟨by decide, rfl⟩ rfl rfl rfl rfl (xe_mono (C_X11_along_256 s370 hG_s370 J_s370 z372 ⟨by omega, by omega⟩ z374 ⟨by omega, by omega⟩ z376 ⟨by omega, by omega⟩) ?_)
        rintro s378 v ⟨hG_s378, t_s378, z377, rfl, g_z377⟩
        have J_s378 : J s378 := J.fl J_s370 t_s378 (by decide)
        have T0_s378 : T0 s378 := T0.fl T0_s370 t_s378 (by decide)
        have P1_s378 : P1 s378 := P1.fl P1_s370 (hG_s370 256 1).2 t_s378 (by decide)
        show xe (some (N, xs)) 231 1068 [(0, .ref 2000), (1, .ref 0), (2, .ref 256), (3, vi x3)] [vi z377] s378 295 10442 _
        refine x_A k231_1068 (fun _ => rfl) ?_
        refine x_goto k231_1069 (t := 1300) rfl ?_
        refine x_iinc k231_1300 (ls' := [(3, vi (x3 + 7)), (0, .ref 2000), (1, .ref 0), (2, .ref 256)]) rfl (by decide) rfl ?_
        refine x_goto k231_1303 (t := 18) rfl ?_
        refine x_ls (l := [(0, .ref 2000), (1, .ref 0), (2, .ref 256), (3, vi (x3 + 7))]) (show ([0, 1, 2, 3] : List Nat).Nodup from by decide) ⟨rfl, rfl, rfl, rfl, trivial⟩ ?_
        exact ih s378 (x3 + 7) hG_s378 trivial ⟨by omega, by omega⟩ J_s378 T0_s378 P1_s378  (by omega)
      · rw [c5]
        refine x_B k231_33 rfl (fun _ => rfl) (fun _ => rfl) (fun _ _ => rfl) ?_
        show xe (some (N, xs)) 231 1072 [(0, .ref 2000), (1, .ref 0), (2, .ref 256), (3, vi x3)] [] s 295 10442 _
        refine x_A k231_1072 (fun _ => rfl) ?_
        refine x_A k231_1073 (fun _ => rfl) ?_
        refine x_A k231_1074 (fun _ => rfl) ?_
        refine x_A k231_1075 (fun _ => rfl) ?_
        refine x_iadd k231_1076 ?_
        refine x_top (fun z379 e_z379 => ?_)
        refine x_scr k231_1077 hN ⟨by omega, by omega⟩ (fun z380 g_z380 e_z380 => ?_)
        unfold in32 at g_z380
        refine x_A k231_1078 (fun _ => rfl) ?_
        refine x_A k231_1079 (fun _ => rfl) ?_
        refine x_A k231_1080 (fun _ => rfl) ?_
        refine x_iadd k231_1081 ?_
        refine x_top (fun z381 e_z381 => ?_)
        refine x_scr k231_1082 hN ⟨by omega, by omega⟩ (fun z382 g_z382 e_z382 => ?_)
        unfold in32 at g_z382
        refine x_A k231_1083 (fun _ => rfl) ?_
        refine x_A k231_1084 (fun _ => rfl) ?_
        refine x_A k231_1085 (fun _ => rfl) ?_
        refine x_iadd k231_1086 ?_
        refine x_top (fun z383 e_z383 => ?_)
        refine x_scr k231_1087 hN ⟨by omega, by omega⟩ (fun z384 g_z384 e_z384 => ?_)
        unfold in32 at g_z384
        refine x_callV k231_1088 (y := 115) (n := 3) (w0 := 0) (w1 := 3) (as := [vi z380, vi z382, vi z384]) (rest := []) (by decide +kernel) (q := 0) (nq := 12) (kq := 3) ⟨by decide, rfl⟩ rfl rfl rfl rfl (xe_mono (C_X10_likely_0 s hG i_J z380 ⟨by omega, by omega⟩ z382 ⟨by omega, by omega⟩ z384 ⟨by omega, by omega⟩) ?_)
        rintro s386 v ⟨hG_s386, t_s386, z385, rfl, g_z385⟩
        have J_s386 : J s386 := J.fl i_J t_s386 (by decide)
        have T0_s386 : T0 s386 := T0.fl i_T0 t_s386 (by decide)
        have P1_s386 : P1 s386 := P1.fl i_P1 (hG 256 1).2 t_s386 (by decide)
        show xe (some (N, xs)) 231 1091 [(0, .ref 2000), (1, .ref 0), (2, .ref 256), (3, vi x3)] [vi z385] s386 295 10442 _
        refine x_A k231_1091 (fun _ => rfl) ?_
        refine x_A k231_1092 (fun _ => rfl) ?_
        refine x_A k231_1093 (fun _ => rfl) ?_
        refine x_A k231_1094 (fun _ => rfl) ?_
        refine x_A k231_1095 (fun _ => rfl) ?_
        refine x_iadd k231_1096 ?_
        refine x_top (fun z387 e_z387 => ?_)
        refine x_scr k231_1097 hN ⟨by omega, by omega⟩ (fun z388 g_z388 e_z388 => ?_)
        unfold in32 at g_z388
        have q_z388 : z388 = z380 := by rw [e_z388, e_z380, show z387 = z379 by omega]
        refine x_A k231_1098 (fun _ => rfl) ?_
        refine x_A k231_1099 (fun _ => rfl) ?_
        refine x_A k231_1100 (fun _ => rfl) ?_
        refine x_iadd k231_1101 ?_
        refine x_top (fun z389 e_z389 => ?_)
        refine x_scr k231_1102 hN ⟨by omega, by omega⟩ (fun z390 g_z390 e_z390 => ?_)
        unfold in32 at g_z390
        have q_z390 : z390 = z382 := by rw [e_z390, e_z382, show z389 = z381 by omega]
        refine x_A k231_1103 (fun _ => rfl) ?_
        refine x_A k231_1104 (fun _ => rfl) ?_
        refine x_A k231_1105 (fun _ => rfl) ?_
        refine x_iadd k231_1106 ?_
        refine x_top (fun z391 e_z391 => ?_)
        refine x_scr k231_1107 hN ⟨by omega, by omega⟩ (fun z392 g_z392 e_z392 => ?_)
        unfold in32 at g_z392
        have q_z392 : z392 = z384 := by rw [e_z392, e_z384, show z391 = z383 by omega]
        refine x_callV k231_1108 (y := 212) (n := 3) (w0 := 0) (w1 := 3) (as := [vi z388, vi z390, vi z392]) (rest := []) (by decide +kernel) (q := 256) (nq := 62) (kq := 15) ⟨by decide, rfl⟩ rfl rfl rfl rfl (xe_mono (C_X11_likely_256 s386 hG_s386 J_s386 z388 ⟨by omega, by omega⟩ z390 ⟨by omega, by omega⟩ z392 ⟨by omega, by omega⟩) ?_)
        rintro s394 v ⟨hG_s394, t_s394, z393, rfl, g_z393⟩
        have J_s394 : J s394 := J.fl J_s386 t_s394 (by decide)
        have T0_s394 : T0 s394 := T0.fl T0_s386 t_s394 (by decide)
        have P1_s394 : P1 s394 := P1.fl P1_s386 (hG_s386 256 1).2 t_s394 (by decide)
        show xe (some (N, xs)) 231 1111 [(0, .ref 2000), (1, .ref 0), (2, .ref 256), (3, vi x3)] [vi z393] s394 295 10442 _
        refine x_A k231_1111 (fun _ => rfl) ?_
        refine x_goto k231_1112 (t := 1300) rfl ?_
        refine x_iinc k231_1300 (ls' := [(3, vi (x3 + 7)), (0, .ref 2000), (1, .ref 0), (2, .ref 256)]) rfl (by decide) rfl ?_
        refine x_goto k231_1303 (t := 18) rfl ?_
        refine x_ls (l := [(0, .ref 2000), (1, .ref 0), (2, .ref 256), (3, vi (x3 + 7))]) (show ([0, 1, 2, 3] : List Nat).Nodup from by decide) ⟨rfl, rfl, rfl, rfl, trivial⟩ ?_
        exact ih s394 (x3 + 7) hG_s394 trivial ⟨by omega, by omega⟩ J_s394 T0_s394 P1_s394  (by omega)
      · rw [c5]
        refine x_B k231_33 rfl (fun _ => rfl) (fun _ => rfl) (fun _ _ => rfl) ?_
        show xe (some (N, xs)) 231 1115 [(0, .ref 2000), (1, .ref 0), (2, .ref 256), (3, vi x3)] [] s 295 10442 _
        refine x_A k231_1115 (fun _ => rfl) ?_
        refine x_A k231_1116 (fun _ => rfl) ?_
        refine x_A k231_1117 (fun _ => rfl) ?_
        refine x_A k231_1118 (fun _ => rfl) ?_
        refine x_iadd k231_1119 ?_
        refine x_top (fun z395 e_z395 => ?_)
        refine x_scr k231_1120 hN ⟨by omega, by omega⟩ (fun z396 g_z396 e_z396 => ?_)
        unfold in32 at g_z396
        refine x_A k231_1121 (fun _ => rfl) ?_
        refine x_A k231_1122 (fun _ => rfl) ?_
        refine x_A k231_1123 (fun _ => rfl) ?_
        refine x_iadd k231_1124 ?_
        refine x_top (fun z397 e_z397 => ?_)
        refine x_scr k231_1125 hN ⟨by omega, by omega⟩ (fun z398 g_z398 e_z398 => ?_)
        unfold in32 at g_z398
        refine x_callV k231_1126 (y := 116) (n := 2) (w0 := 0) (w1 := 2) (as := [vi z396, vi z398]) (rest := []) (by decide +kernel) (q := 0) (nq := 12) (kq := 3) ⟨by decide, rfl⟩ rfl rfl rfl rfl (xe_mono (C_X10_lacking_0 s hG i_J z396 ⟨by omega, by omega⟩ z398 ⟨by omega, by omega⟩) ?_)
        rintro s400 v ⟨hG_s400, t_s400, z399, rfl, b_z399⟩
        have J_s400 : J s400 := J.fl i_J t_s400 (by decide)
        have T0_s400 : T0 s400 := T0.fl i_T0 t_s400 (by decide)
        have P1_s400 : P1 s400 := P1.fl i_P1 (hG 256 1).2 t_s400 (by decide)
        show xe (some (N, xs)) 231 1129 [(0, .ref 2000), (1, .ref 0), (2, .ref 256), (3, vi x3)] [vj z399] s400 295 10442 _
        refine x_A k231_1129 (fun _ => rfl) ?_
        refine x_A k231_1130 (fun _ => rfl) ?_
        refine x_A k231_1131 (fun _ => rfl) ?_
        refine x_A k231_1132 (fun _ => rfl) ?_
        refine x_A k231_1133 (fun _ => rfl) ?_
        refine x_iadd k231_1134 ?_
        refine x_top (fun z401 e_z401 => ?_)
        refine x_scr k231_1135 hN ⟨by omega, by omega⟩ (fun z402 g_z402 e_z402 => ?_)
        unfold in32 at g_z402
        have q_z402 : z402 = z396 := by rw [e_z402, e_z396, show z401 = z395 by omega]
        refine x_A k231_1136 (fun _ => rfl) ?_
        refine x_A k231_1137 (fun _ => rfl) ?_
        refine x_A k231_1138 (fun _ => rfl) ?_
        refine x_iadd k231_1139 ?_
        refine x_top (fun z403 e_z403 => ?_)
        refine x_scr k231_1140 hN ⟨by omega, by omega⟩ (fun z404 g_z404 e_z404 => ?_)
        unfold in32 at g_z404
        have q_z404 : z404 = z398 := by rw [e_z404, e_z398, show z403 = z397 by omega]
        refine x_callV k231_1141 (y := 214) (n := 2) (w0 := 0) (w1 := 2) (as := [vi z402, vi z404]) (rest := []) (by decide +kernel) (q := 256) (nq := 62) (kq := 15) ⟨by decide, rfl⟩ rfl rfl rfl rfl (xe_mono (C_X11_lacking_256 s400 hG_s400 J_s400 z402 ⟨by omega, by omega⟩ z404 ⟨by omega, by omega⟩) ?_)
        rintro s406 v ⟨hG_s406, t_s406, z405, rfl, b_z405⟩
        have J_s406 : J s406 := J.fl J_s400 t_s406 (by decide)
        have T0_s406 : T0 s406 := T0.fl T0_s400 t_s406 (by decide)
        have P1_s406 : P1 s406 := P1.fl P1_s400 (hG_s400 256 1).2 t_s406 (by decide)
        show xe (some (N, xs)) 231 1144 [(0, .ref 2000), (1, .ref 0), (2, .ref 256), (3, vi x3)] [vj z405] s406 295 10442 _
        refine x_A k231_1144 (fun _ => rfl) ?_
        refine x_goto k231_1145 (t := 1300) rfl ?_
        refine x_iinc k231_1300 (ls' := [(3, vi (x3 + 7)), (0, .ref 2000), (1, .ref 0), (2, .ref 256)]) rfl (by decide) rfl ?_
        refine x_goto k231_1303 (t := 18) rfl ?_
        refine x_ls (l := [(0, .ref 2000), (1, .ref 0), (2, .ref 256), (3, vi (x3 + 7))]) (show ([0, 1, 2, 3] : List Nat).Nodup from by decide) ⟨rfl, rfl, rfl, rfl, trivial⟩ ?_
        exact ih s406 (x3 + 7) hG_s406 trivial ⟨by omega, by omega⟩ J_s406 T0_s406 P1_s406  (by omega)
      · rw [c5]
        refine x_B k231_33 rfl (fun _ => rfl) (fun _ => rfl) (fun _ _ => rfl) ?_
        show xe (some (N, xs)) 231 1148 [(0, .ref 2000), (1, .ref 0), (2, .ref 256), (3, vi x3)] [] s 295 10442 _
        refine x_A k231_1148 (fun _ => rfl) ?_
        refine x_callV k231_1149 (y := 117) (n := 0) (w0 := 0) (w1 := 0) (as := []) (rest := []) (by decide +kernel) (q := 0) (nq := 12) (kq := 3) ⟨by decide, rfl⟩ rfl rfl rfl rfl (xe_mono (C_X10_story_0 s hG) ?_)
        rintro s408 v ⟨hG_s408, t_s408, z407, rfl, g_z407⟩
        have J_s408 : J s408 := J.fl i_J t_s408 (by decide)
        have T0_s408 : T0 s408 := T0.fl i_T0 t_s408 (by decide)
        have P1_s408 : P1 s408 := P1.fl i_P1 (hG 256 1).2 t_s408 (by decide)
        show xe (some (N, xs)) 231 1152 [(0, .ref 2000), (1, .ref 0), (2, .ref 256), (3, vi x3)] [vi z407] s408 295 10442 _
        refine x_A k231_1152 (fun _ => rfl) ?_
        refine x_A k231_1153 (fun _ => rfl) ?_
        refine x_callV k231_1154 (y := 215) (n := 0) (w0 := 0) (w1 := 0) (as := []) (rest := []) (by decide +kernel) (q := 256) (nq := 62) (kq := 15) ⟨by decide, rfl⟩ rfl rfl rfl rfl (xe_mono (C_X11_story_256 s408 hG_s408) ?_)
        rintro s410 v ⟨hG_s410, t_s410, z409, rfl, g_z409⟩
        have J_s410 : J s410 := J.fl J_s408 t_s410 (by decide)
        have T0_s410 : T0 s410 := T0.fl T0_s408 t_s410 (by decide)
        have P1_s410 : P1 s410 := P1.fl P1_s408 (hG_s408 256 1).2 t_s410 (by decide)
        show xe (some (N, xs)) 231 1157 [(0, .ref 2000), (1, .ref 0), (2, .ref 256), (3, vi x3)] [vi z409] s410 295 10442 _
        refine x_A k231_1157 (fun _ => rfl) ?_
        refine x_goto k231_1158 (t := 1300) rfl ?_
        refine x_iinc k231_1300 (ls' := [(3, vi (x3 + 7)), (0, .ref 2000), (1, .ref 0), (2, .ref 256)]) rfl (by decide) rfl ?_
        refine x_goto k231_1303 (t := 18) rfl ?_
        refine x_ls (l := [(0, .ref 2000), (1, .ref 0), (2, .ref 256), (3, vi (x3 + 7))]) (show ([0, 1, 2, 3] : List Nat).Nodup from by decide) ⟨rfl, rfl, rfl, rfl, trivial⟩ ?_
        exact ih s410 (x3 + 7) hG_s410 trivial ⟨by omega, by omega⟩ J_s410 T0_s410 P1_s410  (by omega)
      · rw [c5]
        refine x_B k231_33 rfl (fun _ => rfl) (fun _ => rfl) (fun _ _ => rfl) ?_
        show xe (some (N, xs)) 231 1161 [(0, .ref 2000), (1, .ref 0), (2, .ref 256), (3, vi x3)] [] s 295 10442 _
        refine x_A k231_1161 (fun _ => rfl) ?_
        refine x_A k231_1162 (fun _ => rfl) ?_
        refine x_A k231_1163 (fun _ => rfl) ?_
        refine x_A k231_1164 (fun _ => rfl) ?_
        refine x_iadd k231_1165 ?_
        refine x_top (fun z411 e_z411 => ?_)
        refine x_scr k231_1166 hN ⟨by omega, by omega⟩ (fun z412 g_z412 e_z412 => ?_)
        unfold in32 at g_z412
        refine x_A k231_1167 (fun _ => rfl) ?_
        refine x_A k231_1168 (fun _ => rfl) ?_
        refine x_A k231_1169 (fun _ => rfl) ?_
        refine x_iadd k231_1170 ?_
        refine x_top (fun z413 e_z413 => ?_)
        refine x_scr k231_1171 hN ⟨by omega, by omega⟩ (fun z414 g_z414 e_z414 => ?_)
        unfold in32 at g_z414
        refine x_A k231_1172 (fun _ => rfl) ?_
        refine x_A k231_1173 (fun _ => rfl) ?_
        refine x_A k231_1174 (fun _ => rfl) ?_
        refine x_iadd k231_1175 ?_
        refine x_top (fun z415 e_z415 => ?_)
        refine x_scr k231_1176 hN ⟨by omega, by omega⟩ (fun z416 g_z416 e_z416 => ?_)
        unfold in32 at g_z416
        refine x_callV k231_1177 (y := 118) (n := 3) (w0 := 0) (w1 := 3) (as := [vi z412, vi z414, vi z416]) (rest := []) (by decide +kernel) (q := 0) (nq := 12) (kq := 3) ⟨by decide, rfl⟩ rfl rfl rfl rfl (xe_mono (C_X10_moment_0 s hG z412 ⟨by omega, by omega⟩ z414 ⟨by omega, by omega⟩ z416 ⟨by omega, by omega⟩) ?_)
        rintro s418 v ⟨hG_s418, t_s418, z417, rfl, g_z417⟩
        have J_s418 : J s418 := J.fl i_J t_s418 (by decide)
        have T0_s418 : T0 s418 := T0.fl i_T0 t_s418 (by decide)
        have P1_s418 : P1 s418 := P1.fl i_P1 (hG 256 1).2 t_s418 (by decide)
        show xe (some (N, xs)) 231 1180 [(0, .ref 2000), (1, .ref 0), (2, .ref 256), (3, vi x3)] [vi z417] s418 295 10442 _
        refine x_A k231_1180 (fun _ => rfl) ?_
        refine x_A k231_1181 (fun _ => rfl) ?_
        refine x_A k231_1182 (fun _ => rfl) ?_
        refine x_A k231_1183 (fun _ => rfl) ?_
        refine x_A k231_1184 (fun _ => rfl) ?_
        refine x_iadd k231_1185 ?_
        refine x_top (fun z419 e_z419 => ?_)
        refine x_scr k231_1186 hN ⟨by omega, by omega⟩ (fun z420 g_z420 e_z420 => ?_)
        unfold in32 at g_z420
        have q_z420 : z420 = z412 := by rw [e_z420, e_z412, show z419 = z411 by omega]
        refine x_A k231_1187 (fun _ => rfl) ?_
        refine x_A k231_1188 (fun _ => rfl) ?_
        refine x_A k231_1189 (fun _ => rfl) ?_
        refine x_iadd k231_1190 ?_
        refine x_top (fun z421 e_z421 => ?_)
        refine x_scr k231_1191 hN ⟨by omega, by omega⟩ (fun z422 g_z422 e_z422 => ?_)
        unfold in32 at g_z422
        have q_z422 : z422 = z414 := by rw [e_z422, e_z414, show z421 = z413 by omega]
        refine x_A k231_1192 (fun _ => rfl) ?_
        refine x_A k231_1193 (fun _ => rfl) ?_
        refine x_A k231_1194 (fun _ => rfl) ?_
        refine x_iadd k231_1195 ?_
        refine x_top (fun z423 e_z423 => ?_)
        refine x_scr k231_1196 hN ⟨by omega, by omega⟩ (fun z424 g_z424 e_z424 => ?_)
        unfold in32 at g_z424
        have q_z424 : z424 = z416 := by rw [e_z424, e_z416, show z423 = z415 by omega]
        refine x_callV k231_1197 (y := 216) (n := 3) (w0 := 0) (w1 := 3) (as := [vi z420, vi z422, vi z424]) (rest := []) (by decide +kernel) (q := 256) (nq := 62) (kq := 15) ⟨by decide, rfl⟩ rfl rfl rfl rfl (xe_mono (C_X11_moment_256 s418 hG_s418 z420 ⟨by omega, by omega⟩ z422 ⟨by omega, by omega⟩ z424 ⟨by omega, by omega⟩) ?_)
        rintro s426 v ⟨hG_s426, t_s426, z425, rfl, g_z425⟩
        have J_s426 : J s426 := J.fl J_s418 t_s426 (by decide)
        have T0_s426 : T0 s426 := T0.fl T0_s418 t_s426 (by decide)
        have P1_s426 : P1 s426 := P1.fl P1_s418 (hG_s418 256 1).2 t_s426 (by decide)
        show xe (some (N, xs)) 231 1200 [(0, .ref 2000), (1, .ref 0), (2, .ref 256), (3, vi x3)] [vi z425] s426 295 10442 _
        refine x_A k231_1200 (fun _ => rfl) ?_
        refine x_goto k231_1201 (t := 1300) rfl ?_
        refine x_iinc k231_1300 (ls' := [(3, vi (x3 + 7)), (0, .ref 2000), (1, .ref 0), (2, .ref 256)]) rfl (by decide) rfl ?_
        refine x_goto k231_1303 (t := 18) rfl ?_
        refine x_ls (l := [(0, .ref 2000), (1, .ref 0), (2, .ref 256), (3, vi (x3 + 7))]) (show ([0, 1, 2, 3] : List Nat).Nodup from by decide) ⟨rfl, rfl, rfl, rfl, trivial⟩ ?_
        exact ih s426 (x3 + 7) hG_s426 trivial ⟨by omega, by omega⟩ J_s426 T0_s426 P1_s426  (by omega)
      · rw [c5]
        refine x_B k231_33 rfl (fun _ => rfl) (fun _ => rfl) (fun _ _ => rfl) ?_
        show xe (some (N, xs)) 231 1204 [(0, .ref 2000), (1, .ref 0), (2, .ref 256), (3, vi x3)] [] s 295 10442 _
        refine x_A k231_1204 (fun _ => rfl) ?_
        refine x_A k231_1205 (fun _ => rfl) ?_
        refine x_A k231_1206 (fun _ => rfl) ?_
        refine x_A k231_1207 (fun _ => rfl) ?_
        refine x_iadd k231_1208 ?_
        refine x_top (fun z427 e_z427 => ?_)
        refine x_scr k231_1209 hN ⟨by omega, by omega⟩ (fun z428 g_z428 e_z428 => ?_)
        unfold in32 at g_z428
        refine x_A k231_1210 (fun _ => rfl) ?_
        refine x_A k231_1211 (fun _ => rfl) ?_
        refine x_A k231_1212 (fun _ => rfl) ?_
        refine x_iadd k231_1213 ?_
        refine x_top (fun z429 e_z429 => ?_)
        refine x_scr k231_1214 hN ⟨by omega, by omega⟩ (fun z430 g_z430 e_z430 => ?_)
        unfold in32 at g_z430
        refine x_A k231_1215 (fun _ => rfl) ?_
        refine x_A k231_1216 (fun _ => rfl) ?_
        refine x_A k231_1217 (fun _ => rfl) ?_
        refine x_iadd k231_1218 ?_
        refine x_top (fun z431 e_z431 => ?_)
        refine x_scr k231_1219 hN ⟨by omega, by omega⟩ (fun z432 g_z432 e_z432 => ?_)
        unfold in32 at g_z432
        refine x_A k231_1220 (fun _ => rfl) ?_
        refine x_A k231_1221 (fun _ => rfl) ?_
        refine x_A k231_1222 (fun _ => rfl) ?_
        refine x_iadd k231_1223 ?_
        refine x_top (fun z433 e_z433 => ?_)
        refine x_scr k231_1224 hN ⟨by omega, by omega⟩ (fun z434 g_z434 e_z434 => ?_)
        unfold in32 at g_z434
        refine x_callV k231_1225 (y := 119) (n := 4) (w0 := 0) (w1 := 4) (as := [vi z428, vi z430, vi z432, vi z434]) (rest := []) (by decide +kernel) (q := 0) (nq := 12) (kq := 3) ⟨by decide, rfl⟩ rfl rfl rfl rfl (xe_mono (C_X10_of_0 s hG i_J z428 ⟨by omega, by omega⟩ z430 ⟨by omega, by omega⟩ z432 ⟨by omega, by omega⟩ z434 ⟨by omega, by omega⟩) ?_)
        rintro s436 v ⟨hG_s436, t_s436, z435, rfl, g_z435⟩
        have J_s436 : J s436 := J.fl i_J t_s436 (by decide)
        have T0_s436 : T0 s436 := T0.fl i_T0 t_s436 (by decide)
        have P1_s436 : P1 s436 := P1.fl i_P1 (hG 256 1).2 t_s436 (by decide)
        show xe (some (N, xs)) 231 1228 [(0, .ref 2000), (1, .ref 0), (2, .ref 256), (3, vi x3)] [vi z435] s436 295 10442 _
        refine x_A k231_1228 (fun _ => rfl) ?_
        refine x_A k231_1229 (fun _ => rfl) ?_
        refine x_A k231_1230 (fun _ => rfl) ?_
        refine x_A k231_1231 (fun _ => rfl) ?_
        refine x_A k231_1232 (fun _ => rfl) ?_
        refine x_iadd k231_1233 ?_
        refine x_top (fun z437 e_z437 => ?_)
        refine x_scr k231_1234 hN ⟨by omega, by omega⟩ (fun z438 g_z438 e_z438 => ?_)
        unfold in32 at g_z438
        have q_z438 : z438 = z428 := by rw [e_z438, e_z428, show z437 = z427 by omega]
        refine x_A k231_1235 (fun _ => rfl) ?_
        refine x_A k231_1236 (fun _ => rfl) ?_
        refine x_A k231_1237 (fun _ => rfl) ?_
        refine x_iadd k231_1238 ?_
        refine x_top (fun z439 e_z439 => ?_)
        refine x_scr k231_1239 hN ⟨by omega, by omega⟩ (fun z440 g_z440 e_z440 => ?_)
        unfold in32 at g_z440
        have q_z440 : z440 = z430 := by rw [e_z440, e_z430, show z439 = z429 by omega]
        refine x_A k231_1240 (fun _ => rfl) ?_
        refine x_A k231_1241 (fun _ => rfl) ?_
        refine x_A k231_1242 (fun _ => rfl) ?_
        refine x_iadd k231_1243 ?_
        refine x_top (fun z441 e_z441 => ?_)
        refine x_scr k231_1244 hN ⟨by omega, by omega⟩ (fun z442 g_z442 e_z442 => ?_)
        unfold in32 at g_z442
        have q_z442 : z442 = z432 := by rw [e_z442, e_z432, show z441 = z431 by omega]
        refine x_A k231_1245 (fun _ => rfl) ?_
        refine x_A k231_1246 (fun _ => rfl) ?_
        refine x_A k231_1247 (fun _ => rfl) ?_
        refine x_iadd k231_1248 ?_
        refine x_top (fun z443 e_z443 => ?_)
        refine x_scr k231_1249 hN ⟨by omega, by omega⟩ (fun z444 g_z444 e_z444 => ?_)
        unfold in32 at g_z444
        have q_z444 : z444 = z434 := by rw [e_z444, e_z434, show z443 = z433 by omega]
        refine x_callV k231_1250 (y := 217) (n := 4) (w0 := 0) (w1 := 4) (as := [vi z438, vi z440, vi z442, vi z444]) (rest := []) (by decide +kernel) (q := 256) (nq := 62) (kq := 15) ⟨by decide, rfl⟩ rfl rfl rfl rfl (xe_mono (C_X11_of_256 s436 hG_s436 J_s436 z438 ⟨by omega, by omega⟩ z440 ⟨by omega, by omega⟩ z442 ⟨by omega, by omega⟩ z444 ⟨by omega, by omega⟩) ?_)
        rintro s446 v ⟨hG_s446, t_s446, z445, rfl, g_z445⟩
        have J_s446 : J s446 := J.fl J_s436 t_s446 (by decide)
        have T0_s446 : T0 s446 := T0.fl T0_s436 t_s446 (by decide)
        have P1_s446 : P1 s446 := P1.fl P1_s436 (hG_s436 256 1).2 t_s446 (by decide)
        show xe (some (N, xs)) 231 1253 [(0, .ref 2000), (1, .ref 0), (2, .ref 256), (3, vi x3)] [vi z445] s446 295 10442 _
        refine x_A k231_1253 (fun _ => rfl) ?_
        refine x_goto k231_1254 (t := 1300) rfl ?_
        refine x_iinc k231_1300 (ls' := [(3, vi (x3 + 7)), (0, .ref 2000), (1, .ref 0), (2, .ref 256)]) rfl (by decide) rfl ?_
        refine x_goto k231_1303 (t := 18) rfl ?_
        refine x_ls (l := [(0, .ref 2000), (1, .ref 0), (2, .ref 256), (3, vi (x3 + 7))]) (show ([0, 1, 2, 3] : List Nat).Nodup from by decide) ⟨rfl, rfl, rfl, rfl, trivial⟩ ?_
        exact ih s446 (x3 + 7) hG_s446 trivial ⟨by omega, by omega⟩ J_s446 T0_s446 P1_s446  (by omega)
      · rw [c5]
        refine x_B k231_33 rfl (fun _ => rfl) (fun _ => rfl) (fun _ _ => rfl) ?_
        show xe (some (N, xs)) 231 1257 [(0, .ref 2000), (1, .ref 0), (2, .ref 256), (3, vi x3)] [] s 295 10442 _
        refine x_A k231_1257 (fun _ => rfl) ?_
        refine x_A k231_1258 (fun _ => rfl) ?_
        refine x_A k231_1259 (fun _ => rfl) ?_
        refine x_A k231_1260 (fun _ => rfl) ?_
        refine x_iadd k231_1261 ?_
        refine x_top (fun z447 e_z447 => ?_)
        refine x_scr k231_1262 hN ⟨by omega, by omega⟩ (fun z448 g_z448 e_z448 => ?_)
        unfold in32 at g_z448
        refine x_A k231_1263 (fun _ => rfl) ?_
        refine x_A k231_1264 (fun _ => rfl) ?_
        refine x_A k231_1265 (fun _ => rfl) ?_
        refine x_iadd k231_1266 ?_
        refine x_top (fun z449 e_z449 => ?_)
        refine x_scr k231_1267 hN ⟨by omega, by omega⟩ (fun z450 g_z450 e_z450 => ?_)
        unfold in32 at g_z450
        refine x_A k231_1268 (fun _ => rfl) ?_
        refine x_A k231_1269 (fun _ => rfl) ?_
        refine x_A k231_1270 (fun _ => rfl) ?_
        refine x_iadd k231_1271 ?_
        refine x_top (fun z451 e_z451 => ?_)
        refine x_scr k231_1272 hN ⟨by omega, by omega⟩ (fun z452 g_z452 e_z452 => ?_)
        unfold in32 at g_z452
        refine x_callV k231_1273 (y := 120) (n := 3) (w0 := 0) (w1 := 3) (as := [vi z448, vi z450, vi z452]) (rest := []) (by decide +kernel) (q := 0) (nq := 12) (kq := 3) ⟨by decide, rfl⟩ rfl rfl rfl rfl (xe_mono (C_X10_split_0 s hG i_J z448 ⟨by omega, by omega⟩ z450 ⟨by omega, by omega⟩ z452 ⟨by omega, by omega⟩) ?_)
        rintro s454 v ⟨hG_s454, t_s454, z453, rfl, g_z453⟩
        have J_s454 : J s454 := J.fl i_J t_s454 (by decide)
        have T0_s454 : T0 s454 := T0.fl i_T0 t_s454 (by decide)
        have P1_s454 : P1 s454 := P1.fl i_P1 (hG 256 1).2 t_s454 (by decide)
        show xe (some (N, xs)) 231 1276 [(0, .ref 2000), (1, .ref 0), (2, .ref 256), (3, vi x3)] [vi z453] s454 295 10442 _
        refine x_A k231_1276 (fun _ => rfl) ?_
        refine x_A k231_1277 (fun _ => rfl) ?_
        refine x_A k231_1278 (fun _ => rfl) ?_
        refine x_A k231_1279 (fun _ => rfl) ?_
        refine x_A k231_1280 (fun _ => rfl) ?_
        refine x_iadd k231_1281 ?_
        refine x_top (fun z455 e_z455 => ?_)
        refine x_scr k231_1282 hN ⟨by omega, by omega⟩ (fun z456 g_z456 e_z456 => ?_)
        unfold in32 at g_z456
        have q_z456 : z456 = z448 := by rw [e_z456, e_z448, show z455 = z447 by omega]
        refine x_A k231_1283 (fun _ => rfl) ?_
        refine x_A k231_1284 (fun _ => rfl) ?_
        refine x_A k231_1285 (fun _ => rfl) ?_
        refine x_iadd k231_1286 ?_
        refine x_top (fun z457 e_z457 => ?_)
        refine x_scr k231_1287 hN ⟨by omega, by omega⟩ (fun z458 g_z458 e_z458 => ?_)
        unfold in32 at g_z458
        have q_z458 : z458 = z450 := by rw [e_z458, e_z450, show z457 = z449 by omega]
        refine x_A k231_1288 (fun _ => rfl) ?_
        refine x_A k231_1289 (fun _ => rfl) ?_
        refine x_A k231_1290 (fun _ => rfl) ?_
        refine x_iadd k231_1291 ?_
        refine x_top (fun z459 e_z459 => ?_)
        refine x_scr k231_1292 hN ⟨by omega, by omega⟩ (fun z460 g_z460 e_z460 => ?_)
        unfold in32 at g_z460
        have q_z460 : z460 = z452 := by rw [e_z460, e_z452, show z459 = z451 by omega]
        refine x_callV k231_1293 (y := 218) (n := 3) (w0 := 0) (w1 := 3) (as := [vi z456, vi z458, vi z460]) (rest := []) (by decide +kernel) (q := 256) (nq := 62) (kq := 15) ⟨by decide, rfl⟩ rfl rfl rfl rfl (xe_mono (C_X11_split_256 s454 hG_s454 J_s454 z456 ⟨by omega, by omega⟩ z458 ⟨by omega, by omega⟩ z460 ⟨by omega, by omega⟩) ?_)
        rintro s462 v ⟨hG_s462, t_s462, z461, rfl, g_z461⟩
        have J_s462 : J s462 := J.fl J_s454 t_s462 (by decide)
        have T0_s462 : T0 s462 := T0.fl T0_s454 t_s462 (by decide)
        have P1_s462 : P1 s462 := P1.fl P1_s454 (hG_s454 256 1).2 t_s462 (by decide)
        show xe (some (N, xs)) 231 1296 [(0, .ref 2000), (1, .ref 0), (2, .ref 256), (3, vi x3)] [vi z461] s462 295 10442 _
        refine x_A k231_1296 (fun _ => rfl) ?_
        refine x_goto k231_1297 (t := 1300) rfl ?_
        refine x_iinc k231_1300 (ls' := [(3, vi (x3 + 7)), (0, .ref 2000), (1, .ref 0), (2, .ref 256)]) rfl (by decide) rfl ?_
        refine x_goto k231_1303 (t := 18) rfl ?_
        refine x_ls (l := [(0, .ref 2000), (1, .ref 0), (2, .ref 256), (3, vi (x3 + 7))]) (show ([0, 1, 2, 3] : List Nat).Nodup from by decide) ⟨rfl, rfl, rfl, rfl, trivial⟩ ?_
        exact ih s462 (x3 + 7) hG_s462 trivial ⟨by omega, by omega⟩ J_s462 T0_s462 P1_s462  (by omega)
      · refine x_tabD k231_33 ⟨by omega, by omega⟩ c5 (t0 := 1300) rfl ?_
        refine x_iinc k231_1300 (ls' := [(3, vi (x3 + 7)), (0, .ref 2000), (1, .ref 0), (2, .ref 256)]) rfl (by decide) rfl ?_
        refine x_goto k231_1303 (t := 18) rfl ?_
        refine x_ls (l := [(0, .ref 2000), (1, .ref 0), (2, .ref 256), (3, vi (x3 + 7))]) (show ([0, 1, 2, 3] : List Nat).Nodup from by decide) ⟨rfl, rfl, rfl, rfl, trivial⟩ ?_
        exact ih s (x3 + 7) hG f ⟨by omega, by omega⟩ i_J i_T0 i_P1  (by omega)
