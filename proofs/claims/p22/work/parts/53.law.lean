set_option maxHeartbeats 8000000 in
theorem law_loop (N : Nat) (xs : Nat → Int32) (hN : N ≤ 3584)  : ∀ (n : Nat) (s : xS) (x3 : Int) (hG : GI s) (f : True) (b_x3 : 0 ≤ x3 ∧ x3 ≤ 3584) (i_J : J s) (i_TR : TR s) (i_X1 : X1 s) (i_R1 : R1 s) (i_G1 : G1 s) (i_G3 : G3 s) (i_Y1 : Y1 s) (i_W1 : W1 s) (i_Q1 : Q1 s) (i_VCj : VCj s) (i_VCl : VCl s)  (hm : (3584 - x3) < (n : Int)), xe (some (N, xs)) 231 18 [(0, .ref 2000), (1, .ref 0), (2, .ref 256), (3, vi x3)] [] s 295 10442 (fun _ v => v = some (vi 1)) := by
  intro n
  induction n with
  | zero => intro s x3 hG f b_x3 i_J i_TR i_X1 i_R1 i_G1 i_G3 i_Y1 i_W1 i_Q1 i_VCj i_VCl  hm; exfalso; omega
  | succ n ih =>
    intro s x3 hG f b_x3 i_J i_TR i_X1 i_R1 i_G1 i_G3 i_Y1 i_W1 i_Q1 i_VCj i_VCl  hm
    refine x_A k231_18 (fun _ => rfl) ?_
    refine x_A k231_19 (fun _ => rfl) ?_
    refine x_slen k231_20 ?_
    refine x_bipush k231_21 (by decide +kernel) ?_
    refine x_isub k231_23 ?_
    refine x_top (fun z1 e_z1 => ?_)
    refine x_ic_gt k231_24 (t := 1306) rfl ⟨by omega, by omega⟩ ⟨by omega, by omega⟩ (fun c2 => ?_) (fun c2 => ?_)
    · skip
      refine x_A k231_1306 (fun _ => rfl) ?_
      exact x_zret k231_1307 rfl ⟨by omega, by omega⟩ rfl
    · skip
      refine x_A k231_27 (fun _ => rfl) ?_
      refine x_A k231_28 (fun _ => rfl) ?_
      refine x_scr k231_29 hN ⟨by omega, by omega⟩ (fun z3 g_z3 e_z3 => ?_)
      unfold in32 at g_z3
      refine x_bipush k231_30 (by decide +kernel) ?_
      refine x_and_mask k231_32 ⟨by omega, by omega⟩ (fun z4 g_z4 => ?_)
      have c5 : z4 = 0 ∨ z4 = 1 ∨ z4 = 2 ∨ z4 = 3 ∨ z4 = 4 ∨ z4 = 5 ∨ z4 = 6 ∨ z4 = 7 ∨ z4 = 8 ∨ z4 = 9 ∨ z4 = 10 ∨ z4 = 11 ∨ z4 = 12 ∨ z4 = 13 ∨ z4 = 14 ∨ z4 = 15 ∨ z4 = 16 ∨ z4 = 17 ∨ z4 = 18 ∨ z4 = 19 ∨ z4 = 20 ∨ z4 = 21 ∨ z4 = 22 ∨ z4 = 23 ∨ z4 = 24 ∨ z4 = 25 ∨ z4 = 26 ∨ z4 = 27 ∨ z4 = 28 ∨ z4 = 29 ∨ ¬ (0 ≤ z4 ∧ z4 ≤ 29) := by omega
      rcases c5 with c5 | c5 | c5 | c5 | c5 | c5 | c5 | c5 | c5 | c5 | c5 | c5 | c5 | c5 | c5 | c5 | c5 | c5 | c5 | c5 | c5 | c5 | c5 | c5 | c5 | c5 | c5 | c5 | c5 | c5 | c5
      · rw [c5]
        refine x_B k231_33 rfl (fun _ => rfl) (fun _ => rfl) (fun _ _ => rfl) ?_
        show xe (some (N, xs)) 231 168 [(0, .ref 2000), (1, .ref 0), (2, .ref 256), (3, vi x3)] [] s 295 10442 _
        refine x_A k231_168 (fun _ => rfl) ?_
        refine x_callV k231_169 (y := 91) (n := 0) (w0 := 0) (w1 := 0) (as := []) (rest := []) (by decide +kernel) (q := 0) (nq := 12) (kq := 3) ⟨by decide, rfl⟩ rfl rfl rfl rfl (xe_mono (C_X10_edition_0 s hG) ?_)
        rintro s7 v ⟨hG_s7, t_s7, z6, rfl, g_z6, xp_z6⟩
        have J_s7 : J s7 := J.fl i_J t_s7 (by decide)
        have X1_s7 : X1 s7 := X1.fl i_X1 t_s7 (by decide)
        have R1_s7 : R1 s7 := R1.fl i_R1 t_s7 (by decide)
        have G1_s7 : G1 s7 := G1.fl i_G1 t_s7 (by decide)
        have Y1_s7 : Y1 s7 := Y1.fl i_Y1 t_s7 (by decide)
        have W1_s7 : W1 s7 := W1.fl i_W1 t_s7 (by decide)
        have Q1_s7 : Q1 s7 := Q1.fl i_Q1 t_s7 (by decide)
        have VCj_s7 : VCj s7 := VCj.fl i_VCj hG t_s7 (by decide)
        have VCl_s7 : VCl s7 := VCl.fl i_VCl hG t_s7 (by decide)
        obtain ⟨z8, e_z8⟩ : ∃ z, z = s7 0 10 := ⟨_, rfl⟩
        have g_z8 : (0 : Int) ≤ s7 0 10 ∧ s7 0 10 ≤ 9 := hG_s7 0 10
        show xe (some (N, xs)) 231 172 [(0, .ref 2000), (1, .ref 0), (2, .ref 256), (3, vi x3)] [vi z6] s7 295 10442 _
        refine x_A k231_172 (fun _ => rfl) ?_
        refine x_A k231_173 (fun _ => rfl) ?_
        refine x_callV k231_174 (y := 145) (n := 0) (w0 := 0) (w1 := 0) (as := []) (rest := []) (by decide +kernel) (q := 256) (nq := 62) (kq := 15) ⟨by decide, rfl⟩ rfl rfl rfl rfl (xe_mono (D_X11_edition_256 s7 hG_s7 J_s7) ?_)
        rintro s10 v ⟨hG_s10, t_s10, z9, rfl, g_z9, xp_z9, J_s10⟩
        have q11 : s10 0 10 = z8 := (t_s10 0 10 (show 11 ∉ [4097] from by decide)).trans e_z8.symm
        have X1_s10 : X1 s10 := X1.fl X1_s7 t_s10 (by decide)
        have R1_s10 : R1 s10 := R1.fl R1_s7 t_s10 (by decide)
        have G1_s10 : G1 s10 := G1.fl G1_s7 t_s10 (by decide)
        have Y1_s10 : Y1 s10 := Y1.fl Y1_s7 t_s10 (by decide)
        have W1_s10 : W1 s10 := W1.fl W1_s7 t_s10 (by decide)
        have Q1_s10 : Q1 s10 := Q1.fl Q1_s7 t_s10 (by decide)
        have VCj_s10 : VCj s10 := VCj.fl VCj_s7 hG_s7 t_s10 (by decide)
        have VCl_s10 : VCl s10 := VCl.fl VCl_s7 hG_s7 t_s10 (by decide)
        obtain ⟨z12, e_z12⟩ : ∃ z, z = s10 256 0 := ⟨_, rfl⟩
        have g_z12 : (0 : Int) ≤ s10 256 0 ∧ s10 256 0 ≤ 9 := hG_s10 256 0
        show xe (some (N, xs)) 231 177 [(0, .ref 2000), (1, .ref 0), (2, .ref 256), (3, vi x3)] [vi z9] s10 295 10442 _
        obtain ⟨ez_s10, TR_s10⟩ := TR.ed i_TR hG t_s7 t_s10 (by decide) (by decide) xp_z6 xp_z9
        have G3_s10 := G3.ed i_G3 t_s7 t_s10 (by decide) (by decide) xp_z6
        refine x_A k231_177 (fun _ => rfl) ?_
        refine x_goto k231_178 (t := 1300) rfl ?_
        refine x_iinc k231_1300 (ls' := [(3, vi (x3 + 7)), (0, .ref 2000), (1, .ref 0), (2, .ref 256)]) rfl (by decide) rfl ?_
        refine x_goto k231_1303 (t := 18) rfl ?_
        refine x_ls (l := [(0, .ref 2000), (1, .ref 0), (2, .ref 256), (3, vi (x3 + 7))]) (show ([0, 1, 2, 3] : List Nat).Nodup from by decide) ⟨rfl, rfl, rfl, rfl, trivial⟩ ?_
        exact ih s10 (x3 + 7) hG_s10 trivial ⟨by omega, by omega⟩ J_s10 TR_s10 X1_s10 R1_s10 G1_s10 G3_s10 Y1_s10 W1_s10 Q1_s10 VCj_s10 VCl_s10  (by omega)
      · rw [c5]
        refine x_B k231_33 rfl (fun _ => rfl) (fun _ => rfl) (fun _ _ => rfl) ?_
        show xe (some (N, xs)) 231 181 [(0, .ref 2000), (1, .ref 0), (2, .ref 256), (3, vi x3)] [] s 295 10442 _
        refine x_A k231_181 (fun _ => rfl) ?_
        refine x_A k231_182 (fun _ => rfl) ?_
        refine x_A k231_183 (fun _ => rfl) ?_
        refine x_A k231_184 (fun _ => rfl) ?_
        refine x_iadd k231_185 ?_
        refine x_top (fun z13 e_z13 => ?_)
        refine x_scr k231_186 hN ⟨by omega, by omega⟩ (fun z14 g_z14 e_z14 => ?_)
        unfold in32 at g_z14
        obtain ⟨z15, e_z15⟩ : ∃ z, z = s 1 4 := ⟨_, rfl⟩
        have g_z15 : (1 : Int) ≤ s 1 4 ∧ s 1 4 ≤ 40 := hG 1 4
        obtain ⟨z16, e_z16⟩ : ∃ z, z = s 0 10 := ⟨_, rfl⟩
        have g_z16 : (0 : Int) ≤ s 0 10 ∧ s 0 10 ≤ 9 := hG 0 10
        refine x_callV k231_187 (y := 92) (n := 1) (w0 := 0) (w1 := 1) (as := [vi z14]) (rest := []) (by decide +kernel) (q := 0) (nq := 12) (kq := 3) ⟨by decide, rfl⟩ rfl rfl rfl rfl (xe_mono (V_X10_mark_0 s hG z14 ⟨by omega, by omega⟩ ⟨by omega, by omega⟩ ⟨by omega, by omega⟩ i_VCj i_VCl) ?_)
        rintro s18 v ⟨hG_s18, t_s18, z17, rfl, g_z17, xp_z17, VCj_s18, VCl_s18⟩
        have q19 : s18 0 10 = z16 := (t_s18 0 10 (show 11 ∉ [69, 128, 384, 3276, 3277] from by decide)).trans e_z16.symm
        have J_s18 : J s18 := J.fl i_J t_s18 (by decide)
        have X1_s18 : X1 s18 := X1.fl i_X1 t_s18 (by decide)
        have R1_s18 : R1 s18 := R1.fl i_R1 t_s18 (by decide)
        have G1_s18 : G1 s18 := G1.fl i_G1 t_s18 (by decide)
        have Y1_s18 : Y1 s18 := Y1.fl i_Y1 t_s18 (by decide)
        have W1_s18 : W1 s18 := W1.fl i_W1 t_s18 (by decide)
        have Q1_s18 : Q1 s18 := Q1.fl i_Q1 t_s18 (by decide)
        obtain ⟨z20, e_z20⟩ : ∃ z, z = s18 1 4 := ⟨_, rfl⟩
        have g_z20 : (1 : Int) ≤ s18 1 4 ∧ s18 1 4 ≤ 40 := hG_s18 1 4
        show xe (some (N, xs)) 231 190 [(0, .ref 2000), (1, .ref 0), (2, .ref 256), (3, vi x3)] [vi z17] s18 295 10442 _
        refine x_A k231_190 (fun _ => rfl) ?_
        refine x_A k231_191 (fun _ => rfl) ?_
        refine x_A k231_192 (fun _ => rfl) ?_
        refine x_A k231_193 (fun _ => rfl) ?_
        refine x_A k231_194 (fun _ => rfl) ?_
        refine x_iadd k231_195 ?_
        refine x_top (fun z21 e_z21 => ?_)
        refine x_scr k231_196 hN ⟨by omega, by omega⟩ (fun z22 g_z22 e_z22 => ?_)
        unfold in32 at g_z22
        have q_z22 : z22 = z14 := by rw [e_z22, e_z14, show z21 = z13 by omega]
        obtain ⟨z23, e_z23⟩ : ∃ z, z = s18 256 1 := ⟨_, rfl⟩
        have g_z23 : (1 : Int) ≤ s18 256 1 ∧ s18 256 1 ≤ 40 := hG_s18 256 1
        obtain ⟨z24, e_z24⟩ : ∃ z, z = s18 256 0 := ⟨_, rfl⟩
        have g_z24 : (0 : Int) ≤ s18 256 0 ∧ s18 256 0 ≤ 9 := hG_s18 256 0
        refine x_callV k231_197 (y := 146) (n := 1) (w0 := 0) (w1 := 1) (as := [vi z22]) (rest := []) (by decide +kernel) (q := 256) (nq := 62) (kq := 15) ⟨by decide, rfl⟩ rfl rfl rfl rfl (xe_mono (V_X11_mark_256 s18 hG_s18 z22 ⟨by omega, by omega⟩ ⟨by omega, by omega⟩ ⟨by omega, by omega⟩ J_s18) ?_)
        rintro s26 v ⟨hG_s26, t_s26, z25, rfl, g_z25, xp_z25, J_s26⟩
        have q27 : s26 0 10 = z16 := (t_s26 0 10 (show 11 ∉ [4098, 4160, 4224, 4288, 4352] from by decide)).trans q19
        have q28 : s26 1 4 = z20 := (t_s26 1 4 (show 69 ∉ [4098, 4160, 4224, 4288, 4352] from by decide)).trans e_z20.symm
        have q29 : s26 256 0 = z24 := (t_s26 256 0 (show 4097 ∉ [4098, 4160, 4224, 4288, 4352] from by decide)).trans e_z24.symm
        have X1_s26 : X1 s26 := X1.fl X1_s18 t_s26 (by decide)
        have R1_s26 : R1 s26 := R1.fl R1_s18 t_s26 (by decide)
        have G1_s26 : G1 s26 := G1.fl G1_s18 t_s26 (by decide)
        have Y1_s26 : Y1 s26 := Y1.fl Y1_s18 t_s26 (by decide)
        have W1_s26 : W1 s26 := W1.fl W1_s18 t_s26 (by decide)
        have Q1_s26 : Q1 s26 := Q1.fl Q1_s18 t_s26 (by decide)
        have VCj_s26 : VCj s26 := VCj.fl VCj_s18 hG_s18 t_s26 (by decide)
        have VCl_s26 : VCl s26 := VCl.fl VCl_s18 hG_s18 t_s26 (by decide)
        obtain ⟨z30, e_z30⟩ : ∃ z, z = s26 256 1 := ⟨_, rfl⟩
        have g_z30 : (1 : Int) ≤ s26 256 1 ∧ s26 256 1 ≤ 40 := hG_s26 256 1
        show xe (some (N, xs)) 231 200 [(0, .ref 2000), (1, .ref 0), (2, .ref 256), (3, vi x3)] [vi z25] s26 295 10442 _
        obtain ⟨ez_s26, TR_s26⟩ := TR.mark i_TR hG t_s18 t_s26 (by decide) (by decide) xp_z17 (by rw [← q_z22]; exact xp_z25)
        have G3_s26 := G3.mark i_G3 hG t_s18 t_s26 (by decide) (by decide) xp_z17.1
        refine x_A k231_200 (fun _ => rfl) ?_
        refine x_goto k231_201 (t := 1300) rfl ?_
        refine x_iinc k231_1300 (ls' := [(3, vi (x3 + 7)), (0, .ref 2000), (1, .ref 0), (2, .ref 256)]) rfl (by decide) rfl ?_
        refine x_goto k231_1303 (t := 18) rfl ?_
        refine x_ls (l := [(0, .ref 2000), (1, .ref 0), (2, .ref 256), (3, vi (x3 + 7))]) (show ([0, 1, 2, 3] : List Nat).Nodup from by decide) ⟨rfl, rfl, rfl, rfl, trivial⟩ ?_
        exact ih s26 (x3 + 7) hG_s26 trivial ⟨by omega, by omega⟩ J_s26 TR_s26 X1_s26 R1_s26 G1_s26 G3_s26 Y1_s26 W1_s26 Q1_s26 VCj_s26 VCl_s26  (by omega)
      · rw [c5]
        refine x_B k231_33 rfl (fun _ => rfl) (fun _ => rfl) (fun _ _ => rfl) ?_
        show xe (some (N, xs)) 231 204 [(0, .ref 2000), (1, .ref 0), (2, .ref 256), (3, vi x3)] [] s 295 10442 _
        refine x_A k231_204 (fun _ => rfl) ?_
        refine x_A k231_205 (fun _ => rfl) ?_
        refine x_A k231_206 (fun _ => rfl) ?_
        refine x_A k231_207 (fun _ => rfl) ?_
        refine x_iadd k231_208 ?_
        refine x_top (fun z31 e_z31 => ?_)
        refine x_scr k231_209 hN ⟨by omega, by omega⟩ (fun z32 g_z32 e_z32 => ?_)
        unfold in32 at g_z32
        refine x_A k231_210 (fun _ => rfl) ?_
        refine x_A k231_211 (fun _ => rfl) ?_
        refine x_A k231_212 (fun _ => rfl) ?_
        refine x_iadd k231_213 ?_
        refine x_top (fun z33 e_z33 => ?_)
        refine x_scr k231_214 hN ⟨by omega, by omega⟩ (fun z34 g_z34 e_z34 => ?_)
        unfold in32 at g_z34
        obtain ⟨z35, e_z35⟩ : ∃ z, z = s 1 4 := ⟨_, rfl⟩
        have g_z35 : (1 : Int) ≤ s 1 4 ∧ s 1 4 ≤ 40 := hG 1 4
        obtain ⟨z36, e_z36⟩ : ∃ z, z = s 0 10 := ⟨_, rfl⟩
        have g_z36 : (0 : Int) ≤ s 0 10 ∧ s 0 10 ≤ 9 := hG 0 10
        refine x_callV k231_215 (y := 93) (n := 2) (w0 := 0) (w1 := 2) (as := [vi z32, vi z34]) (rest := []) (by decide +kernel) (q := 0) (nq := 12) (kq := 3) ⟨by decide, rfl⟩ rfl rfl rfl rfl (xe_mono (V_X10_move_0 s hG z32 ⟨by omega, by omega⟩ z34 ⟨by omega, by omega⟩ ⟨by omega, by omega⟩ ⟨by omega, by omega⟩ i_VCj i_VCl) ?_)
        rintro s38 v ⟨hG_s38, t_s38, z37, rfl, g_z37, xp_z37, VCj_s38, VCl_s38⟩
        have q39 : s38 1 4 = z35 := (t_s38 1 4 (show 69 ∉ [384, 3276, 3277] from by decide)).trans e_z35.symm
        have q40 : s38 0 10 = z36 := (t_s38 0 10 (show 11 ∉ [384, 3276, 3277] from by decide)).trans e_z36.symm
        have J_s38 : J s38 := J.fl i_J t_s38 (by decide)
        have X1_s38 : X1 s38 := X1.fl i_X1 t_s38 (by decide)
        have R1_s38 : R1 s38 := R1.fl i_R1 t_s38 (by decide)
        have G1_s38 : G1 s38 := G1.fl i_G1 t_s38 (by decide)
        have G3_s38 : G3 s38 := G3.fl i_G3 t_s38 (by decide)
        have Y1_s38 : Y1 s38 := Y1.fl i_Y1 t_s38 (by decide)
        have W1_s38 : W1 s38 := W1.fl i_W1 t_s38 (by decide)
        have Q1_s38 : Q1 s38 := Q1.fl i_Q1 t_s38 (by decide)
        show xe (some (N, xs)) 231 218 [(0, .ref 2000), (1, .ref 0), (2, .ref 256), (3, vi x3)] [vi z37] s38 295 10442 _
        refine x_A k231_218 (fun _ => rfl) ?_
        refine x_A k231_219 (fun _ => rfl) ?_
        refine x_A k231_220 (fun _ => rfl) ?_
        refine x_A k231_221 (fun _ => rfl) ?_
        refine x_A k231_222 (fun _ => rfl) ?_
        refine x_iadd k231_223 ?_
        refine x_top (fun z41 e_z41 => ?_)
        refine x_scr k231_224 hN ⟨by omega, by omega⟩ (fun z42 g_z42 e_z42 => ?_)
        unfold in32 at g_z42
        have q_z42 : z42 = z32 := by rw [e_z42, e_z32, show z41 = z31 by omega]
        refine x_A k231_225 (fun _ => rfl) ?_
        refine x_A k231_226 (fun _ => rfl) ?_
        refine x_A k231_227 (fun _ => rfl) ?_
        refine x_iadd k231_228 ?_
        refine x_top (fun z43 e_z43 => ?_)
        refine x_scr k231_229 hN ⟨by omega, by omega⟩ (fun z44 g_z44 e_z44 => ?_)
        unfold in32 at g_z44
        have q_z44 : z44 = z34 := by rw [e_z44, e_z34, show z43 = z33 by omega]
        obtain ⟨z45, e_z45⟩ : ∃ z, z = s38 256 1 := ⟨_, rfl⟩
        have g_z45 : (1 : Int) ≤ s38 256 1 ∧ s38 256 1 ≤ 40 := hG_s38 256 1
        obtain ⟨z46, e_z46⟩ : ∃ z, z = s38 256 0 := ⟨_, rfl⟩
        have g_z46 : (0 : Int) ≤ s38 256 0 ∧ s38 256 0 ≤ 9 := hG_s38 256 0
        refine x_callV k231_230 (y := 147) (n := 2) (w0 := 0) (w1 := 2) (as := [vi z42, vi z44]) (rest := []) (by decide +kernel) (q := 256) (nq := 62) (kq := 15) ⟨by decide, rfl⟩ rfl rfl rfl rfl (xe_mono (E_X11_move_256 s38 hG_s38 z42 ⟨by omega, by omega⟩ z44 ⟨by omega, by omega⟩ ⟨by omega, by omega⟩ ⟨by omega, by omega⟩ J_s38) ?_)
        rintro s48 v ⟨hG_s48, t_s48, z47, rfl, g_z47, xp_z47, J_s48⟩
        have q49 : s48 1 4 = z35 := (t_s48 1 4 (show 69 ∉ [4352] from by decide)).trans q39
        have q50 : s48 0 10 = z36 := (t_s48 0 10 (show 11 ∉ [4352] from by decide)).trans q40
        have q51 : s48 256 1 = z45 := (t_s48 256 1 (show 4098 ∉ [4352] from by decide)).trans e_z45.symm
        have q52 : s48 256 0 = z46 := (t_s48 256 0 (show 4097 ∉ [4352] from by decide)).trans e_z46.symm
        have X1_s48 : X1 s48 := X1.fl X1_s38 t_s48 (by decide)
        have R1_s48 : R1 s48 := R1.fl R1_s38 t_s48 (by decide)
        have G1_s48 : G1 s48 := G1.fl G1_s38 t_s48 (by decide)
        have G3_s48 : G3 s48 := G3.fl G3_s38 t_s48 (by decide)
        have Y1_s48 : Y1 s48 := Y1.fl Y1_s38 t_s48 (by decide)
        have W1_s48 : W1 s48 := W1.fl W1_s38 t_s48 (by decide)
        have Q1_s48 : Q1 s48 := Q1.fl Q1_s38 t_s48 (by decide)
        have VCj_s48 : VCj s48 := VCj.fl VCj_s38 hG_s38 t_s48 (by decide)
        have VCl_s48 : VCl s48 := VCl.fl VCl_s38 hG_s38 t_s48 (by decide)
        show xe (some (N, xs)) 231 233 [(0, .ref 2000), (1, .ref 0), (2, .ref 256), (3, vi x3)] [vi z47] s48 295 10442 _
        obtain ⟨ez_s48, TR_s48⟩ := TR.move i_TR i_J hG t_s38 t_s48 (by decide) (by decide) xp_z37 (by rw [← q_z42, ← q_z44]; exact xp_z47)
        refine x_A k231_233 (fun _ => rfl) ?_
        refine x_goto k231_234 (t := 1300) rfl ?_
        refine x_iinc k231_1300 (ls' := [(3, vi (x3 + 7)), (0, .ref 2000), (1, .ref 0), (2, .ref 256)]) rfl (by decide) rfl ?_
        refine x_goto k231_1303 (t := 18) rfl ?_
        refine x_ls (l := [(0, .ref 2000), (1, .ref 0), (2, .ref 256), (3, vi (x3 + 7))]) (show ([0, 1, 2, 3] : List Nat).Nodup from by decide) ⟨rfl, rfl, rfl, rfl, trivial⟩ ?_
        exact ih s48 (x3 + 7) hG_s48 trivial ⟨by omega, by omega⟩ J_s48 TR_s48 X1_s48 R1_s48 G1_s48 G3_s48 Y1_s48 W1_s48 Q1_s48 VCj_s48 VCl_s48  (by omega)
      · rw [c5]
        refine x_B k231_33 rfl (fun _ => rfl) (fun _ => rfl) (fun _ _ => rfl) ?_
        show xe (some (N, xs)) 231 237 [(0, .ref 2000), (1, .ref 0), (2, .ref 256), (3, vi x3)] [] s 295 10442 _
        refine x_A k231_237 (fun _ => rfl) ?_
        refine x_A k231_238 (fun _ => rfl) ?_
        refine x_A k231_239 (fun _ => rfl) ?_
        refine x_A k231_240 (fun _ => rfl) ?_
        refine x_iadd k231_241 ?_
        refine x_top (fun z53 e_z53 => ?_)
        refine x_scr k231_242 hN ⟨by omega, by omega⟩ (fun z54 g_z54 e_z54 => ?_)
        unfold in32 at g_z54
        refine x_A k231_243 (fun _ => rfl) ?_
        refine x_A k231_244 (fun _ => rfl) ?_
        refine x_A k231_245 (fun _ => rfl) ?_
        refine x_iadd k231_246 ?_
        refine x_top (fun z55 e_z55 => ?_)
        refine x_scr k231_247 hN ⟨by omega, by omega⟩ (fun z56 g_z56 e_z56 => ?_)
        unfold in32 at g_z56
        obtain ⟨z57, e_z57⟩ : ∃ z, z = s 1 4 := ⟨_, rfl⟩
        have g_z57 : (1 : Int) ≤ s 1 4 ∧ s 1 4 ≤ 40 := hG 1 4
        obtain ⟨z58, e_z58⟩ : ∃ z, z = s 0 10 := ⟨_, rfl⟩
        have g_z58 : (0 : Int) ≤ s 0 10 ∧ s 0 10 ≤ 9 := hG 0 10
        refine x_callV k231_248 (y := 94) (n := 2) (w0 := 0) (w1 := 2) (as := [vi z54, vi z56]) (rest := []) (by decide +kernel) (q := 0) (nq := 12) (kq := 3) ⟨by decide, rfl⟩ rfl rfl rfl rfl (xe_mono (V_X10_end_0 s hG z54 ⟨by omega, by omega⟩ z56 ⟨by omega, by omega⟩ ⟨by omega, by omega⟩ ⟨by omega, by omega⟩ i_VCj i_VCl) ?_)
        rintro s60 v ⟨hG_s60, t_s60, z59, rfl, g_z59, xp_z59, VCj_s60, VCl_s60⟩
        have q61 : s60 1 4 = z57 := (t_s60 1 4 (show 69 ∉ [192, 256, 3276, 3277] from by decide)).trans e_z57.symm
        have q62 : s60 0 10 = z58 := (t_s60 0 10 (show 11 ∉ [192, 256, 3276, 3277] from by decide)).trans e_z58.symm
        have J_s60 : J s60 := J.fl i_J t_s60 (by decide)
        have X1_s60 : X1 s60 := X1.fl i_X1 t_s60 (by decide)
        have R1_s60 : R1 s60 := R1.fl i_R1 t_s60 (by decide)
        have G1_s60 : G1 s60 := G1.fl i_G1 t_s60 (by decide)
        have G3_s60 : G3 s60 := G3.fl i_G3 t_s60 (by decide)
        have Y1_s60 : Y1 s60 := Y1.fl i_Y1 t_s60 (by decide)
        have W1_s60 : W1 s60 := W1.fl i_W1 t_s60 (by decide)
        have Q1_s60 : Q1 s60 := Q1.fl i_Q1 t_s60 (by decide)
        show xe (some (N, xs)) 231 251 [(0, .ref 2000), (1, .ref 0), (2, .ref 256), (3, vi x3)] [vi z59] s60 295 10442 _
        refine x_A k231_251 (fun _ => rfl) ?_
        refine x_A k231_252 (fun _ => rfl) ?_
        refine x_A k231_253 (fun _ => rfl) ?_
        refine x_A k231_254 (fun _ => rfl) ?_
        refine x_A k231_255 (fun _ => rfl) ?_
        refine x_iadd k231_256 ?_
        refine x_top (fun z63 e_z63 => ?_)
        refine x_scr k231_257 hN ⟨by omega, by omega⟩ (fun z64 g_z64 e_z64 => ?_)
        unfold in32 at g_z64
        have q_z64 : z64 = z54 := by rw [e_z64, e_z54, show z63 = z53 by omega]
        refine x_A k231_258 (fun _ => rfl) ?_
        refine x_A k231_259 (fun _ => rfl) ?_
        refine x_A k231_260 (fun _ => rfl) ?_
        refine x_iadd k231_261 ?_
        refine x_top (fun z65 e_z65 => ?_)
        refine x_scr k231_262 hN ⟨by omega, by omega⟩ (fun z66 g_z66 e_z66 => ?_)
        unfold in32 at g_z66
        have q_z66 : z66 = z56 := by rw [e_z66, e_z56, show z65 = z55 by omega]
        obtain ⟨z67, e_z67⟩ : ∃ z, z = s60 256 1 := ⟨_, rfl⟩
        have g_z67 : (1 : Int) ≤ s60 256 1 ∧ s60 256 1 ≤ 40 := hG_s60 256 1
        obtain ⟨z68, e_z68⟩ : ∃ z, z = s60 256 0 := ⟨_, rfl⟩
        have g_z68 : (0 : Int) ≤ s60 256 0 ∧ s60 256 0 ≤ 9 := hG_s60 256 0
        refine x_callV k231_263 (y := 148) (n := 2) (w0 := 0) (w1 := 2) (as := [vi z64, vi z66]) (rest := []) (by decide +kernel) (q := 256) (nq := 62) (kq := 15) ⟨by decide, rfl⟩ rfl rfl rfl rfl (xe_mono (V_X11_end_256 s60 hG_s60 z64 ⟨by omega, by omega⟩ z66 ⟨by omega, by omega⟩ ⟨by omega, by omega⟩ ⟨by omega, by omega⟩ J_s60) ?_)
        rintro s70 v ⟨hG_s70, t_s70, z69, rfl, g_z69, xp_z69, J_s70⟩
        have q71 : s70 1 4 = z57 := (t_s70 1 4 (show 69 ∉ [4224, 4288] from by decide)).trans q61
        have q72 : s70 0 10 = z58 := (t_s70 0 10 (show 11 ∉ [4224, 4288] from by decide)).trans q62
        have q73 : s70 256 1 = z67 := (t_s70 256 1 (show 4098 ∉ [4224, 4288] from by decide)).trans e_z67.symm
        have q74 : s70 256 0 = z68 := (t_s70 256 0 (show 4097 ∉ [4224, 4288] from by decide)).trans e_z68.symm
        have X1_s70 : X1 s70 := X1.fl X1_s60 t_s70 (by decide)
        have R1_s70 : R1 s70 := R1.fl R1_s60 t_s70 (by decide)
        have G1_s70 : G1 s70 := G1.fl G1_s60 t_s70 (by decide)
        have G3_s70 : G3 s70 := G3.fl G3_s60 t_s70 (by decide)
        have Y1_s70 : Y1 s70 := Y1.fl Y1_s60 t_s70 (by decide)
        have W1_s70 : W1 s70 := W1.fl W1_s60 t_s70 (by decide)
        have Q1_s70 : Q1 s70 := Q1.fl Q1_s60 t_s70 (by decide)
        have VCj_s70 : VCj s70 := VCj.fl VCj_s60 hG_s60 t_s70 (by decide)
        have VCl_s70 : VCl s70 := VCl.fl VCl_s60 hG_s60 t_s70 (by decide)
        show xe (some (N, xs)) 231 266 [(0, .ref 2000), (1, .ref 0), (2, .ref 256), (3, vi x3)] [vi z69] s70 295 10442 _
        have TR_s70 := TR.end i_TR hG t_s60 t_s70 (by decide) (by decide) xp_z59 (by rw [← q_z64, ← q_z66]; exact xp_z69)
        refine x_A k231_266 (fun _ => rfl) ?_
        refine x_goto k231_267 (t := 1300) rfl ?_
        refine x_iinc k231_1300 (ls' := [(3, vi (x3 + 7)), (0, .ref 2000), (1, .ref 0), (2, .ref 256)]) rfl (by decide) rfl ?_
        refine x_goto k231_1303 (t := 18) rfl ?_
        refine x_ls (l := [(0, .ref 2000), (1, .ref 0), (2, .ref 256), (3, vi (x3 + 7))]) (show ([0, 1, 2, 3] : List Nat).Nodup from by decide) ⟨rfl, rfl, rfl, rfl, trivial⟩ ?_
        exact ih s70 (x3 + 7) hG_s70 trivial ⟨by omega, by omega⟩ J_s70 TR_s70 X1_s70 R1_s70 G1_s70 G3_s70 Y1_s70 W1_s70 Q1_s70 VCj_s70 VCl_s70  (by omega)
      · rw [c5]
        refine x_B k231_33 rfl (fun _ => rfl) (fun _ => rfl) (fun _ _ => rfl) ?_
        show xe (some (N, xs)) 231 270 [(0, .ref 2000), (1, .ref 0), (2, .ref 256), (3, vi x3)] [] s 295 10442 _
        refine x_A k231_270 (fun _ => rfl) ?_
        refine x_A k231_271 (fun _ => rfl) ?_
        refine x_A k231_272 (fun _ => rfl) ?_
        refine x_A k231_273 (fun _ => rfl) ?_
        refine x_iadd k231_274 ?_
        refine x_top (fun z75 e_z75 => ?_)
        refine x_scr k231_275 hN ⟨by omega, by omega⟩ (fun z76 g_z76 e_z76 => ?_)
        unfold in32 at g_z76
        refine x_A k231_276 (fun _ => rfl) ?_
        refine x_A k231_277 (fun _ => rfl) ?_
        refine x_A k231_278 (fun _ => rfl) ?_
        refine x_iadd k231_279 ?_
        refine x_top (fun z77 e_z77 => ?_)
        refine x_scr k231_280 hN ⟨by omega, by omega⟩ (fun z78 g_z78 e_z78 => ?_)
        unfold in32 at g_z78
        refine x_A k231_281 (fun _ => rfl) ?_
        refine x_A k231_282 (fun _ => rfl) ?_
        refine x_A k231_283 (fun _ => rfl) ?_
        refine x_iadd k231_284 ?_
        refine x_top (fun z79 e_z79 => ?_)
        refine x_scr k231_285 hN ⟨by omega, by omega⟩ (fun z80 g_z80 e_z80 => ?_)
        unfold in32 at g_z80
        refine x_callV k231_286 (y := 95) (n := 3) (w0 := 0) (w1 := 3) (as := [vi z76, vi z78, vi z80]) (rest := []) (by decide +kernel) (q := 0) (nq := 12) (kq := 3) ⟨by decide, rfl⟩ rfl rfl rfl rfl (xe_mono (V_X10_tree_0 s hG i_J z76 ⟨by omega, by omega⟩ z78 ⟨by omega, by omega⟩ z80 ⟨by omega, by omega⟩ i_R1 i_VCj i_VCl) ?_)
        rintro s82 v ⟨hG_s82, t_s82, z81, rfl, g_z81, VCj_s82, VCl_s82⟩
        have J_s82 : J s82 := J.fl i_J t_s82 (by decide)
        have TR_s82 : TR s82 := TR.fl i_TR (hG 256 1).2 t_s82 (by decide)
        have X1_s82 : X1 s82 := X1.fl i_X1 t_s82 (by decide)
        have R1_s82 : R1 s82 := R1.fl i_R1 t_s82 (by decide)
        have G1_s82 : G1 s82 := G1.fl i_G1 t_s82 (by decide)
        have G3_s82 : G3 s82 := G3.fl i_G3 t_s82 (by decide)
        have Y1_s82 : Y1 s82 := Y1.fl i_Y1 t_s82 (by decide)
        have W1_s82 : W1 s82 := W1.fl i_W1 t_s82 (by decide)
        have Q1_s82 : Q1 s82 := Q1.fl i_Q1 t_s82 (by decide)
        show xe (some (N, xs)) 231 289 [(0, .ref 2000), (1, .ref 0), (2, .ref 256), (3, vi x3)] [vi z81] s82 295 10442 _
        refine x_A k231_289 (fun _ => rfl) ?_
        refine x_A k231_290 (fun _ => rfl) ?_
        refine x_A k231_291 (fun _ => rfl) ?_
        refine x_A k231_292 (fun _ => rfl) ?_
        refine x_A k231_293 (fun _ => rfl) ?_
        refine x_iadd k231_294 ?_
        refine x_top (fun z83 e_z83 => ?_)
        refine x_scr k231_295 hN ⟨by omega, by omega⟩ (fun z84 g_z84 e_z84 => ?_)
        unfold in32 at g_z84
        have q_z84 : z84 = z76 := by rw [e_z84, e_z76, show z83 = z75 by omega]
        refine x_A k231_296 (fun _ => rfl) ?_
        refine x_A k231_297 (fun _ => rfl) ?_
        refine x_A k231_298 (fun _ => rfl) ?_
        refine x_iadd k231_299 ?_
        refine x_top (fun z85 e_z85 => ?_)
        refine x_scr k231_300 hN ⟨by omega, by omega⟩ (fun z86 g_z86 e_z86 => ?_)
        unfold in32 at g_z86
        have q_z86 : z86 = z78 := by rw [e_z86, e_z78, show z85 = z77 by omega]
        refine x_A k231_301 (fun _ => rfl) ?_
        refine x_A k231_302 (fun _ => rfl) ?_
        refine x_A k231_303 (fun _ => rfl) ?_
        refine x_iadd k231_304 ?_
        refine x_top (fun z87 e_z87 => ?_)
        refine x_scr k231_305 hN ⟨by omega, by omega⟩ (fun z88 g_z88 e_z88 => ?_)
        unfold in32 at g_z88
        have q_z88 : z88 = z80 := by rw [e_z88, e_z80, show z87 = z79 by omega]
        refine x_callV k231_306 (y := 149) (n := 3) (w0 := 0) (w1 := 3) (as := [vi z84, vi z86, vi z88]) (rest := []) (by decide +kernel) (q := 256) (nq := 62) (kq := 15) ⟨by decide, rfl⟩ rfl rfl rfl rfl (xe_mono (C_X11_tree_256 s82 hG_s82 J_s82 z84 ⟨by omega, by omega⟩ z86 ⟨by omega, by omega⟩ z88 ⟨by omega, by omega⟩) ?_)
        rintro s90 v ⟨hG_s90, t_s90, z89, rfl, g_z89⟩
        have J_s90 : J s90 := J.fl J_s82 t_s90 (by decide)
        have TR_s90 : TR s90 := TR.fl TR_s82 (hG_s82 256 1).2 t_s90 (by decide)
        have X1_s90 : X1 s90 := X1.fl X1_s82 t_s90 (by decide)
        have R1_s90 : R1 s90 := R1.fl R1_s82 t_s90 (by decide)
        have G1_s90 : G1 s90 := G1.fl G1_s82 t_s90 (by decide)
        have G3_s90 : G3 s90 := G3.fl G3_s82 t_s90 (by decide)
        have Y1_s90 : Y1 s90 := Y1.fl Y1_s82 t_s90 (by decide)
        have W1_s90 : W1 s90 := W1.fl W1_s82 t_s90 (by decide)
        have Q1_s90 : Q1 s90 := Q1.fl Q1_s82 t_s90 (by decide)
        have VCj_s90 : VCj s90 := VCj.fl VCj_s82 hG_s82 t_s90 (by decide)
        have VCl_s90 : VCl s90 := VCl.fl VCl_s82 hG_s82 t_s90 (by decide)
        show xe (some (N, xs)) 231 309 [(0, .ref 2000), (1, .ref 0), (2, .ref 256), (3, vi x3)] [vi z89] s90 295 10442 _
        refine x_A k231_309 (fun _ => rfl) ?_
        refine x_goto k231_310 (t := 1300) rfl ?_
        refine x_iinc k231_1300 (ls' := [(3, vi (x3 + 7)), (0, .ref 2000), (1, .ref 0), (2, .ref 256)]) rfl (by decide) rfl ?_
        refine x_goto k231_1303 (t := 18) rfl ?_
        refine x_ls (l := [(0, .ref 2000), (1, .ref 0), (2, .ref 256), (3, vi (x3 + 7))]) (show ([0, 1, 2, 3] : List Nat).Nodup from by decide) ⟨rfl, rfl, rfl, rfl, trivial⟩ ?_
        exact ih s90 (x3 + 7) hG_s90 trivial ⟨by omega, by omega⟩ J_s90 TR_s90 X1_s90 R1_s90 G1_s90 G3_s90 Y1_s90 W1_s90 Q1_s90 VCj_s90 VCl_s90  (by omega)
      · rw [c5]
        refine x_B k231_33 rfl (fun _ => rfl) (fun _ => rfl) (fun _ _ => rfl) ?_
        show xe (some (N, xs)) 231 313 [(0, .ref 2000), (1, .ref 0), (2, .ref 256), (3, vi x3)] [] s 295 10442 _
        refine x_A k231_313 (fun _ => rfl) ?_
        refine x_A k231_314 (fun _ => rfl) ?_
        refine x_A k231_315 (fun _ => rfl) ?_
        refine x_A k231_316 (fun _ => rfl) ?_
        refine x_iadd k231_317 ?_
        refine x_top (fun z91 e_z91 => ?_)
        refine x_scr k231_318 hN ⟨by omega, by omega⟩ (fun z92 g_z92 e_z92 => ?_)
        unfold in32 at g_z92
        refine x_A k231_319 (fun _ => rfl) ?_
        refine x_A k231_320 (fun _ => rfl) ?_
        refine x_A k231_321 (fun _ => rfl) ?_
        refine x_iadd k231_322 ?_
        refine x_top (fun z93 e_z93 => ?_)
        refine x_scr k231_323 hN ⟨by omega, by omega⟩ (fun z94 g_z94 e_z94 => ?_)
        unfold in32 at g_z94
        refine x_A k231_324 (fun _ => rfl) ?_
        refine x_A k231_325 (fun _ => rfl) ?_
        refine x_A k231_326 (fun _ => rfl) ?_
        refine x_iadd k231_327 ?_
        refine x_top (fun z95 e_z95 => ?_)
        refine x_scr k231_328 hN ⟨by omega, by omega⟩ (fun z96 g_z96 e_z96 => ?_)
        unfold in32 at g_z96
        refine x_callV k231_329 (y := 96) (n := 3) (w0 := 0) (w1 := 3) (as := [vi z92, vi z94, vi z96]) (rest := []) (by decide +kernel) (q := 0) (nq := 12) (kq := 3) ⟨by decide, rfl⟩ rfl rfl rfl rfl (xe_mono (C_X10_below_0 s hG z92 ⟨by omega, by omega⟩ z94 ⟨by omega, by omega⟩ z96 ⟨by omega, by omega⟩) ?_)
        rintro s98 v ⟨-, t_s98, z97, rfl, g_z97⟩
        rw [t_s98.nil]
        show xe (some (N, xs)) 231 332 [(0, .ref 2000), (1, .ref 0), (2, .ref 256), (3, vi x3)] [vi z97] s 295 10442 _
        refine x_A k231_332 (fun _ => rfl) ?_
        refine x_A k231_333 (fun _ => rfl) ?_
        refine x_A k231_334 (fun _ => rfl) ?_
        refine x_A k231_335 (fun _ => rfl) ?_
        refine x_A k231_336 (fun _ => rfl) ?_
        refine x_iadd k231_337 ?_
        refine x_top (fun z99 e_z99 => ?_)
        refine x_scr k231_338 hN ⟨by omega, by omega⟩ (fun z100 g_z100 e_z100 => ?_)
        unfold in32 at g_z100
        have q_z100 : z100 = z92 := by rw [e_z100, e_z92, show z99 = z91 by omega]
        refine x_A k231_339 (fun _ => rfl) ?_
        refine x_A k231_340 (fun _ => rfl) ?_
        refine x_A k231_341 (fun _ => rfl) ?_
        refine x_iadd k231_342 ?_
        refine x_top (fun z101 e_z101 => ?_)
        refine x_scr k231_343 hN ⟨by omega, by omega⟩ (fun z102 g_z102 e_z102 => ?_)
        unfold in32 at g_z102
        have q_z102 : z102 = z94 := by rw [e_z102, e_z94, show z101 = z93 by omega]
        refine x_A k231_344 (fun _ => rfl) ?_
        refine x_A k231_345 (fun _ => rfl) ?_
        refine x_A k231_346 (fun _ => rfl) ?_
        refine x_iadd k231_347 ?_
        refine x_top (fun z103 e_z103 => ?_)
        refine x_scr k231_348 hN ⟨by omega, by omega⟩ (fun z104 g_z104 e_z104 => ?_)
        unfold in32 at g_z104
        have q_z104 : z104 = z96 := by rw [e_z104, e_z96, show z103 = z95 by omega]
        refine x_callV k231_349 (y := 150) (n := 3) (w0 := 0) (w1 := 3) (as := [vi z100, vi z102, vi z104]) (rest := []) (by decide +kernel) (q := 256) (nq := 62) (kq := 15) ⟨by decide, rfl⟩ rfl rfl rfl rfl (xe_mono (C_X11_below_256 s hG i_J z100 ⟨by omega, by omega⟩ z102 ⟨by omega, by omega⟩ z104 ⟨by omega, by omega⟩) ?_)
        rintro s106 v ⟨-, t_s106, z105, rfl, g_z105⟩
        rw [t_s106.nil]
        show xe (some (N, xs)) 231 352 [(0, .ref 2000), (1, .ref 0), (2, .ref 256), (3, vi x3)] [vi z105] s 295 10442 _
        refine x_A k231_352 (fun _ => rfl) ?_
        refine x_goto k231_353 (t := 1300) rfl ?_
        refine x_iinc k231_1300 (ls' := [(3, vi (x3 + 7)), (0, .ref 2000), (1, .ref 0), (2, .ref 256)]) rfl (by decide) rfl ?_
        refine x_goto k231_1303 (t := 18) rfl ?_
        refine x_ls (l := [(0, .ref 2000), (1, .ref 0), (2, .ref 256), (3, vi (x3 + 7))]) (show ([0, 1, 2, 3] : List Nat).Nodup from by decide) ⟨rfl, rfl, rfl, rfl, trivial⟩ ?_
        exact ih s (x3 + 7) hG f ⟨by omega, by omega⟩ i_J i_TR i_X1 i_R1 i_G1 i_G3 i_Y1 i_W1 i_Q1 i_VCj i_VCl  (by omega)
      · rw [c5]
        refine x_B k231_33 rfl (fun _ => rfl) (fun _ => rfl) (fun _ _ => rfl) ?_
        show xe (some (N, xs)) 231 356 [(0, .ref 2000), (1, .ref 0), (2, .ref 256), (3, vi x3)] [] s 295 10442 _
        refine x_A k231_356 (fun _ => rfl) ?_
        refine x_A k231_357 (fun _ => rfl) ?_
        refine x_A k231_358 (fun _ => rfl) ?_
        refine x_A k231_359 (fun _ => rfl) ?_
        refine x_iadd k231_360 ?_
        refine x_top (fun z107 e_z107 => ?_)
        refine x_scr k231_361 hN ⟨by omega, by omega⟩ (fun z108 g_z108 e_z108 => ?_)
        unfold in32 at g_z108
        refine x_A k231_362 (fun _ => rfl) ?_
        refine x_A k231_363 (fun _ => rfl) ?_
        refine x_A k231_364 (fun _ => rfl) ?_
        refine x_iadd k231_365 ?_
        refine x_top (fun z109 e_z109 => ?_)
        refine x_scr k231_366 hN ⟨by omega, by omega⟩ (fun z110 g_z110 e_z110 => ?_)
        unfold in32 at g_z110
        refine x_A k231_367 (fun _ => rfl) ?_
        refine x_A k231_368 (fun _ => rfl) ?_
        refine x_A k231_369 (fun _ => rfl) ?_
        refine x_iadd k231_370 ?_
        refine x_top (fun z111 e_z111 => ?_)
        refine x_scr k231_371 hN ⟨by omega, by omega⟩ (fun z112 g_z112 e_z112 => ?_)
        unfold in32 at g_z112
        obtain ⟨z113, e_z113⟩ : ∃ z, z = s 46 3 := ⟨_, rfl⟩
        have g_z113 : (0 : Int) ≤ s 46 3 ∧ s 46 3 ≤ 40 := hG 46 3
        refine x_callV k231_372 (y := 97) (n := 3) (w0 := 0) (w1 := 3) (as := [vi z108, vi z110, vi z112]) (rest := []) (by decide +kernel) (q := 0) (nq := 12) (kq := 3) ⟨by decide, rfl⟩ rfl rfl rfl rfl (xe_mono (W_X10_picture_0 s hG z108 ⟨by omega, by omega⟩ z110 ⟨by omega, by omega⟩ z112 ⟨by omega, by omega⟩ ⟨by omega, by omega⟩) ?_)
        rintro s115 v ⟨hG_s115, t_s115, z114, rfl, g_z114, xp_z114⟩
        have J_s115 : J s115 := J.fl i_J t_s115 (by decide)
        have TR_s115 : TR s115 := TR.fl i_TR (hG 256 1).2 t_s115 (by decide)
        have X1_s115 : X1 s115 := X1.fl i_X1 t_s115 (by decide)
        have R1_s115 : R1 s115 := R1.fl i_R1 t_s115 (by decide)
        have G1_s115 : G1 s115 := G1.fl i_G1 t_s115 (by decide)
        have W1_s115 : W1 s115 := W1.fl i_W1 t_s115 (by decide)
        have Q1_s115 : Q1 s115 := Q1.fl i_Q1 t_s115 (by decide)
        have VCj_s115 : VCj s115 := VCj.fl i_VCj hG t_s115 (by decide)
        have VCl_s115 : VCl s115 := VCl.fl i_VCl hG t_s115 (by decide)
        obtain ⟨z116, e_z116⟩ : ∃ z, z = s115 46 3 := ⟨_, rfl⟩
        have g_z116 : (0 : Int) ≤ s115 46 3 ∧ s115 46 3 ≤ 40 := hG_s115 46 3
        show xe (some (N, xs)) 231 375 [(0, .ref 2000), (1, .ref 0), (2, .ref 256), (3, vi x3)] [vi z114] s115 295 10442 _
        refine x_A k231_375 (fun _ => rfl) ?_
        refine x_A k231_376 (fun _ => rfl) ?_
        refine x_A k231_377 (fun _ => rfl) ?_
        refine x_A k231_378 (fun _ => rfl) ?_
        refine x_A k231_379 (fun _ => rfl) ?_
        refine x_iadd k231_380 ?_
        refine x_top (fun z117 e_z117 => ?_)
        refine x_scr k231_381 hN ⟨by omega, by omega⟩ (fun z118 g_z118 e_z118 => ?_)
        unfold in32 at g_z118
        have q_z118 : z118 = z108 := by rw [e_z118, e_z108, show z117 = z107 by omega]
        refine x_A k231_382 (fun _ => rfl) ?_
        refine x_A k231_383 (fun _ => rfl) ?_
        refine x_A k231_384 (fun _ => rfl) ?_
        refine x_iadd k231_385 ?_
        refine x_top (fun z119 e_z119 => ?_)
        refine x_scr k231_386 hN ⟨by omega, by omega⟩ (fun z120 g_z120 e_z120 => ?_)
        unfold in32 at g_z120
        have q_z120 : z120 = z110 := by rw [e_z120, e_z110, show z119 = z109 by omega]
        refine x_A k231_387 (fun _ => rfl) ?_
        refine x_A k231_388 (fun _ => rfl) ?_
        refine x_A k231_389 (fun _ => rfl) ?_
        refine x_iadd k231_390 ?_
        refine x_top (fun z121 e_z121 => ?_)
        refine x_scr k231_391 hN ⟨by omega, by omega⟩ (fun z122 g_z122 e_z122 => ?_)
        unfold in32 at g_z122
        have q_z122 : z122 = z112 := by rw [e_z122, e_z112, show z121 = z111 by omega]
        obtain ⟨z123, e_z123⟩ : ∃ z, z = s115 256 6 := ⟨_, rfl⟩
        have g_z123 : (0 : Int) ≤ s115 256 6 ∧ s115 256 6 ≤ 40 := hG_s115 256 6
        refine x_callV k231_392 (y := 154) (n := 3) (w0 := 0) (w1 := 3) (as := [vi z118, vi z120, vi z122]) (rest := []) (by decide +kernel) (q := 256) (nq := 62) (kq := 15) ⟨by decide, rfl⟩ rfl rfl rfl rfl (xe_mono (W_X11_picture_256 s115 hG_s115 z118 ⟨by omega, by omega⟩ z120 ⟨by omega, by omega⟩ z122 ⟨by omega, by omega⟩ ⟨by omega, by omega⟩ J_s115) ?_)
        rintro s125 v ⟨hG_s125, t_s125, z124, rfl, g_z124, xp_z124, J_s125⟩
        have q126 : s125 46 3 = z116 := (t_s125 46 3 (show 452 ∉ [4103, 4416, 4480, 4544] from by decide)).trans e_z116.symm
        have TR_s125 : TR s125 := TR.fl TR_s115 (hG_s115 256 1).2 t_s125 (by decide)
        have X1_s125 : X1 s125 := X1.fl X1_s115 t_s125 (by decide)
        have R1_s125 : R1 s125 := R1.fl R1_s115 t_s125 (by decide)
        have G1_s125 : G1 s125 := G1.fl G1_s115 t_s125 (by decide)
        have W1_s125 : W1 s125 := W1.fl W1_s115 t_s125 (by decide)
        have Q1_s125 : Q1 s125 := Q1.fl Q1_s115 t_s125 (by decide)
        have VCj_s125 : VCj s125 := VCj.fl VCj_s115 hG_s115 t_s125 (by decide)
        have VCl_s125 : VCl s125 := VCl.fl VCl_s115 hG_s115 t_s125 (by decide)
        obtain ⟨z127, e_z127⟩ : ∃ z, z = s125 256 6 := ⟨_, rfl⟩
        have g_z127 : (0 : Int) ≤ s125 256 6 ∧ s125 256 6 ≤ 40 := hG_s125 256 6
        show xe (some (N, xs)) 231 395 [(0, .ref 2000), (1, .ref 0), (2, .ref 256), (3, vi x3)] [vi z124] s125 295 10442 _
        have g46_s125 := i_G3.1
        have e46_s125 : s125 46 3 = s115 46 3 := t_s125 46 3 (by decide)
        have e256_s125 : s115 256 6 = s 256 6 := t_s115 256 6 (by decide)
        have G3_s125 := G3.pic i_G3 t_s115 t_s125 (by decide) (by decide) (by omega) (by omega)
        obtain ⟨ez_s125, Y1_s125⟩ := Y1.pc i_Y1 hG t_s115 t_s125 (by decide) (by decide) xp_z114 (by rw [← q_z118, ← q_z120, ← q_z122]; exact xp_z124)
        refine x_A k231_395 (fun _ => rfl) ?_
        refine x_goto k231_396 (t := 1300) rfl ?_
        refine x_iinc k231_1300 (ls' := [(3, vi (x3 + 7)), (0, .ref 2000), (1, .ref 0), (2, .ref 256)]) rfl (by decide) rfl ?_
        refine x_goto k231_1303 (t := 18) rfl ?_
        refine x_ls (l := [(0, .ref 2000), (1, .ref 0), (2, .ref 256), (3, vi (x3 + 7))]) (show ([0, 1, 2, 3] : List Nat).Nodup from by decide) ⟨rfl, rfl, rfl, rfl, trivial⟩ ?_
        exact ih s125 (x3 + 7) hG_s125 trivial ⟨by omega, by omega⟩ J_s125 TR_s125 X1_s125 R1_s125 G1_s125 G3_s125 Y1_s125 W1_s125 Q1_s125 VCj_s125 VCl_s125  (by omega)
      · rw [c5]
        refine x_B k231_33 rfl (fun _ => rfl) (fun _ => rfl) (fun _ _ => rfl) ?_
        show xe (some (N, xs)) 231 399 [(0, .ref 2000), (1, .ref 0), (2, .ref 256), (3, vi x3)] [] s 295 10442 _
        refine x_A k231_399 (fun _ => rfl) ?_
        refine x_A k231_400 (fun _ => rfl) ?_
        refine x_A k231_401 (fun _ => rfl) ?_
        refine x_A k231_402 (fun _ => rfl) ?_
        refine x_iadd k231_403 ?_
        refine x_top (fun z128 e_z128 => ?_)
        refine x_scr k231_404 hN ⟨by omega, by omega⟩ (fun z129 g_z129 e_z129 => ?_)
        unfold in32 at g_z129
        refine x_A k231_405 (fun _ => rfl) ?_
        refine x_A k231_406 (fun _ => rfl) ?_
        refine x_A k231_407 (fun _ => rfl) ?_
        refine x_iadd k231_408 ?_
        refine x_top (fun z130 e_z130 => ?_)
        refine x_scr k231_409 hN ⟨by omega, by omega⟩ (fun z131 g_z131 e_z131 => ?_)
        unfold in32 at g_z131
        refine x_A k231_410 (fun _ => rfl) ?_
        refine x_A k231_411 (fun _ => rfl) ?_
        refine x_A k231_412 (fun _ => rfl) ?_
        refine x_iadd k231_413 ?_
        refine x_top (fun z132 e_z132 => ?_)
        refine x_scr k231_414 hN ⟨by omega, by omega⟩ (fun z133 g_z133 e_z133 => ?_)
        unfold in32 at g_z133
        refine x_A k231_415 (fun _ => rfl) ?_
        refine x_A k231_416 (fun _ => rfl) ?_
        refine x_A k231_417 (fun _ => rfl) ?_
        refine x_iadd k231_418 ?_
        refine x_top (fun z134 e_z134 => ?_)
        refine x_scr k231_419 hN ⟨by omega, by omega⟩ (fun z135 g_z135 e_z135 => ?_)
        unfold in32 at g_z135
        obtain ⟨z136, e_z136⟩ : ∃ z, z = s 50 6 := ⟨_, rfl⟩
        have g_z136 : (0 : Int) ≤ s 50 6 ∧ s 50 6 ≤ 120 := hG 50 6
        obtain ⟨z137, e_z137⟩ : ∃ z, z = s 46 3 := ⟨_, rfl⟩
        have g_z137 : (0 : Int) ≤ s 46 3 ∧ s 46 3 ≤ 40 := hG 46 3
        obtain ⟨z138, e_z138⟩ : ∃ z, z = s 1 4 := ⟨_, rfl⟩
        have g_z138 : (1 : Int) ≤ s 1 4 ∧ s 1 4 ≤ 40 := hG 1 4
        obtain ⟨z139, e_z139⟩ : ∃ z, z = s 0 10 := ⟨_, rfl⟩
        have g_z139 : (0 : Int) ≤ s 0 10 ∧ s 0 10 ≤ 9 := hG 0 10
        refine x_callV k231_420 (y := 98) (n := 4) (w0 := 0) (w1 := 4) (as := [vi z129, vi z131, vi z133, vi z135]) (rest := []) (by decide +kernel) (q := 0) (nq := 12) (kq := 3) ⟨by decide, rfl⟩ rfl rfl rfl rfl (xe_mono (V_X10_give_0 s hG z129 ⟨by omega, by omega⟩ z131 ⟨by omega, by omega⟩ z133 ⟨by omega, by omega⟩ z135 ⟨by omega, by omega⟩ ⟨by omega, by omega⟩ ⟨by omega, by omega⟩ ⟨by omega, by omega⟩ ⟨by omega, by omega⟩ i_VCj i_VCl) ?_)
        rintro s141 v ⟨hG_s141, t_s141, z140, rfl, g_z140, xp_z140, VCj_s141, VCl_s141⟩
        have q142 : s141 46 3 = z137 := (t_s141 46 3 (show 452 ∉ [711, 768, 832, 896, 960, 1024, 1152, 3276, 3277] from by decide)).trans e_z137.symm
        have q143 : s141 1 4 = z138 := (t_s141 1 4 (show 69 ∉ [711, 768, 832, 896, 960, 1024, 1152, 3276, 3277] from by decide)).trans e_z138.symm
        have q144 : s141 0 10 = z139 := (t_s141 0 10 (show 11 ∉ [711, 768, 832, 896, 960, 1024, 1152, 3276, 3277] from by decide)).trans e_z139.symm
        have J_s141 : J s141 := J.fl i_J t_s141 (by decide)
        have TR_s141 : TR s141 := TR.fl i_TR (hG 256 1).2 t_s141 (by decide)
        have X1_s141 : X1 s141 := X1.fl i_X1 t_s141 (by decide)
        have R1_s141 : R1 s141 := R1.fl i_R1 t_s141 (by decide)
        have Y1_s141 : Y1 s141 := Y1.fl i_Y1 t_s141 (by decide)
        have W1_s141 : W1 s141 := W1.fl i_W1 t_s141 (by decide)
        have Q1_s141 : Q1 s141 := Q1.fl i_Q1 t_s141 (by decide)
        obtain ⟨z145, e_z145⟩ : ∃ z, z = s141 50 6 := ⟨_, rfl⟩
        have g_z145 : (0 : Int) ≤ s141 50 6 ∧ s141 50 6 ≤ 120 := hG_s141 50 6
        show xe (some (N, xs)) 231 423 [(0, .ref 2000), (1, .ref 0), (2, .ref 256), (3, vi x3)] [vi z140] s141 295 10442 _
        refine x_A k231_423 (fun _ => rfl) ?_
        refine x_A k231_424 (fun _ => rfl) ?_
        refine x_A k231_425 (fun _ => rfl) ?_
        refine x_A k231_426 (fun _ => rfl) ?_
        refine x_A k231_427 (fun _ => rfl) ?_
        refine x_iadd k231_428 ?_
        refine x_top (fun z146 e_z146 => ?_)
        refine x_scr k231_429 hN ⟨by omega, by omega⟩ (fun z147 g_z147 e_z147 => ?_)
        unfold in32 at g_z147
        have q_z147 : z147 = z129 := by rw [e_z147, e_z129, show z146 = z128 by omega]
        refine x_A k231_430 (fun _ => rfl) ?_
        refine x_A k231_431 (fun _ => rfl) ?_
        refine x_A k231_432 (fun _ => rfl) ?_
        refine x_iadd k231_433 ?_
        refine x_top (fun z148 e_z148 => ?_)
        refine x_scr k231_434 hN ⟨by omega, by omega⟩ (fun z149 g_z149 e_z149 => ?_)
        unfold in32 at g_z149
        have q_z149 : z149 = z131 := by rw [e_z149, e_z131, show z148 = z130 by omega]
        refine x_A k231_435 (fun _ => rfl) ?_
        refine x_A k231_436 (fun _ => rfl) ?_
        refine x_A k231_437 (fun _ => rfl) ?_
        refine x_iadd k231_438 ?_
        refine x_top (fun z150 e_z150 => ?_)
        refine x_scr k231_439 hN ⟨by omega, by omega⟩ (fun z151 g_z151 e_z151 => ?_)
        unfold in32 at g_z151
        have q_z151 : z151 = z133 := by rw [e_z151, e_z133, show z150 = z132 by omega]
        refine x_A k231_440 (fun _ => rfl) ?_
        refine x_A k231_441 (fun _ => rfl) ?_
        refine x_A k231_442 (fun _ => rfl) ?_
        refine x_iadd k231_443 ?_
        refine x_top (fun z152 e_z152 => ?_)
        refine x_scr k231_444 hN ⟨by omega, by omega⟩ (fun z153 g_z153 e_z153 => ?_)
        unfold in32 at g_z153
        have q_z153 : z153 = z135 := by rw [e_z153, e_z135, show z152 = z134 by omega]
        obtain ⟨z154, e_z154⟩ : ∃ z, z = s141 256 10 := ⟨_, rfl⟩
        have g_z154 : (0 : Int) ≤ s141 256 10 ∧ s141 256 10 ≤ 120 := hG_s141 256 10
        obtain ⟨z155, e_z155⟩ : ∃ z, z = s141 256 6 := ⟨_, rfl⟩
        have g_z155 : (0 : Int) ≤ s141 256 6 ∧ s141 256 6 ≤ 40 := hG_s141 256 6
        obtain ⟨z156, e_z156⟩ : ∃ z, z = s141 256 1 := ⟨_, rfl⟩
        have g_z156 : (1 : Int) ≤ s141 256 1 ∧ s141 256 1 ≤ 40 := hG_s141 256 1
        obtain ⟨z157, e_z157⟩ : ∃ z, z = s141 256 0 := ⟨_, rfl⟩
        have g_z157 : (0 : Int) ≤ s141 256 0 ∧ s141 256 0 ≤ 9 := hG_s141 256 0
        refine x_callV k231_445 (y := 155) (n := 4) (w0 := 0) (w1 := 4) (as := [vi z147, vi z149, vi z151, vi z153]) (rest := []) (by decide +kernel) (q := 256) (nq := 62) (kq := 15) ⟨by decide, rfl⟩ rfl rfl rfl rfl (xe_mono (V_X11_give_256 s141 hG_s141 z147 ⟨by omega, by omega⟩ z149 ⟨by omega, by omega⟩ z151 ⟨by omega, by omega⟩ z153 ⟨by omega, by omega⟩ ⟨by omega, by omega⟩ ⟨by omega, by omega⟩ ⟨by omega, by omega⟩ ⟨by omega, by omega⟩) ?_)
        rintro s159 v ⟨hG_s159, t_s159, z158, rfl, g_z158, xp_z158⟩
        have q160 : s159 46 3 = z137 := (t_s159 46 3 (show 452 ∉ [4107, 4608, 4672, 4736, 4800, 4864, 4928] from by decide)).trans q142
        have q161 : s159 1 4 = z138 := (t_s159 1 4 (show 69 ∉ [4107, 4608, 4672, 4736, 4800, 4864, 4928] from by decide)).trans q143
        have q162 : s159 0 10 = z139 := (t_s159 0 10 (show 11 ∉ [4107, 4608, 4672, 4736, 4800, 4864, 4928] from by decide)).trans q144
        have q163 : s159 50 6 = z145 := (t_s159 50 6 (show 711 ∉ [4107, 4608, 4672, 4736, 4800, 4864, 4928] from by decide)).trans e_z145.symm
        have q164 : s159 256 6 = z155 := (t_s159 256 6 (show 4103 ∉ [4107, 4608, 4672, 4736, 4800, 4864, 4928] from by decide)).trans e_z155.symm
        have q165 : s159 256 1 = z156 := (t_s159 256 1 (show 4098 ∉ [4107, 4608, 4672, 4736, 4800, 4864, 4928] from by decide)).trans e_z156.symm
        have q166 : s159 256 0 = z157 := (t_s159 256 0 (show 4097 ∉ [4107, 4608, 4672, 4736, 4800, 4864, 4928] from by decide)).trans e_z157.symm
        have J_s159 : J s159 := J.fl J_s141 t_s159 (by decide)
        have TR_s159 : TR s159 := TR.fl TR_s141 (hG_s141 256 1).2 t_s159 (by decide)
        have X1_s159 : X1 s159 := X1.fl X1_s141 t_s159 (by decide)
        have R1_s159 : R1 s159 := R1.fl R1_s141 t_s159 (by decide)
        have Y1_s159 : Y1 s159 := Y1.fl Y1_s141 t_s159 (by decide)
        have W1_s159 : W1 s159 := W1.fl W1_s141 t_s159 (by decide)
        have Q1_s159 : Q1 s159 := Q1.fl Q1_s141 t_s159 (by decide)
        have VCj_s159 : VCj s159 := VCj.fl VCj_s141 hG_s141 t_s159 (by decide)
        have VCl_s159 : VCl s159 := VCl.fl VCl_s141 hG_s141 t_s159 (by decide)
        obtain ⟨z167, e_z167⟩ : ∃ z, z = s159 256 10 := ⟨_, rfl⟩
        have g_z167 : (0 : Int) ≤ s159 256 10 ∧ s159 256 10 ≤ 120 := hG_s159 256 10
        show xe (some (N, xs)) 231 448 [(0, .ref 2000), (1, .ref 0), (2, .ref 256), (3, vi x3)] [vi z158] s159 295 10442 _
        obtain ⟨ez_s159, G1_s159⟩ := G1.give i_G1 i_TR.1.2.1 i_G3.1 hG t_s141 t_s159 (by decide) (by decide) xp_z140.1 (by rw [← q_z147, ← q_z149, ← q_z151, ← q_z153]; exact xp_z158.1)
        have G3_s159 := G3.give i_G3 i_G1 i_TR.1 i_TR.2.1 hG t_s141 t_s159 (by decide) (by decide) ez_s159 xp_z140.1 xp_z140.2 (by have w_ := xp_z158.2; (try rw [q_z147] at w_); (try rw [q_z149] at w_); (try rw [q_z151] at w_); (try rw [q_z153] at w_); exact w_)
        refine x_A k231_448 (fun _ => rfl) ?_
        refine x_goto k231_449 (t := 1300) rfl ?_
        refine x_iinc k231_1300 (ls' := [(3, vi (x3 + 7)), (0, .ref 2000), (1, .ref 0), (2, .ref 256)]) rfl (by decide) rfl ?_
        refine x_goto k231_1303 (t := 18) rfl ?_
        refine x_ls (l := [(0, .ref 2000), (1, .ref 0), (2, .ref 256), (3, vi (x3 + 7))]) (show ([0, 1, 2, 3] : List Nat).Nodup from by decide) ⟨rfl, rfl, rfl, rfl, trivial⟩ ?_
        exact ih s159 (x3 + 7) hG_s159 trivial ⟨by omega, by omega⟩ J_s159 TR_s159 X1_s159 R1_s159 G1_s159 G3_s159 Y1_s159 W1_s159 Q1_s159 VCj_s159 VCl_s159  (by omega)
      · rw [c5]
        refine x_B k231_33 rfl (fun _ => rfl) (fun _ => rfl) (fun _ _ => rfl) ?_
        show xe (some (N, xs)) 231 452 [(0, .ref 2000), (1, .ref 0), (2, .ref 256), (3, vi x3)] [] s 295 10442 _
        refine x_A k231_452 (fun _ => rfl) ?_
        refine x_A k231_453 (fun _ => rfl) ?_
        refine x_A k231_454 (fun _ => rfl) ?_
        refine x_A k231_455 (fun _ => rfl) ?_
        refine x_iadd k231_456 ?_
        refine x_top (fun z168 e_z168 => ?_)
        refine x_scr k231_457 hN ⟨by omega, by omega⟩ (fun z169 g_z169 e_z169 => ?_)
        unfold in32 at g_z169
        refine x_A k231_458 (fun _ => rfl) ?_
        refine x_A k231_459 (fun _ => rfl) ?_
        refine x_A k231_460 (fun _ => rfl) ?_
        refine x_iadd k231_461 ?_
        refine x_top (fun z170 e_z170 => ?_)
        refine x_scr k231_462 hN ⟨by omega, by omega⟩ (fun z171 g_z171 e_z171 => ?_)
        unfold in32 at g_z171
        obtain ⟨z172, e_z172⟩ : ∃ z, z = s 50 6 := ⟨_, rfl⟩
        have g_z172 : (0 : Int) ≤ s 50 6 ∧ s 50 6 ≤ 120 := hG 50 6
        obtain ⟨z173, e_z173⟩ : ∃ z, z = s 0 10 := ⟨_, rfl⟩
        have g_z173 : (0 : Int) ≤ s 0 10 ∧ s 0 10 ≤ 9 := hG 0 10
        refine x_callV k231_463 (y := 99) (n := 2) (w0 := 0) (w1 := 2) (as := [vi z169, vi z171]) (rest := []) (by decide +kernel) (q := 0) (nq := 12) (kq := 3) ⟨by decide, rfl⟩ rfl rfl rfl rfl (xe_mono (V_X10_doubt_0 s hG z169 ⟨by omega, by omega⟩ z171 ⟨by omega, by omega⟩ ⟨by omega, by omega⟩ ⟨by omega, by omega⟩ i_VCj i_VCl) ?_)
        rintro s175 v ⟨hG_s175, t_s175, z174, rfl, g_z174, xp_z174, VCj_s175, VCl_s175⟩
        have q176 : s175 50 6 = z172 := (t_s175 50 6 (show 711 ∉ [1152, 3276, 3277] from by decide)).trans e_z172.symm
        have q177 : s175 0 10 = z173 := (t_s175 0 10 (show 11 ∉ [1152, 3276, 3277] from by decide)).trans e_z173.symm
        have J_s175 : J s175 := J.fl i_J t_s175 (by decide)
        have TR_s175 : TR s175 := TR.fl i_TR (hG 256 1).2 t_s175 (by decide)
        have X1_s175 : X1 s175 := X1.fl i_X1 t_s175 (by decide)
        have R1_s175 : R1 s175 := R1.fl i_R1 t_s175 (by decide)
        have G3_s175 : G3 s175 := G3.fl i_G3 t_s175 (by decide)
        have Y1_s175 : Y1 s175 := Y1.fl i_Y1 t_s175 (by decide)
        have W1_s175 : W1 s175 := W1.fl i_W1 t_s175 (by decide)
        have Q1_s175 : Q1 s175 := Q1.fl i_Q1 t_s175 (by decide)
        show xe (some (N, xs)) 231 466 [(0, .ref 2000), (1, .ref 0), (2, .ref 256), (3, vi x3)] [vi z174] s175 295 10442 _
        refine x_A k231_466 (fun _ => rfl) ?_
        refine x_A k231_467 (fun _ => rfl) ?_
        refine x_A k231_468 (fun _ => rfl) ?_
        refine x_A k231_469 (fun _ => rfl) ?_
        refine x_A k231_470 (fun _ => rfl) ?_
        refine x_iadd k231_471 ?_
        refine x_top (fun z178 e_z178 => ?_)
        refine x_scr k231_472 hN ⟨by omega, by omega⟩ (fun z179 g_z179 e_z179 => ?_)
        unfold in32 at g_z179
        have q_z179 : z179 = z169 := by rw [e_z179, e_z169, show z178 = z168 by omega]
        refine x_A k231_473 (fun _ => rfl) ?_
        refine x_A k231_474 (fun _ => rfl) ?_
        refine x_A k231_475 (fun _ => rfl) ?_
        refine x_iadd k231_476 ?_
        refine x_top (fun z180 e_z180 => ?_)
        refine x_scr k231_477 hN ⟨by omega, by omega⟩ (fun z181 g_z181 e_z181 => ?_)
        unfold in32 at g_z181
        have q_z181 : z181 = z171 := by rw [e_z181, e_z171, show z180 = z170 by omega]
        obtain ⟨z182, e_z182⟩ : ∃ z, z = s175 256 10 := ⟨_, rfl⟩
        have g_z182 : (0 : Int) ≤ s175 256 10 ∧ s175 256 10 ≤ 120 := hG_s175 256 10
        obtain ⟨z183, e_z183⟩ : ∃ z, z = s175 256 0 := ⟨_, rfl⟩
        have g_z183 : (0 : Int) ≤ s175 256 0 ∧ s175 256 0 ≤ 9 := hG_s175 256 0
        refine x_callV k231_478 (y := 157) (n := 2) (w0 := 0) (w1 := 2) (as := [vi z179, vi z181]) (rest := []) (by decide +kernel) (q := 256) (nq := 62) (kq := 15) ⟨by decide, rfl⟩ rfl rfl rfl rfl (xe_mono (E_X11_doubt_256 s175 hG_s175 z179 ⟨by omega, by omega⟩ z181 ⟨by omega, by omega⟩ ⟨by omega, by omega⟩ ⟨by omega, by omega⟩) ?_)
        rintro s185 v ⟨hG_s185, t_s185, z184, rfl, g_z184, xp_z184⟩
        have q186 : s185 50 6 = z172 := (t_s185 50 6 (show 711 ∉ [4928] from by decide)).trans q176
        have q187 : s185 0 10 = z173 := (t_s185 0 10 (show 11 ∉ [4928] from by decide)).trans q177
        have q188 : s185 256 10 = z182 := (t_s185 256 10 (show 4107 ∉ [4928] from by decide)).trans e_z182.symm
        have q189 : s185 256 0 = z183 := (t_s185 256 0 (show 4097 ∉ [4928] from by decide)).trans e_z183.symm
        have J_s185 : J s185 := J.fl J_s175 t_s185 (by decide)
        have TR_s185 : TR s185 := TR.fl TR_s175 (hG_s175 256 1).2 t_s185 (by decide)
        have X1_s185 : X1 s185 := X1.fl X1_s175 t_s185 (by decide)
        have R1_s185 : R1 s185 := R1.fl R1_s175 t_s185 (by decide)
        have G3_s185 : G3 s185 := G3.fl G3_s175 t_s185 (by decide)
        have Y1_s185 : Y1 s185 := Y1.fl Y1_s175 t_s185 (by decide)
        have W1_s185 : W1 s185 := W1.fl W1_s175 t_s185 (by decide)
        have Q1_s185 : Q1 s185 := Q1.fl Q1_s175 t_s185 (by decide)
        have VCj_s185 : VCj s185 := VCj.fl VCj_s175 hG_s175 t_s185 (by decide)
        have VCl_s185 : VCl s185 := VCl.fl VCl_s175 hG_s175 t_s185 (by decide)
        show xe (some (N, xs)) 231 481 [(0, .ref 2000), (1, .ref 0), (2, .ref 256), (3, vi x3)] [vi z184] s185 295 10442 _
        obtain ⟨ez_s185, G1_s185⟩ := G1.doubt i_G1 i_TR.1.1 hG t_s175 t_s185 (by decide) (by decide) xp_z174 (by rw [← q_z179, ← q_z181]; exact xp_z184)
        refine x_A k231_481 (fun _ => rfl) ?_
        refine x_goto k231_482 (t := 1300) rfl ?_
        refine x_iinc k231_1300 (ls' := [(3, vi (x3 + 7)), (0, .ref 2000), (1, .ref 0), (2, .ref 256)]) rfl (by decide) rfl ?_
        refine x_goto k231_1303 (t := 18) rfl ?_
        refine x_ls (l := [(0, .ref 2000), (1, .ref 0), (2, .ref 256), (3, vi (x3 + 7))]) (show ([0, 1, 2, 3] : List Nat).Nodup from by decide) ⟨rfl, rfl, rfl, rfl, trivial⟩ ?_
        exact ih s185 (x3 + 7) hG_s185 trivial ⟨by omega, by omega⟩ J_s185 TR_s185 X1_s185 R1_s185 G1_s185 G3_s185 Y1_s185 W1_s185 Q1_s185 VCj_s185 VCl_s185  (by omega)
      · rw [c5]
        refine x_B k231_33 rfl (fun _ => rfl) (fun _ => rfl) (fun _ _ => rfl) ?_
        show xe (some (N, xs)) 231 485 [(0, .ref 2000), (1, .ref 0), (2, .ref 256), (3, vi x3)] [] s 295 10442 _
        refine x_A k231_485 (fun _ => rfl) ?_
        refine x_A k231_486 (fun _ => rfl) ?_
        refine x_A k231_487 (fun _ => rfl) ?_
        refine x_A k231_488 (fun _ => rfl) ?_
        refine x_iadd k231_489 ?_
        refine x_top (fun z190 e_z190 => ?_)
        refine x_scr k231_490 hN ⟨by omega, by omega⟩ (fun z191 g_z191 e_z191 => ?_)
        unfold in32 at g_z191
        refine x_A k231_491 (fun _ => rfl) ?_
        refine x_A k231_492 (fun _ => rfl) ?_
        refine x_A k231_493 (fun _ => rfl) ?_
        refine x_iadd k231_494 ?_
        refine x_top (fun z192 e_z192 => ?_)
        refine x_scr k231_495 hN ⟨by omega, by omega⟩ (fun z193 g_z193 e_z193 => ?_)
        unfold in32 at g_z193
        obtain ⟨z194, e_z194⟩ : ∃ z, z = s 50 6 := ⟨_, rfl⟩
        have g_z194 : (0 : Int) ≤ s 50 6 ∧ s 50 6 ≤ 120 := hG 50 6
        obtain ⟨z195, e_z195⟩ : ∃ z, z = s 0 10 := ⟨_, rfl⟩
        have g_z195 : (0 : Int) ≤ s 0 10 ∧ s 0 10 ≤ 9 := hG 0 10
        refine x_callV k231_496 (y := 100) (n := 2) (w0 := 0) (w1 := 2) (as := [vi z191, vi z193]) (rest := []) (by decide +kernel) (q := 0) (nq := 12) (kq := 3) ⟨by decide, rfl⟩ rfl rfl rfl rfl (xe_mono (W_X10_told_0 s hG i_J z191 ⟨by omega, by omega⟩ z193 ⟨by omega, by omega⟩ ⟨by omega, by omega⟩ ⟨by omega, by omega⟩ i_R1 i_VCj i_VCl) ?_)
        rintro s197 v ⟨hG_s197, t_s197, z196, rfl, g_z196, xp_z196, VCj_s197, VCl_s197⟩
        have q198 : s197 50 6 = z194 := (t_s197 50 6 (show 711 ∉ [3329, 3334, 3335, 3336, 3392, 3456, 3520, 3584, 3276, 3648, 3712, 3776, 3840, 3904, 3968, 3277, 4032] from by decide)).trans e_z194.symm
        have q199 : s197 0 10 = z195 := (t_s197 0 10 (show 11 ∉ [3329, 3334, 3335, 3336, 3392, 3456, 3520, 3584, 3276, 3648, 3712, 3776, 3840, 3904, 3968, 3277, 4032] from by decide)).trans e_z195.symm
        have J_s197 : J s197 := J.fl i_J t_s197 (by decide)
        have TR_s197 : TR s197 := TR.fl i_TR (hG 256 1).2 t_s197 (by decide)
        have X1_s197 : X1 s197 := X1.fl i_X1 t_s197 (by decide)
        have R1_s197 : R1 s197 := R1.fl i_R1 t_s197 (by decide)
        have G1_s197 : G1 s197 := G1.fl i_G1 t_s197 (by decide)
        have G3_s197 : G3 s197 := G3.fl i_G3 t_s197 (by decide)
        have Y1_s197 : Y1 s197 := Y1.fl i_Y1 t_s197 (by decide)
        have W1_s197 : W1 s197 := W1.fl i_W1 t_s197 (by decide)
        have Q1_s197 : Q1 s197 := Q1.fl i_Q1 t_s197 (by decide)
        show xe (some (N, xs)) 231 499 [(0, .ref 2000), (1, .ref 0), (2, .ref 256), (3, vi x3)] [vi z196] s197 295 10442 _
        refine x_A k231_499 (fun _ => rfl) ?_
        refine x_A k231_500 (fun _ => rfl) ?_
        refine x_A k231_501 (fun _ => rfl) ?_
        refine x_A k231_502 (fun _ => rfl) ?_
        refine x_A k231_503 (fun _ => rfl) ?_
        refine x_iadd k231_504 ?_
        refine x_top (fun z200 e_z200 => ?_)
        refine x_scr k231_505 hN ⟨by omega, by omega⟩ (fun z201 g_z201 e_z201 => ?_)
        unfold in32 at g_z201
        have q_z201 : z201 = z191 := by rw [e_z201, e_z191, show z200 = z190 by omega]
        refine x_A k231_506 (fun _ => rfl) ?_
        refine x_A k231_507 (fun _ => rfl) ?_
        refine x_A k231_508 (fun _ => rfl) ?_
        refine x_iadd k231_509 ?_
        refine x_top (fun z202 e_z202 => ?_)
        refine x_scr k231_510 hN ⟨by omega, by omega⟩ (fun z203 g_z203 e_z203 => ?_)
        unfold in32 at g_z203
        have q_z203 : z203 = z193 := by rw [e_z203, e_z193, show z202 = z192 by omega]
        refine x_callV k231_511 (y := 158) (n := 2) (w0 := 0) (w1 := 2) (as := [vi z201, vi z203]) (rest := []) (by decide +kernel) (q := 256) (nq := 62) (kq := 15) ⟨by decide, rfl⟩ rfl rfl rfl rfl (xe_mono (E_X11_told_256 s197 hG_s197 J_s197 z201 ⟨by omega, by omega⟩ z203 ⟨by omega, by omega⟩ R1_s197 TR_s197 G1_s197 G3_s197) ?_)
        rintro s205 v ⟨hG_s205, t_s205, z204, rfl, g_z204, xp_z204⟩
        have q206 : s205 50 6 = z194 := (t_s205 50 6 (show 711 ∉ [5312, 5376, 4123, 5440, 5504, 5568] from by decide)).trans q198
        have q207 : s205 0 10 = z195 := (t_s205 0 10 (show 11 ∉ [5312, 5376, 4123, 5440, 5504, 5568] from by decide)).trans q199
        have J_s205 : J s205 := J.fl J_s197 t_s205 (by decide)
        have TR_s205 : TR s205 := TR.fl TR_s197 (hG_s197 256 1).2 t_s205 (by decide)
        have X1_s205 : X1 s205 := X1.fl X1_s197 t_s205 (by decide)
        have R1_s205 : R1 s205 := R1.fl R1_s197 t_s205 (by decide)
        have G1_s205 : G1 s205 := G1.fl G1_s197 t_s205 (by decide)
        have G3_s205 : G3 s205 := G3.fl G3_s197 t_s205 (by decide)
        have Y1_s205 : Y1 s205 := Y1.fl Y1_s197 t_s205 (by decide)
        have W1_s205 : W1 s205 := W1.fl W1_s197 t_s205 (by decide)
        have Q1_s205 : Q1 s205 := Q1.fl Q1_s197 t_s205 (by decide)
        have VCj_s205 : VCj s205 := VCj.fl VCj_s197 hG_s197 t_s205 (by decide)
        have VCl_s205 : VCl s205 := VCl.fl VCl_s197 hG_s197 t_s205 (by decide)
        show xe (some (N, xs)) 231 514 [(0, .ref 2000), (1, .ref 0), (2, .ref 256), (3, vi x3)] [vi z204] s205 295 10442 _
        refine x_A k231_514 (fun _ => rfl) ?_
        refine x_goto k231_515 (t := 1300) rfl ?_
        refine x_iinc k231_1300 (ls' := [(3, vi (x3 + 7)), (0, .ref 2000), (1, .ref 0), (2, .ref 256)]) rfl (by decide) rfl ?_
        refine x_goto k231_1303 (t := 18) rfl ?_
        refine x_ls (l := [(0, .ref 2000), (1, .ref 0), (2, .ref 256), (3, vi (x3 + 7))]) (show ([0, 1, 2, 3] : List Nat).Nodup from by decide) ⟨rfl, rfl, rfl, rfl, trivial⟩ ?_
        exact ih s205 (x3 + 7) hG_s205 trivial ⟨by omega, by omega⟩ J_s205 TR_s205 X1_s205 R1_s205 G1_s205 G3_s205 Y1_s205 W1_s205 Q1_s205 VCj_s205 VCl_s205  (by omega)
      · rw [c5]
        refine x_B k231_33 rfl (fun _ => rfl) (fun _ => rfl) (fun _ _ => rfl) ?_
        show xe (some (N, xs)) 231 518 [(0, .ref 2000), (1, .ref 0), (2, .ref 256), (3, vi x3)] [] s 295 10442 _
        refine x_A k231_518 (fun _ => rfl) ?_
        refine x_A k231_519 (fun _ => rfl) ?_
        refine x_A k231_520 (fun _ => rfl) ?_
        refine x_A k231_521 (fun _ => rfl) ?_
        refine x_iadd k231_522 ?_
        refine x_top (fun z208 e_z208 => ?_)
        refine x_scr k231_523 hN ⟨by omega, by omega⟩ (fun z209 g_z209 e_z209 => ?_)
        unfold in32 at g_z209
        refine x_A k231_524 (fun _ => rfl) ?_
        refine x_A k231_525 (fun _ => rfl) ?_
        refine x_A k231_526 (fun _ => rfl) ?_
        refine x_iadd k231_527 ?_
        refine x_top (fun z210 e_z210 => ?_)
        refine x_scr k231_528 hN ⟨by omega, by omega⟩ (fun z211 g_z211 e_z211 => ?_)
        unfold in32 at g_z211
        refine x_A k231_529 (fun _ => rfl) ?_
        refine x_A k231_530 (fun _ => rfl) ?_
        refine x_A k231_531 (fun _ => rfl) ?_
        refine x_iadd k231_532 ?_
        refine x_top (fun z212 e_z212 => ?_)
        refine x_scr k231_533 hN ⟨by omega, by omega⟩ (fun z213 g_z213 e_z213 => ?_)
        unfold in32 at g_z213
        refine x_callV k231_534 (y := 101) (n := 3) (w0 := 0) (w1 := 3) (as := [vi z209, vi z211, vi z213]) (rest := []) (by decide +kernel) (q := 0) (nq := 12) (kq := 3) ⟨by decide, rfl⟩ rfl rfl rfl rfl (xe_mono (V_X10_means_0 s hG i_J z209 ⟨by omega, by omega⟩ z211 ⟨by omega, by omega⟩ z213 ⟨by omega, by omega⟩ i_R1 i_VCj i_VCl) ?_)
        rintro s215 v ⟨hG_s215, t_s215, z214, rfl, g_z214, VCj_s215, VCl_s215⟩
        have J_s215 : J s215 := J.fl i_J t_s215 (by decide)
        have TR_s215 : TR s215 := TR.fl i_TR (hG 256 1).2 t_s215 (by decide)
        have X1_s215 : X1 s215 := X1.fl i_X1 t_s215 (by decide)
        have R1_s215 : R1 s215 := R1.fl i_R1 t_s215 (by decide)
        have G1_s215 : G1 s215 := G1.fl i_G1 t_s215 (by decide)
        have G3_s215 : G3 s215 := G3.fl i_G3 t_s215 (by decide)
        have Y1_s215 : Y1 s215 := Y1.fl i_Y1 t_s215 (by decide)
        have W1_s215 : W1 s215 := W1.fl i_W1 t_s215 (by decide)
        have Q1_s215 : Q1 s215 := Q1.fl i_Q1 t_s215 (by decide)
        show xe (some (N, xs)) 231 537 [(0, .ref 2000), (1, .ref 0), (2, .ref 256), (3, vi x3)] [vi z214] s215 295 10442 _
        refine x_A k231_537 (fun _ => rfl) ?_
        refine x_A k231_538 (fun _ => rfl) ?_
        refine x_A k231_539 (fun _ => rfl) ?_
        refine x_A k231_540 (fun _ => rfl) ?_
        refine x_A k231_541 (fun _ => rfl) ?_
        refine x_iadd k231_542 ?_
        refine x_top (fun z216 e_z216 => ?_)
        refine x_scr k231_543 hN ⟨by omega, by omega⟩ (fun z217 g_z217 e_z217 => ?_)
        unfold in32 at g_z217
        have q_z217 : z217 = z209 := by rw [e_z217, e_z209, show z216 = z208 by omega]
        refine x_A k231_544 (fun _ => rfl) ?_
        refine x_A k231_545 (fun _ => rfl) ?_
        refine x_A k231_546 (fun _ => rfl) ?_
        refine x_iadd k231_547 ?_
        refine x_top (fun z218 e_z218 => ?_)
        refine x_scr k231_548 hN ⟨by omega, by omega⟩ (fun z219 g_z219 e_z219 => ?_)
        unfold in32 at g_z219
        have q_z219 : z219 = z211 := by rw [e_z219, e_z211, show z218 = z210 by omega]
        refine x_A k231_549 (fun _ => rfl) ?_
        refine x_A k231_550 (fun _ => rfl) ?_
        refine x_A k231_551 (fun _ => rfl) ?_
        refine x_iadd k231_552 ?_
        refine x_top (fun z220 e_z220 => ?_)
        refine x_scr k231_553 hN ⟨by omega, by omega⟩ (fun z221 g_z221 e_z221 => ?_)
        unfold in32 at g_z221
        have q_z221 : z221 = z213 := by rw [e_z221, e_z213, show z220 = z212 by omega]
        refine x_callV k231_554 (y := 172) (n := 3) (w0 := 0) (w1 := 3) (as := [vi z217, vi z219, vi z221]) (rest := []) (by decide +kernel) (q := 256) (nq := 62) (kq := 15) ⟨by decide, rfl⟩ rfl rfl rfl rfl (xe_mono (C_X11_means_256 s215 hG_s215 J_s215 z217 ⟨by omega, by omega⟩ z219 ⟨by omega, by omega⟩ z221 ⟨by omega, by omega⟩) ?_)
        rintro s223 v ⟨hG_s223, t_s223, z222, rfl, g_z222⟩
        have J_s223 : J s223 := J.fl J_s215 t_s223 (by decide)
        have TR_s223 : TR s223 := TR.fl TR_s215 (hG_s215 256 1).2 t_s223 (by decide)
        have X1_s223 : X1 s223 := X1.fl X1_s215 t_s223 (by decide)
        have R1_s223 : R1 s223 := R1.fl R1_s215 t_s223 (by decide)
        have G1_s223 : G1 s223 := G1.fl G1_s215 t_s223 (by decide)
        have G3_s223 : G3 s223 := G3.fl G3_s215 t_s223 (by decide)
        have Y1_s223 : Y1 s223 := Y1.fl Y1_s215 t_s223 (by decide)
        have W1_s223 : W1 s223 := W1.fl W1_s215 t_s223 (by decide)
        have Q1_s223 : Q1 s223 := Q1.fl Q1_s215 t_s223 (by decide)
        have VCj_s223 : VCj s223 := VCj.fl VCj_s215 hG_s215 t_s223 (by decide)
        have VCl_s223 : VCl s223 := VCl.fl VCl_s215 hG_s215 t_s223 (by decide)
        show xe (some (N, xs)) 231 557 [(0, .ref 2000), (1, .ref 0), (2, .ref 256), (3, vi x3)] [vi z222] s223 295 10442 _
        refine x_A k231_557 (fun _ => rfl) ?_
        refine x_goto k231_558 (t := 1300) rfl ?_
        refine x_iinc k231_1300 (ls' := [(3, vi (x3 + 7)), (0, .ref 2000), (1, .ref 0), (2, .ref 256)]) rfl (by decide) rfl ?_
        refine x_goto k231_1303 (t := 18) rfl ?_
        refine x_ls (l := [(0, .ref 2000), (1, .ref 0), (2, .ref 256), (3, vi (x3 + 7))]) (show ([0, 1, 2, 3] : List Nat).Nodup from by decide) ⟨rfl, rfl, rfl, rfl, trivial⟩ ?_
        exact ih s223 (x3 + 7) hG_s223 trivial ⟨by omega, by omega⟩ J_s223 TR_s223 X1_s223 R1_s223 G1_s223 G3_s223 Y1_s223 W1_s223 Q1_s223 VCj_s223 VCl_s223  (by omega)
      · rw [c5]
        refine x_B k231_33 rfl (fun _ => rfl) (fun _ => rfl) (fun _ _ => rfl) ?_
        show xe (some (N, xs)) 231 561 [(0, .ref 2000), (1, .ref 0), (2, .ref 256), (3, vi x3)] [] s 295 10442 _
        refine x_A k231_561 (fun _ => rfl) ?_
        refine x_A k231_562 (fun _ => rfl) ?_
        refine x_A k231_563 (fun _ => rfl) ?_
        refine x_A k231_564 (fun _ => rfl) ?_
        refine x_iadd k231_565 ?_
        refine x_top (fun z224 e_z224 => ?_)
        refine x_scr k231_566 hN ⟨by omega, by omega⟩ (fun z225 g_z225 e_z225 => ?_)
        unfold in32 at g_z225
        refine x_A k231_567 (fun _ => rfl) ?_
        refine x_A k231_568 (fun _ => rfl) ?_
        refine x_A k231_569 (fun _ => rfl) ?_
        refine x_iadd k231_570 ?_
        refine x_top (fun z226 e_z226 => ?_)
        refine x_scr k231_571 hN ⟨by omega, by omega⟩ (fun z227 g_z227 e_z227 => ?_)
        unfold in32 at g_z227
        refine x_A k231_572 (fun _ => rfl) ?_
        refine x_A k231_573 (fun _ => rfl) ?_
        refine x_A k231_574 (fun _ => rfl) ?_
        refine x_iadd k231_575 ?_
        refine x_top (fun z228 e_z228 => ?_)
        refine x_scr k231_576 hN ⟨by omega, by omega⟩ (fun z229 g_z229 e_z229 => ?_)
        unfold in32 at g_z229
        refine x_callV k231_577 (y := 102) (n := 3) (w0 := 0) (w1 := 3) (as := [vi z225, vi z227, vi z229]) (rest := []) (by decide +kernel) (q := 0) (nq := 12) (kq := 3) ⟨by decide, rfl⟩ rfl rfl rfl rfl (xe_mono (V_X10_led_0 s hG i_J z225 ⟨by omega, by omega⟩ z227 ⟨by omega, by omega⟩ z229 ⟨by omega, by omega⟩ i_R1 i_VCj i_VCl) ?_)
        rintro s231 v ⟨hG_s231, t_s231, z230, rfl, g_z230, VCj_s231, VCl_s231⟩
        have J_s231 : J s231 := J.fl i_J t_s231 (by decide)
        have TR_s231 : TR s231 := TR.fl i_TR (hG 256 1).2 t_s231 (by decide)
        have X1_s231 : X1 s231 := X1.fl i_X1 t_s231 (by decide)
        have R1_s231 : R1 s231 := R1.fl i_R1 t_s231 (by decide)
        have G1_s231 : G1 s231 := G1.fl i_G1 t_s231 (by decide)
        have G3_s231 : G3 s231 := G3.fl i_G3 t_s231 (by decide)
        have Y1_s231 : Y1 s231 := Y1.fl i_Y1 t_s231 (by decide)
        have W1_s231 : W1 s231 := W1.fl i_W1 t_s231 (by decide)
        have Q1_s231 : Q1 s231 := Q1.fl i_Q1 t_s231 (by decide)
        show xe (some (N, xs)) 231 580 [(0, .ref 2000), (1, .ref 0), (2, .ref 256), (3, vi x3)] [vi z230] s231 295 10442 _
        refine x_A k231_580 (fun _ => rfl) ?_
        refine x_A k231_581 (fun _ => rfl) ?_
        refine x_A k231_582 (fun _ => rfl) ?_
        refine x_A k231_583 (fun _ => rfl) ?_
        refine x_A k231_584 (fun _ => rfl) ?_
        refine x_iadd k231_585 ?_
        refine x_top (fun z232 e_z232 => ?_)
        refine x_scr k231_586 hN ⟨by omega, by omega⟩ (fun z233 g_z233 e_z233 => ?_)
        unfold in32 at g_z233
        have q_z233 : z233 = z225 := by rw [e_z233, e_z225, show z232 = z224 by omega]
        refine x_A k231_587 (fun _ => rfl) ?_
        refine x_A k231_588 (fun _ => rfl) ?_
        refine x_A k231_589 (fun _ => rfl) ?_
        refine x_iadd k231_590 ?_
        refine x_top (fun z234 e_z234 => ?_)
        refine x_scr k231_591 hN ⟨by omega, by omega⟩ (fun z235 g_z235 e_z235 => ?_)
        unfold in32 at g_z235
        have q_z235 : z235 = z227 := by rw [e_z235, e_z227, show z234 = z226 by omega]
        refine x_A k231_592 (fun _ => rfl) ?_
        refine x_A k231_593 (fun _ => rfl) ?_
        refine x_A k231_594 (fun _ => rfl) ?_
        refine x_iadd k231_595 ?_
        refine x_top (fun z236 e_z236 => ?_)
        refine x_scr k231_596 hN ⟨by omega, by omega⟩ (fun z237 g_z237 e_z237 => ?_)
        unfold in32 at g_z237
        have q_z237 : z237 = z229 := by rw [e_z237, e_z229, show z236 = z228 by omega]
        refine x_callV k231_597 (y := 173) (n := 3) (w0 := 0) (w1 := 3) (as := [vi z233, vi z235, vi z237]) (rest := []) (by decide +kernel) (q := 256) (nq := 62) (kq := 15) ⟨by decide, rfl⟩ rfl rfl rfl rfl (xe_mono (C_X11_led_256 s231 hG_s231 J_s231 z233 ⟨by omega, by omega⟩ z235 ⟨by omega, by omega⟩ z237 ⟨by omega, by omega⟩) ?_)
        rintro s239 v ⟨hG_s239, t_s239, z238, rfl, g_z238⟩
        have J_s239 : J s239 := J.fl J_s231 t_s239 (by decide)
        have TR_s239 : TR s239 := TR.fl TR_s231 (hG_s231 256 1).2 t_s239 (by decide)
        have X1_s239 : X1 s239 := X1.fl X1_s231 t_s239 (by decide)
        have R1_s239 : R1 s239 := R1.fl R1_s231 t_s239 (by decide)
        have G1_s239 : G1 s239 := G1.fl G1_s231 t_s239 (by decide)
        have G3_s239 : G3 s239 := G3.fl G3_s231 t_s239 (by decide)
        have Y1_s239 : Y1 s239 := Y1.fl Y1_s231 t_s239 (by decide)
        have W1_s239 : W1 s239 := W1.fl W1_s231 t_s239 (by decide)
        have Q1_s239 : Q1 s239 := Q1.fl Q1_s231 t_s239 (by decide)
        have VCj_s239 : VCj s239 := VCj.fl VCj_s231 hG_s231 t_s239 (by decide)
        have VCl_s239 : VCl s239 := VCl.fl VCl_s231 hG_s231 t_s239 (by decide)
        show xe (some (N, xs)) 231 600 [(0, .ref 2000), (1, .ref 0), (2, .ref 256), (3, vi x3)] [vi z238] s239 295 10442 _
        refine x_A k231_600 (fun _ => rfl) ?_
        refine x_goto k231_601 (t := 1300) rfl ?_
        refine x_iinc k231_1300 (ls' := [(3, vi (x3 + 7)), (0, .ref 2000), (1, .ref 0), (2, .ref 256)]) rfl (by decide) rfl ?_
        refine x_goto k231_1303 (t := 18) rfl ?_
        refine x_ls (l := [(0, .ref 2000), (1, .ref 0), (2, .ref 256), (3, vi (x3 + 7))]) (show ([0, 1, 2, 3] : List Nat).Nodup from by decide) ⟨rfl, rfl, rfl, rfl, trivial⟩ ?_
        exact ih s239 (x3 + 7) hG_s239 trivial ⟨by omega, by omega⟩ J_s239 TR_s239 X1_s239 R1_s239 G1_s239 G3_s239 Y1_s239 W1_s239 Q1_s239 VCj_s239 VCl_s239  (by omega)
      · rw [c5]
        refine x_B k231_33 rfl (fun _ => rfl) (fun _ => rfl) (fun _ _ => rfl) ?_
        show xe (some (N, xs)) 231 604 [(0, .ref 2000), (1, .ref 0), (2, .ref 256), (3, vi x3)] [] s 295 10442 _
        refine x_A k231_604 (fun _ => rfl) ?_
        refine x_A k231_605 (fun _ => rfl) ?_
        refine x_A k231_606 (fun _ => rfl) ?_
        refine x_A k231_607 (fun _ => rfl) ?_
        refine x_iadd k231_608 ?_
        refine x_top (fun z240 e_z240 => ?_)
        refine x_scr k231_609 hN ⟨by omega, by omega⟩ (fun z241 g_z241 e_z241 => ?_)
        unfold in32 at g_z241
        refine x_callV k231_610 (y := 103) (n := 1) (w0 := 0) (w1 := 1) (as := [vi z241]) (rest := []) (by decide +kernel) (q := 0) (nq := 12) (kq := 3) ⟨by decide, rfl⟩ rfl rfl rfl rfl (xe_mono (V_X10_count_0 s hG i_J z241 ⟨by omega, by omega⟩ i_R1 i_VCj i_VCl) ?_)
        rintro s243 v ⟨hG_s243, t_s243, z242, rfl, g_z242, VCj_s243, VCl_s243⟩
        have J_s243 : J s243 := J.fl i_J t_s243 (by decide)
        have TR_s243 : TR s243 := TR.fl i_TR (hG 256 1).2 t_s243 (by decide)
        have X1_s243 : X1 s243 := X1.fl i_X1 t_s243 (by decide)
        have R1_s243 : R1 s243 := R1.fl i_R1 t_s243 (by decide)
        have G1_s243 : G1 s243 := G1.fl i_G1 t_s243 (by decide)
        have G3_s243 : G3 s243 := G3.fl i_G3 t_s243 (by decide)
        have Y1_s243 : Y1 s243 := Y1.fl i_Y1 t_s243 (by decide)
        have W1_s243 : W1 s243 := W1.fl i_W1 t_s243 (by decide)
        have Q1_s243 : Q1 s243 := Q1.fl i_Q1 t_s243 (by decide)
        show xe (some (N, xs)) 231 613 [(0, .ref 2000), (1, .ref 0), (2, .ref 256), (3, vi x3)] [vi z242] s243 295 10442 _
        refine x_A k231_613 (fun _ => rfl) ?_
        refine x_A k231_614 (fun _ => rfl) ?_
        refine x_A k231_615 (fun _ => rfl) ?_
        refine x_A k231_616 (fun _ => rfl) ?_
        refine x_A k231_617 (fun _ => rfl) ?_
        refine x_iadd k231_618 ?_
        refine x_top (fun z244 e_z244 => ?_)
        refine x_scr k231_619 hN ⟨by omega, by omega⟩ (fun z245 g_z245 e_z245 => ?_)
        unfold in32 at g_z245
        have q_z245 : z245 = z241 := by rw [e_z245, e_z241, show z244 = z240 by omega]
        refine x_callV k231_620 (y := 174) (n := 1) (w0 := 0) (w1 := 1) (as := [vi z245]) (rest := []) (by decide +kernel) (q := 256) (nq := 62) (kq := 15) ⟨by decide, rfl⟩ rfl rfl rfl rfl (xe_mono (C_X11_count_256 s243 hG_s243 J_s243 z245 ⟨by omega, by omega⟩) ?_)
        rintro s247 v ⟨hG_s247, t_s247, z246, rfl, g_z246⟩
        have J_s247 : J s247 := J.fl J_s243 t_s247 (by decide)
        have TR_s247 : TR s247 := TR.fl TR_s243 (hG_s243 256 1).2 t_s247 (by decide)
        have X1_s247 : X1 s247 := X1.fl X1_s243 t_s247 (by decide)
        have R1_s247 : R1 s247 := R1.fl R1_s243 t_s247 (by decide)
        have G1_s247 : G1 s247 := G1.fl G1_s243 t_s247 (by decide)
        have G3_s247 : G3 s247 := G3.fl G3_s243 t_s247 (by decide)
        have Y1_s247 : Y1 s247 := Y1.fl Y1_s243 t_s247 (by decide)
        have W1_s247 : W1 s247 := W1.fl W1_s243 t_s247 (by decide)
        have Q1_s247 : Q1 s247 := Q1.fl Q1_s243 t_s247 (by decide)
        have VCj_s247 : VCj s247 := VCj.fl VCj_s243 hG_s243 t_s247 (by decide)
        have VCl_s247 : VCl s247 := VCl.fl VCl_s243 hG_s243 t_s247 (by decide)
        show xe (some (N, xs)) 231 623 [(0, .ref 2000), (1, .ref 0), (2, .ref 256), (3, vi x3)] [vi z246] s247 295 10442 _
        refine x_A k231_623 (fun _ => rfl) ?_
        refine x_goto k231_624 (t := 1300) rfl ?_
        refine x_iinc k231_1300 (ls' := [(3, vi (x3 + 7)), (0, .ref 2000), (1, .ref 0), (2, .ref 256)]) rfl (by decide) rfl ?_
        refine x_goto k231_1303 (t := 18) rfl ?_
        refine x_ls (l := [(0, .ref 2000), (1, .ref 0), (2, .ref 256), (3, vi (x3 + 7))]) (show ([0, 1, 2, 3] : List Nat).Nodup from by decide) ⟨rfl, rfl, rfl, rfl, trivial⟩ ?_
        exact ih s247 (x3 + 7) hG_s247 trivial ⟨by omega, by omega⟩ J_s247 TR_s247 X1_s247 R1_s247 G1_s247 G3_s247 Y1_s247 W1_s247 Q1_s247 VCj_s247 VCl_s247  (by omega)
      · rw [c5]
        refine x_B k231_33 rfl (fun _ => rfl) (fun _ => rfl) (fun _ _ => rfl) ?_
        show xe (some (N, xs)) 231 627 [(0, .ref 2000), (1, .ref 0), (2, .ref 256), (3, vi x3)] [] s 295 10442 _
        refine x_A k231_627 (fun _ => rfl) ?_
        refine x_A k231_628 (fun _ => rfl) ?_
        refine x_A k231_629 (fun _ => rfl) ?_
        refine x_A k231_630 (fun _ => rfl) ?_
        refine x_iadd k231_631 ?_
        refine x_top (fun z248 e_z248 => ?_)
        refine x_scr k231_632 hN ⟨by omega, by omega⟩ (fun z249 g_z249 e_z249 => ?_)
        unfold in32 at g_z249
        refine x_A k231_633 (fun _ => rfl) ?_
        refine x_A k231_634 (fun _ => rfl) ?_
        refine x_A k231_635 (fun _ => rfl) ?_
        refine x_iadd k231_636 ?_
        refine x_top (fun z250 e_z250 => ?_)
        refine x_scr k231_637 hN ⟨by omega, by omega⟩ (fun z251 g_z251 e_z251 => ?_)
        unfold in32 at g_z251
        refine x_i2l k231_638 ⟨by omega, by omega⟩ ?_
        refine x_bipush k231_639 (by decide +kernel) ?_
        refine x_lshl_f k231_641 (fun z252 b_z252 e_z252 => ?_)
        refine x_A k231_642 (fun _ => rfl) ?_
        refine x_A k231_643 (fun _ => rfl) ?_
        refine x_A k231_644 (fun _ => rfl) ?_
        refine x_iadd k231_645 ?_
        refine x_top (fun z253 e_z253 => ?_)
        refine x_scr k231_646 hN ⟨by omega, by omega⟩ (fun z254 g_z254 e_z254 => ?_)
        unfold in32 at g_z254
        refine x_i2l k231_647 ⟨by omega, by omega⟩ ?_
        refine x_ldc2 k231_648 (z := 4294967295) rfl (by decide +kernel) ?_
        refine x_land_f k231_651 (fun z255 b_z255 e_z255 => ?_)
        refine x_lor_f k231_652 (fun z256 b_z256 e_z256 => ?_)
        refine x_callV k231_653 (y := 104) (n := 2) (w0 := 0) (w1 := 3) (as := [vi z249, vj z256]) (rest := []) (by decide +kernel) (q := 0) (nq := 12) (kq := 3) ⟨by decide, rfl⟩ rfl rfl rfl rfl (xe_mono (E_X10_feed_0 s hG z249 ⟨by omega, by omega⟩ z256 b_z256) ?_)
        rintro s258 v ⟨hG_s258, t_s258, z257, rfl, g_z257, xp_z257⟩
        have J_s258 : J s258 := J.fl i_J t_s258 (by decide)
        have TR_s258 : TR s258 := TR.fl i_TR (hG 256 1).2 t_s258 (by decide)
        have R1_s258 : R1 s258 := R1.fl i_R1 t_s258 (by decide)
        have G1_s258 : G1 s258 := G1.fl i_G1 t_s258 (by decide)
        have G3_s258 : G3 s258 := G3.fl i_G3 t_s258 (by decide)
        have Y1_s258 : Y1 s258 := Y1.fl i_Y1 t_s258 (by decide)
        have W1_s258 : W1 s258 := W1.fl i_W1 t_s258 (by decide)
        have Q1_s258 : Q1 s258 := Q1.fl i_Q1 t_s258 (by decide)
        have VCj_s258 : VCj s258 := VCj.fl i_VCj hG t_s258 (by decide)
        have VCl_s258 : VCl s258 := VCl.fl i_VCl hG t_s258 (by decide)
        obtain ⟨z259, e_z259⟩ : ∃ z, z = s258 177 1 := ⟨_, rfl⟩
        have g_z259 : (0 : Int) ≤ s258 177 1 ∧ s258 177 1 ≤ 160 := hG_s258 177 1
        show xe (some (N, xs)) 231 656 [(0, .ref 2000), (1, .ref 0), (2, .ref 256), (3, vi x3)] [vi z257] s258 295 10442 _
        refine x_A k231_656 (fun _ => rfl) ?_
        refine x_A k231_657 (fun _ => rfl) ?_
        refine x_A k231_658 (fun _ => rfl) ?_
        refine x_A k231_659 (fun _ => rfl) ?_
        refine x_A k231_660 (fun _ => rfl) ?_
        refine x_iadd k231_661 ?_
        refine x_top (fun z260 e_z260 => ?_)
        refine x_scr k231_662 hN ⟨by omega, by omega⟩ (fun z261 g_z261 e_z261 => ?_)
        unfold in32 at g_z261
        have q_z261 : z261 = z249 := by rw [e_z261, e_z249, show z260 = z248 by omega]
        refine x_A k231_663 (fun _ => rfl) ?_
        refine x_A k231_664 (fun _ => rfl) ?_
        refine x_A k231_665 (fun _ => rfl) ?_
        refine x_iadd k231_666 ?_
        refine x_top (fun z262 e_z262 => ?_)
        refine x_scr k231_667 hN ⟨by omega, by omega⟩ (fun z263 g_z263 e_z263 => ?_)
        unfold in32 at g_z263
        have q_z263 : z263 = z251 := by rw [e_z263, e_z251, show z262 = z250 by omega]
        refine x_i2l k231_668 ⟨by omega, by omega⟩ ?_
        refine x_bipush k231_669 (by decide +kernel) ?_
        refine x_lshl_f k231_671 (fun z264 b_z264 e_z264 => ?_)
        refine x_A k231_672 (fun _ => rfl) ?_
        refine x_A k231_673 (fun _ => rfl) ?_
        refine x_A k231_674 (fun _ => rfl) ?_
        refine x_iadd k231_675 ?_
        refine x_top (fun z265 e_z265 => ?_)
        refine x_scr k231_676 hN ⟨by omega, by omega⟩ (fun z266 g_z266 e_z266 => ?_)
        unfold in32 at g_z266
        have q_z266 : z266 = z254 := by rw [e_z266, e_z254, show z265 = z253 by omega]
        refine x_i2l k231_677 ⟨by omega, by omega⟩ ?_
        refine x_ldc2 k231_678 (z := 4294967295) rfl (by decide +kernel) ?_
        refine x_land_f k231_681 (fun z267 b_z267 e_z267 => ?_)
        refine x_lor_f k231_682 (fun z268 b_z268 e_z268 => ?_)
        refine x_callV k231_683 (y := 175) (n := 2) (w0 := 0) (w1 := 3) (as := [vi z261, vj z268]) (rest := []) (by decide +kernel) (q := 256) (nq := 62) (kq := 15) ⟨by decide, rfl⟩ rfl rfl rfl rfl (xe_mono (E_X11_feed_256 s258 hG_s258 z261 ⟨by omega, by omega⟩ z268 b_z268) ?_)
        rintro s270 v ⟨hG_s270, t_s270, z269, rfl, g_z269, xp_z269⟩
        have q271 : s270 177 1 = z259 := (t_s270 177 1 (show 1218 ∉ [4131, 5824] from by decide)).trans e_z259.symm
        have J_s270 : J s270 := J.fl J_s258 t_s270 (by decide)
        have TR_s270 : TR s270 := TR.fl TR_s258 (hG_s258 256 1).2 t_s270 (by decide)
        have R1_s270 : R1 s270 := R1.fl R1_s258 t_s270 (by decide)
        have G1_s270 : G1 s270 := G1.fl G1_s258 t_s270 (by decide)
        have G3_s270 : G3 s270 := G3.fl G3_s258 t_s270 (by decide)
        have Y1_s270 : Y1 s270 := Y1.fl Y1_s258 t_s270 (by decide)
        have W1_s270 : W1 s270 := W1.fl W1_s258 t_s270 (by decide)
        have Q1_s270 : Q1 s270 := Q1.fl Q1_s258 t_s270 (by decide)
        have VCj_s270 : VCj s270 := VCj.fl VCj_s258 hG_s258 t_s270 (by decide)
        have VCl_s270 : VCl s270 := VCl.fl VCl_s258 hG_s258 t_s270 (by decide)
        obtain ⟨z272, e_z272⟩ : ∃ z, z = s270 256 34 := ⟨_, rfl⟩
        have g_z272 : (0 : Int) ≤ s270 256 34 ∧ s270 256 34 ≤ 160 := hG_s270 256 34
        show xe (some (N, xs)) 231 686 [(0, .ref 2000), (1, .ref 0), (2, .ref 256), (3, vi x3)] [vi z269] s270 295 10442 _
        have q_z268 : z268 = z256 := by rw [e_z268, e_z256, e_z264, e_z252, e_z267, e_z255, q_z263, q_z266]
        obtain ⟨ez_s270, X1_s270⟩ := X1.feed i_X1 t_s258 t_s270 (by decide) (by decide) xp_z257 (by rw [← q_z261, ← q_z268]; exact xp_z269)
        refine x_A k231_686 (fun _ => rfl) ?_
        refine x_goto k231_687 (t := 1300) rfl ?_
        refine x_iinc k231_1300 (ls' := [(3, vi (x3 + 7)), (0, .ref 2000), (1, .ref 0), (2, .ref 256)]) rfl (by decide) rfl ?_
        refine x_goto k231_1303 (t := 18) rfl ?_
        refine x_ls (l := [(0, .ref 2000), (1, .ref 0), (2, .ref 256), (3, vi (x3 + 7))]) (show ([0, 1, 2, 3] : List Nat).Nodup from by decide) ⟨rfl, rfl, rfl, rfl, trivial⟩ ?_
        exact ih s270 (x3 + 7) hG_s270 trivial ⟨by omega, by omega⟩ J_s270 TR_s270 X1_s270 R1_s270 G1_s270 G3_s270 Y1_s270 W1_s270 Q1_s270 VCj_s270 VCl_s270  (by omega)
      · rw [c5]
        refine x_B k231_33 rfl (fun _ => rfl) (fun _ => rfl) (fun _ _ => rfl) ?_
        show xe (some (N, xs)) 231 690 [(0, .ref 2000), (1, .ref 0), (2, .ref 256), (3, vi x3)] [] s 295 10442 _
        refine x_A k231_690 (fun _ => rfl) ?_
        refine x_A k231_691 (fun _ => rfl) ?_
        refine x_A k231_692 (fun _ => rfl) ?_
        refine x_A k231_693 (fun _ => rfl) ?_
        refine x_iadd k231_694 ?_
        refine x_top (fun z273 e_z273 => ?_)
        refine x_scr k231_695 hN ⟨by omega, by omega⟩ (fun z274 g_z274 e_z274 => ?_)
        unfold in32 at g_z274
        refine x_callV k231_696 (y := 105) (n := 1) (w0 := 0) (w1 := 1) (as := [vi z274]) (rest := []) (by decide +kernel) (q := 0) (nq := 12) (kq := 3) ⟨by decide, rfl⟩ rfl rfl rfl rfl (xe_mono (V_X10_rule_0 s hG z274 ⟨by omega, by omega⟩ i_J i_VCj i_VCl) ?_)
        rintro s276 v ⟨hG_s276, t_s276, z275, rfl, g_z275, xp_z275, J_s276, VCj_s276, VCl_s276⟩
        have TR_s276 : TR s276 := TR.fl i_TR (hG 256 1).2 t_s276 (by decide)
        have G1_s276 : G1 s276 := G1.fl i_G1 t_s276 (by decide)
        have G3_s276 : G3 s276 := G3.fl i_G3 t_s276 (by decide)
        have Y1_s276 : Y1 s276 := Y1.fl i_Y1 t_s276 (by decide)
        have W1_s276 : W1 s276 := W1.fl i_W1 t_s276 (by decide)
        have Q1_s276 : Q1 s276 := Q1.fl i_Q1 t_s276 (by decide)
        obtain ⟨z277, e_z277⟩ : ∃ z, z = s276 177 1 := ⟨_, rfl⟩
        have g_z277 : (0 : Int) ≤ s276 177 1 ∧ s276 177 1 ≤ 160 := hG_s276 177 1
        obtain ⟨z278, e_z278⟩ : ∃ z, z = s276 177 5 := ⟨_, rfl⟩
        have g_z278 : (0 : Int) ≤ s276 177 5 ∧ s276 177 5 ≤ 5 := hG_s276 177 5
        obtain ⟨z279, e_z279⟩ : ∃ z, z = s276 177 6 := ⟨_, rfl⟩
        have g_z279 : (-2147483648) ≤ s276 177 6 ∧ s276 177 6 ≤ 2147483647 := hG_s276 177 6
        obtain ⟨z280, e_z280⟩ : ∃ z, z = s276 0 11 := ⟨_, rfl⟩
        have g_z280 : (-2147483648) ≤ s276 0 11 ∧ s276 0 11 ≤ 2147483647 := hG_s276 0 11
        show xe (some (N, xs)) 231 699 [(0, .ref 2000), (1, .ref 0), (2, .ref 256), (3, vi x3)] [vi z275] s276 295 10442 _
        refine x_A k231_699 (fun _ => rfl) ?_
        refine x_A k231_700 (fun _ => rfl) ?_
        refine x_A k231_701 (fun _ => rfl) ?_
        refine x_A k231_702 (fun _ => rfl) ?_
        refine x_A k231_703 (fun _ => rfl) ?_
        refine x_iadd k231_704 ?_
        refine x_top (fun z281 e_z281 => ?_)
        refine x_scr k231_705 hN ⟨by omega, by omega⟩ (fun z282 g_z282 e_z282 => ?_)
        unfold in32 at g_z282
        have q_z282 : z282 = z274 := by rw [e_z282, e_z274, show z281 = z273 by omega]
        obtain ⟨z283, e_z283⟩ : ∃ z, z = s276 256 20 := ⟨_, rfl⟩
        have g_z283 : (0 : Int) ≤ s276 256 20 ∧ s276 256 20 ≤ 64 := hG_s276 256 20
        obtain ⟨z284, e_z284⟩ : ∃ z, z = s276 256 17 := ⟨_, rfl⟩
        have g_z284 : (0 : Int) ≤ s276 256 17 ∧ s276 256 17 ≤ 8 := hG_s276 256 17
        refine x_callV k231_706 (y := 187) (n := 1) (w0 := 0) (w1 := 1) (as := [vi z282]) (rest := []) (by decide +kernel) (q := 256) (nq := 62) (kq := 15) ⟨by decide, rfl⟩ rfl rfl rfl rfl (xe_mono (E_X11_rule_256 s276 hG_s276 z282 ⟨by omega, by omega⟩ ⟨by omega, by omega⟩ ⟨by omega, by omega⟩ J_s276) ?_)
        rintro s286 v ⟨hG_s286, t_s286, z285, rfl, g_z285, xp_z285, J_s286⟩
        have q287 : s286 177 1 = z277 := (t_s286 177 1 (show 1218 ∉ [4133, 4136, 4132, 4134, 4135, 5120, 5184, 5248, 4131, 4992, 5056, 4117, 4114] from by decide)).trans e_z277.symm
        have q288 : s286 177 5 = z278 := (t_s286 177 5 (show 1222 ∉ [4133, 4136, 4132, 4134, 4135, 5120, 5184, 5248, 4131, 4992, 5056, 4117, 4114] from by decide)).trans e_z278.symm
        have q289 : s286 177 6 = z279 := (t_s286 177 6 (show 1223 ∉ [4133, 4136, 4132, 4134, 4135, 5120, 5184, 5248, 4131, 4992, 5056, 4117, 4114] from by decide)).trans e_z279.symm
        have q290 : s286 0 11 = z280 := (t_s286 0 11 (show 12 ∉ [4133, 4136, 4132, 4134, 4135, 5120, 5184, 5248, 4131, 4992, 5056, 4117, 4114] from by decide)).trans e_z280.symm
        have TR_s286 : TR s286 := TR.fl TR_s276 (hG_s276 256 1).2 t_s286 (by decide)
        have G1_s286 : G1 s286 := G1.fl G1_s276 t_s286 (by decide)
        have G3_s286 : G3 s286 := G3.fl G3_s276 t_s286 (by decide)
        have Y1_s286 : Y1 s286 := Y1.fl Y1_s276 t_s286 (by decide)
        have W1_s286 : W1 s286 := W1.fl W1_s276 t_s286 (by decide)
        have Q1_s286 : Q1 s286 := Q1.fl Q1_s276 t_s286 (by decide)
        have VCj_s286 : VCj s286 := VCj.fl VCj_s276 hG_s276 t_s286 (by decide)
        have VCl_s286 : VCl s286 := VCl.fl VCl_s276 hG_s276 t_s286 (by decide)
        obtain ⟨z291, e_z291⟩ : ∃ z, z = s286 256 35 := ⟨_, rfl⟩
        have g_z291 : (-2147483648) ≤ s286 256 35 ∧ s286 256 35 ≤ 2147483647 := hG_s286 256 35
        obtain ⟨z292, e_z292⟩ : ∃ z, z = s286 256 34 := ⟨_, rfl⟩
        have g_z292 : (0 : Int) ≤ s286 256 34 ∧ s286 256 34 ≤ 160 := hG_s286 256 34
        obtain ⟨z293, e_z293⟩ : ∃ z, z = s286 256 17 := ⟨_, rfl⟩
        have g_z293 : (0 : Int) ≤ s286 256 17 ∧ s286 256 17 ≤ 8 := hG_s286 256 17
        obtain ⟨z294, e_z294⟩ : ∃ z, z = s286 256 20 := ⟨_, rfl⟩
        have g_z294 : (0 : Int) ≤ s286 256 20 ∧ s286 256 20 ≤ 64 := hG_s286 256 20
        show xe (some (N, xs)) 231 709 [(0, .ref 2000), (1, .ref 0), (2, .ref 256), (3, vi x3)] [vi z285] s286 295 10442 _
        have R1_s286 := R1.rule i_R1 i_X1 i_J hG t_s276 t_s286 (by decide) (by decide) xp_z275 (by rw [← q_z282]; exact xp_z285)
        obtain ⟨ez_s286, X1_s286⟩ := X1.rule i_X1 hG t_s276 t_s286 (by decide) (by decide) xp_z275 (by rw [← q_z282]; exact xp_z285)
        refine x_A k231_709 (fun _ => rfl) ?_
        refine x_goto k231_710 (t := 1300) rfl ?_
        refine x_iinc k231_1300 (ls' := [(3, vi (x3 + 7)), (0, .ref 2000), (1, .ref 0), (2, .ref 256)]) rfl (by decide) rfl ?_
        refine x_goto k231_1303 (t := 18) rfl ?_
        refine x_ls (l := [(0, .ref 2000), (1, .ref 0), (2, .ref 256), (3, vi (x3 + 7))]) (show ([0, 1, 2, 3] : List Nat).Nodup from by decide) ⟨rfl, rfl, rfl, rfl, trivial⟩ ?_
        exact ih s286 (x3 + 7) hG_s286 trivial ⟨by omega, by omega⟩ J_s286 TR_s286 X1_s286 R1_s286 G1_s286 G3_s286 Y1_s286 W1_s286 Q1_s286 VCj_s286 VCl_s286  (by omega)
      · rw [c5]
        refine x_B k231_33 rfl (fun _ => rfl) (fun _ => rfl) (fun _ _ => rfl) ?_
        show xe (some (N, xs)) 231 713 [(0, .ref 2000), (1, .ref 0), (2, .ref 256), (3, vi x3)] [] s 295 10442 _
        refine x_A k231_713 (fun _ => rfl) ?_
        refine x_callV k231_714 (y := 106) (n := 0) (w0 := 0) (w1 := 0) (as := []) (rest := []) (by decide +kernel) (q := 0) (nq := 12) (kq := 3) ⟨by decide, rfl⟩ rfl rfl rfl rfl (xe_mono (E_X10_fault_0 s hG) ?_)
        rintro s296 v ⟨-, t_s296, z295, rfl, g_z295, xp_z295⟩
        rw [t_s296.nil]
        try rw [t_s296.nil] at xp_z295
        show xe (some (N, xs)) 231 717 [(0, .ref 2000), (1, .ref 0), (2, .ref 256), (3, vi x3)] [vi z295] s 295 10442 _
        refine x_A k231_717 (fun _ => rfl) ?_
        refine x_A k231_718 (fun _ => rfl) ?_
        refine x_callV k231_719 (y := 188) (n := 0) (w0 := 0) (w1 := 0) (as := []) (rest := []) (by decide +kernel) (q := 256) (nq := 62) (kq := 15) ⟨by decide, rfl⟩ rfl rfl rfl rfl (xe_mono (E_X11_fault_256 s hG) ?_)
        rintro s298 v ⟨-, t_s298, z297, rfl, g_z297, xp_z297⟩
        rw [t_s298.nil]
        try rw [t_s298.nil] at xp_z297
        show xe (some (N, xs)) 231 722 [(0, .ref 2000), (1, .ref 0), (2, .ref 256), (3, vi x3)] [vi z297] s 295 10442 _
        refine x_A k231_722 (fun _ => rfl) ?_
        refine x_goto k231_723 (t := 1300) rfl ?_
        refine x_iinc k231_1300 (ls' := [(3, vi (x3 + 7)), (0, .ref 2000), (1, .ref 0), (2, .ref 256)]) rfl (by decide) rfl ?_
        refine x_goto k231_1303 (t := 18) rfl ?_
        refine x_ls (l := [(0, .ref 2000), (1, .ref 0), (2, .ref 256), (3, vi (x3 + 7))]) (show ([0, 1, 2, 3] : List Nat).Nodup from by decide) ⟨rfl, rfl, rfl, rfl, trivial⟩ ?_
        exact ih s (x3 + 7) hG f ⟨by omega, by omega⟩ i_J i_TR i_X1 i_R1 i_G1 i_G3 i_Y1 i_W1 i_Q1 i_VCj i_VCl  (by omega)
      · rw [c5]
        refine x_B k231_33 rfl (fun _ => rfl) (fun _ => rfl) (fun _ _ => rfl) ?_
        show xe (some (N, xs)) 231 726 [(0, .ref 2000), (1, .ref 0), (2, .ref 256), (3, vi x3)] [] s 295 10442 _
        refine x_A k231_726 (fun _ => rfl) ?_
        refine x_A k231_727 (fun _ => rfl) ?_
        refine x_A k231_728 (fun _ => rfl) ?_
        refine x_A k231_729 (fun _ => rfl) ?_
        refine x_iadd k231_730 ?_
        refine x_top (fun z299 e_z299 => ?_)
        refine x_scr k231_731 hN ⟨by omega, by omega⟩ (fun z300 g_z300 e_z300 => ?_)
        unfold in32 at g_z300
        refine x_A k231_732 (fun _ => rfl) ?_
        refine x_A k231_733 (fun _ => rfl) ?_
        refine x_A k231_734 (fun _ => rfl) ?_
        refine x_iadd k231_735 ?_
        refine x_top (fun z301 e_z301 => ?_)
        refine x_scr k231_736 hN ⟨by omega, by omega⟩ (fun z302 g_z302 e_z302 => ?_)
        unfold in32 at g_z302
        refine x_callV k231_737 (y := 107) (n := 2) (w0 := 0) (w1 := 2) (as := [vi z300, vi z302]) (rest := []) (by decide +kernel) (q := 0) (nq := 12) (kq := 3) ⟨by decide, rfl⟩ rfl rfl rfl rfl (xe_mono (E_X10_force_0 s hG i_J z300 ⟨by omega, by omega⟩ z302 ⟨by omega, by omega⟩ i_R1) ?_)
        rintro s304 v ⟨hG_s304, t_s304, z303, rfl, g_z303, xp_z303⟩
        have J_s304 : J s304 := J.fl i_J t_s304 (by decide)
        have TR_s304 : TR s304 := TR.fl i_TR (hG 256 1).2 t_s304 (by decide)
        have X1_s304 : X1 s304 := X1.fl i_X1 t_s304 (by decide)
        have R1_s304 : R1 s304 := R1.fl i_R1 t_s304 (by decide)
        have G1_s304 : G1 s304 := G1.fl i_G1 t_s304 (by decide)
        have G3_s304 : G3 s304 := G3.fl i_G3 t_s304 (by decide)
        have Y1_s304 : Y1 s304 := Y1.fl i_Y1 t_s304 (by decide)
        have W1_s304 : W1 s304 := W1.fl i_W1 t_s304 (by decide)
        have Q1_s304 : Q1 s304 := Q1.fl i_Q1 t_s304 (by decide)
        have VCj_s304 : VCj s304 := VCj.fl i_VCj hG t_s304 (by decide)
        have VCl_s304 : VCl s304 := VCl.fl i_VCl hG t_s304 (by decide)
        show xe (some (N, xs)) 231 740 [(0, .ref 2000), (1, .ref 0), (2, .ref 256), (3, vi x3)] [vi z303] s304 295 10442 _
        refine x_A k231_740 (fun _ => rfl) ?_
        refine x_A k231_741 (fun _ => rfl) ?_
        refine x_A k231_742 (fun _ => rfl) ?_
        refine x_A k231_743 (fun _ => rfl) ?_
        refine x_A k231_744 (fun _ => rfl) ?_
        refine x_iadd k231_745 ?_
        refine x_top (fun z305 e_z305 => ?_)
        refine x_scr k231_746 hN ⟨by omega, by omega⟩ (fun z306 g_z306 e_z306 => ?_)
        unfold in32 at g_z306
        have q_z306 : z306 = z300 := by rw [e_z306, e_z300, show z305 = z299 by omega]
        refine x_A k231_747 (fun _ => rfl) ?_
        refine x_A k231_748 (fun _ => rfl) ?_
        refine x_A k231_749 (fun _ => rfl) ?_
        refine x_iadd k231_750 ?_
        refine x_top (fun z307 e_z307 => ?_)
        refine x_scr k231_751 hN ⟨by omega, by omega⟩ (fun z308 g_z308 e_z308 => ?_)
        unfold in32 at g_z308
        have q_z308 : z308 = z302 := by rw [e_z308, e_z302, show z307 = z301 by omega]
        refine x_callV k231_752 (y := 189) (n := 2) (w0 := 0) (w1 := 2) (as := [vi z306, vi z308]) (rest := []) (by decide +kernel) (q := 256) (nq := 62) (kq := 15) ⟨by decide, rfl⟩ rfl rfl rfl rfl (xe_mono (E_X11_force_256 s304 hG_s304 J_s304 z306 ⟨by omega, by omega⟩ z308 ⟨by omega, by omega⟩ R1_s304) ?_)
        rintro s310 v ⟨hG_s310, t_s310, z309, rfl, g_z309, xp_z309⟩
        have J_s310 : J s310 := J.fl J_s304 t_s310 (by decide)
        have TR_s310 : TR s310 := TR.fl TR_s304 (hG_s304 256 1).2 t_s310 (by decide)
        have X1_s310 : X1 s310 := X1.fl X1_s304 t_s310 (by decide)
        have R1_s310 : R1 s310 := R1.fl R1_s304 t_s310 (by decide)
        have G1_s310 : G1 s310 := G1.fl G1_s304 t_s310 (by decide)
        have G3_s310 : G3 s310 := G3.fl G3_s304 t_s310 (by decide)
        have Y1_s310 : Y1 s310 := Y1.fl Y1_s304 t_s310 (by decide)
        have W1_s310 : W1 s310 := W1.fl W1_s304 t_s310 (by decide)
        have Q1_s310 : Q1 s310 := Q1.fl Q1_s304 t_s310 (by decide)
        have VCj_s310 : VCj s310 := VCj.fl VCj_s304 hG_s304 t_s310 (by decide)
        have VCl_s310 : VCl s310 := VCl.fl VCl_s304 hG_s304 t_s310 (by decide)
        show xe (some (N, xs)) 231 755 [(0, .ref 2000), (1, .ref 0), (2, .ref 256), (3, vi x3)] [vi z309] s310 295 10442 _
        refine x_A k231_755 (fun _ => rfl) ?_
        refine x_goto k231_756 (t := 1300) rfl ?_
        refine x_iinc k231_1300 (ls' := [(3, vi (x3 + 7)), (0, .ref 2000), (1, .ref 0), (2, .ref 256)]) rfl (by decide) rfl ?_
        refine x_goto k231_1303 (t := 18) rfl ?_
        refine x_ls (l := [(0, .ref 2000), (1, .ref 0), (2, .ref 256), (3, vi (x3 + 7))]) (show ([0, 1, 2, 3] : List Nat).Nodup from by decide) ⟨rfl, rfl, rfl, rfl, trivial⟩ ?_
        exact ih s310 (x3 + 7) hG_s310 trivial ⟨by omega, by omega⟩ J_s310 TR_s310 X1_s310 R1_s310 G1_s310 G3_s310 Y1_s310 W1_s310 Q1_s310 VCj_s310 VCl_s310  (by omega)
      · rw [c5]
        refine x_B k231_33 rfl (fun _ => rfl) (fun _ => rfl) (fun _ _ => rfl) ?_
        show xe (some (N, xs)) 231 759 [(0, .ref 2000), (1, .ref 0), (2, .ref 256), (3, vi x3)] [] s 295 10442 _
        refine x_A k231_759 (fun _ => rfl) ?_
        refine x_A k231_760 (fun _ => rfl) ?_
        refine x_A k231_761 (fun _ => rfl) ?_
        refine x_A k231_762 (fun _ => rfl) ?_
        refine x_iadd k231_763 ?_
        refine x_top (fun z311 e_z311 => ?_)
        refine x_scr k231_764 hN ⟨by omega, by omega⟩ (fun z312 g_z312 e_z312 => ?_)
        unfold in32 at g_z312
        refine x_A k231_765 (fun _ => rfl) ?_
        refine x_A k231_766 (fun _ => rfl) ?_
        refine x_A k231_767 (fun _ => rfl) ?_
        refine x_iadd k231_768 ?_
        refine x_top (fun z313 e_z313 => ?_)
        refine x_scr k231_769 hN ⟨by omega, by omega⟩ (fun z314 g_z314 e_z314 => ?_)
        unfold in32 at g_z314
        refine x_A k231_770 (fun _ => rfl) ?_
        refine x_A k231_771 (fun _ => rfl) ?_
        refine x_A k231_772 (fun _ => rfl) ?_
        refine x_iadd k231_773 ?_
        refine x_top (fun z315 e_z315 => ?_)
        refine x_scr k231_774 hN ⟨by omega, by omega⟩ (fun z316 g_z316 e_z316 => ?_)
        unfold in32 at g_z316
        obtain ⟨z317, e_z317⟩ : ∃ z, z = s 1 4 := ⟨_, rfl⟩
        have g_z317 : (1 : Int) ≤ s 1 4 ∧ s 1 4 ≤ 40 := hG 1 4
        refine x_callV k231_775 (y := 108) (n := 3) (w0 := 0) (w1 := 3) (as := [vi z312, vi z314, vi z316]) (rest := []) (by decide +kernel) (q := 0) (nq := 12) (kq := 3) ⟨by decide, rfl⟩ rfl rfl rfl rfl (xe_mono (E_X10_word_0 s hG z312 ⟨by omega, by omega⟩ z314 ⟨by omega, by omega⟩ z316 ⟨by omega, by omega⟩ ⟨by omega, by omega⟩) ?_)
        rintro s319 v ⟨hG_s319, t_s319, z318, rfl, g_z318, xp_z318⟩
        have q320 : s319 1 4 = z317 := (t_s319 1 4 (show 69 ∉ [2244, 2304, 2368, 2432] from by decide)).trans e_z317.symm
        have J_s319 : J s319 := J.fl i_J t_s319 (by decide)
        have TR_s319 : TR s319 := TR.fl i_TR (hG 256 1).2 t_s319 (by decide)
        have X1_s319 : X1 s319 := X1.fl i_X1 t_s319 (by decide)
        have R1_s319 : R1 s319 := R1.fl i_R1 t_s319 (by decide)
        have G1_s319 : G1 s319 := G1.fl i_G1 t_s319 (by decide)
        have G3_s319 : G3 s319 := G3.fl i_G3 t_s319 (by decide)
        have Y1_s319 : Y1 s319 := Y1.fl i_Y1 t_s319 (by decide)
        have Q1_s319 : Q1 s319 := Q1.fl i_Q1 t_s319 (by decide)
        have VCj_s319 : VCj s319 := VCj.fl i_VCj hG t_s319 (by decide)
        have VCl_s319 : VCl s319 := VCl.fl i_VCl hG t_s319 (by decide)
        show xe (some (N, xs)) 231 778 [(0, .ref 2000), (1, .ref 0), (2, .ref 256), (3, vi x3)] [vi z318] s319 295 10442 _
        refine x_A k231_778 (fun _ => rfl) ?_
        refine x_A k231_779 (fun _ => rfl) ?_
        refine x_A k231_780 (fun _ => rfl) ?_
        refine x_A k231_781 (fun _ => rfl) ?_
        refine x_A k231_782 (fun _ => rfl) ?_
        refine x_iadd k231_783 ?_
        refine x_top (fun z321 e_z321 => ?_)
        refine x_scr k231_784 hN ⟨by omega, by omega⟩ (fun z322 g_z322 e_z322 => ?_)
        unfold in32 at g_z322
        have q_z322 : z322 = z312 := by rw [e_z322, e_z312, show z321 = z311 by omega]
        refine x_A k231_785 (fun _ => rfl) ?_
        refine x_A k231_786 (fun _ => rfl) ?_
        refine x_A k231_787 (fun _ => rfl) ?_
        refine x_iadd k231_788 ?_
        refine x_top (fun z323 e_z323 => ?_)
        refine x_scr k231_789 hN ⟨by omega, by omega⟩ (fun z324 g_z324 e_z324 => ?_)
        unfold in32 at g_z324
        have q_z324 : z324 = z314 := by rw [e_z324, e_z314, show z323 = z313 by omega]
        refine x_A k231_790 (fun _ => rfl) ?_
        refine x_A k231_791 (fun _ => rfl) ?_
        refine x_A k231_792 (fun _ => rfl) ?_
        refine x_iadd k231_793 ?_
        refine x_top (fun z325 e_z325 => ?_)
        refine x_scr k231_794 hN ⟨by omega, by omega⟩ (fun z326 g_z326 e_z326 => ?_)
        unfold in32 at g_z326
        have q_z326 : z326 = z316 := by rw [e_z326, e_z316, show z325 = z315 by omega]
        obtain ⟨z327, e_z327⟩ : ∃ z, z = s319 256 1 := ⟨_, rfl⟩
        have g_z327 : (1 : Int) ≤ s319 256 1 ∧ s319 256 1 ≤ 40 := hG_s319 256 1
        refine x_callV k231_795 (y := 192) (n := 3) (w0 := 0) (w1 := 3) (as := [vi z322, vi z324, vi z326]) (rest := []) (by decide +kernel) (q := 256) (nq := 62) (kq := 15) ⟨by decide, rfl⟩ rfl rfl rfl rfl (xe_mono (E_X11_word_256 s319 hG_s319 z322 ⟨by omega, by omega⟩ z324 ⟨by omega, by omega⟩ z326 ⟨by omega, by omega⟩ ⟨by omega, by omega⟩) ?_)
        rintro s329 v ⟨hG_s329, t_s329, z328, rfl, g_z328, xp_z328⟩
        have q330 : s329 1 4 = z317 := (t_s329 1 4 (show 69 ∉ [4137, 5888, 5952] from by decide)).trans q320
        have q331 : s329 256 1 = z327 := (t_s329 256 1 (show 4098 ∉ [4137, 5888, 5952] from by decide)).trans e_z327.symm
        have J_s329 : J s329 := J.fl J_s319 t_s329 (by decide)
        have TR_s329 : TR s329 := TR.fl TR_s319 (hG_s319 256 1).2 t_s329 (by decide)
        have X1_s329 : X1 s329 := X1.fl X1_s319 t_s329 (by decide)
        have R1_s329 : R1 s329 := R1.fl R1_s319 t_s329 (by decide)
        have G1_s329 : G1 s329 := G1.fl G1_s319 t_s329 (by decide)
        have G3_s329 : G3 s329 := G3.fl G3_s319 t_s329 (by decide)
        have Y1_s329 : Y1 s329 := Y1.fl Y1_s319 t_s329 (by decide)
        have Q1_s329 : Q1 s329 := Q1.fl Q1_s319 t_s329 (by decide)
        have VCj_s329 : VCj s329 := VCj.fl VCj_s319 hG_s319 t_s329 (by decide)
        have VCl_s329 : VCl s329 := VCl.fl VCl_s319 hG_s319 t_s329 (by decide)
        obtain ⟨z332, e_z332⟩ : ∃ z, z = s329 256 40 := ⟨_, rfl⟩
        have g_z332 : (0 : Int) ≤ s329 256 40 ∧ s329 256 40 ≤ 60 := hG_s329 256 40
        show xe (some (N, xs)) 231 798 [(0, .ref 2000), (1, .ref 0), (2, .ref 256), (3, vi x3)] [vi z328] s329 295 10442 _
        obtain ⟨ez_s329, W1_s329⟩ := W1.word i_W1 i_TR.1.2.1 hG hG_s329 t_s319 t_s329 (by decide) (by decide) xp_z318 (by rw [← q_z322, ← q_z324, ← q_z326]; exact xp_z328)
        refine x_A k231_798 (fun _ => rfl) ?_
        refine x_goto k231_799 (t := 1300) rfl ?_
        refine x_iinc k231_1300 (ls' := [(3, vi (x3 + 7)), (0, .ref 2000), (1, .ref 0), (2, .ref 256)]) rfl (by decide) rfl ?_
        refine x_goto k231_1303 (t := 18) rfl ?_
        refine x_ls (l := [(0, .ref 2000), (1, .ref 0), (2, .ref 256), (3, vi (x3 + 7))]) (show ([0, 1, 2, 3] : List Nat).Nodup from by decide) ⟨rfl, rfl, rfl, rfl, trivial⟩ ?_
        exact ih s329 (x3 + 7) hG_s329 trivial ⟨by omega, by omega⟩ J_s329 TR_s329 X1_s329 R1_s329 G1_s329 G3_s329 Y1_s329 W1_s329 Q1_s329 VCj_s329 VCl_s329  (by omega)
      · rw [c5]
        refine x_B k231_33 rfl (fun _ => rfl) (fun _ => rfl) (fun _ _ => rfl) ?_
        show xe (some (N, xs)) 231 802 [(0, .ref 2000), (1, .ref 0), (2, .ref 256), (3, vi x3)] [] s 295 10442 _
        refine x_A k231_802 (fun _ => rfl) ?_
        refine x_A k231_803 (fun _ => rfl) ?_
        refine x_A k231_804 (fun _ => rfl) ?_
        refine x_A k231_805 (fun _ => rfl) ?_
        refine x_iadd k231_806 ?_
        refine x_top (fun z333 e_z333 => ?_)
        refine x_scr k231_807 hN ⟨by omega, by omega⟩ (fun z334 g_z334 e_z334 => ?_)
        unfold in32 at g_z334
        refine x_A k231_808 (fun _ => rfl) ?_
        refine x_A k231_809 (fun _ => rfl) ?_
        refine x_A k231_810 (fun _ => rfl) ?_
        refine x_iadd k231_811 ?_
        refine x_top (fun z335 e_z335 => ?_)
        refine x_scr k231_812 hN ⟨by omega, by omega⟩ (fun z336 g_z336 e_z336 => ?_)
        unfold in32 at g_z336
        refine x_callV k231_813 (y := 109) (n := 2) (w0 := 0) (w1 := 2) (as := [vi z334, vi z336]) (rest := []) (by decide +kernel) (q := 0) (nq := 12) (kq := 3) ⟨by decide, rfl⟩ rfl rfl rfl rfl (xe_mono (C_X10_leads_0 s hG z334 ⟨by omega, by omega⟩ z336 ⟨by omega, by omega⟩) ?_)
        rintro s338 v ⟨-, t_s338, z337, rfl, g_z337⟩
        rw [t_s338.nil]
        show xe (some (N, xs)) 231 816 [(0, .ref 2000), (1, .ref 0), (2, .ref 256), (3, vi x3)] [vi z337] s 295 10442 _
        refine x_A k231_816 (fun _ => rfl) ?_
        refine x_A k231_817 (fun _ => rfl) ?_
        refine x_A k231_818 (fun _ => rfl) ?_
        refine x_A k231_819 (fun _ => rfl) ?_
        refine x_A k231_820 (fun _ => rfl) ?_
        refine x_iadd k231_821 ?_
        refine x_top (fun z339 e_z339 => ?_)
        refine x_scr k231_822 hN ⟨by omega, by omega⟩ (fun z340 g_z340 e_z340 => ?_)
        unfold in32 at g_z340
        have q_z340 : z340 = z334 := by rw [e_z340, e_z334, show z339 = z333 by omega]
        refine x_A k231_823 (fun _ => rfl) ?_
        refine x_A k231_824 (fun _ => rfl) ?_
        refine x_A k231_825 (fun _ => rfl) ?_
        refine x_iadd k231_826 ?_
        refine x_top (fun z341 e_z341 => ?_)
        refine x_scr k231_827 hN ⟨by omega, by omega⟩ (fun z342 g_z342 e_z342 => ?_)
        unfold in32 at g_z342
        have q_z342 : z342 = z336 := by rw [e_z342, e_z336, show z341 = z335 by omega]
        refine x_callV k231_828 (y := 193) (n := 2) (w0 := 0) (w1 := 2) (as := [vi z340, vi z342]) (rest := []) (by decide +kernel) (q := 256) (nq := 62) (kq := 15) ⟨by decide, rfl⟩ rfl rfl rfl rfl (xe_mono (C_X11_leads_256 s hG z340 ⟨by omega, by omega⟩ z342 ⟨by omega, by omega⟩) ?_)
        rintro s344 v ⟨-, t_s344, z343, rfl, g_z343⟩
        rw [t_s344.nil]
        show xe (some (N, xs)) 231 831 [(0, .ref 2000), (1, .ref 0), (2, .ref 256), (3, vi x3)] [vi z343] s 295 10442 _
        refine x_A k231_831 (fun _ => rfl) ?_
        refine x_goto k231_832 (t := 1300) rfl ?_
        refine x_iinc k231_1300 (ls' := [(3, vi (x3 + 7)), (0, .ref 2000), (1, .ref 0), (2, .ref 256)]) rfl (by decide) rfl ?_
        refine x_goto k231_1303 (t := 18) rfl ?_
        refine x_ls (l := [(0, .ref 2000), (1, .ref 0), (2, .ref 256), (3, vi (x3 + 7))]) (show ([0, 1, 2, 3] : List Nat).Nodup from by decide) ⟨rfl, rfl, rfl, rfl, trivial⟩ ?_
        exact ih s (x3 + 7) hG f ⟨by omega, by omega⟩ i_J i_TR i_X1 i_R1 i_G1 i_G3 i_Y1 i_W1 i_Q1 i_VCj i_VCl  (by omega)
      · rw [c5]
        refine x_B k231_33 rfl (fun _ => rfl) (fun _ => rfl) (fun _ _ => rfl) ?_
        show xe (some (N, xs)) 231 835 [(0, .ref 2000), (1, .ref 0), (2, .ref 256), (3, vi x3)] [] s 295 10442 _
        refine x_A k231_835 (fun _ => rfl) ?_
        refine x_callV k231_836 (y := 110) (n := 0) (w0 := 0) (w1 := 0) (as := []) (rest := []) (by decide +kernel) (q := 0) (nq := 12) (kq := 3) ⟨by decide, rfl⟩ rfl rfl rfl rfl (xe_mono (W_X10_ask_0 s hG) ?_)
        rintro s346 v ⟨hG_s346, t_s346, z345, rfl, g_z345, xp_z345⟩
        have J_s346 : J s346 := J.fl i_J t_s346 (by decide)
        have TR_s346 : TR s346 := TR.fl i_TR (hG 256 1).2 t_s346 (by decide)
        have R1_s346 : R1 s346 := R1.fl i_R1 t_s346 (by decide)
        have G1_s346 : G1 s346 := G1.fl i_G1 t_s346 (by decide)
        have G3_s346 : G3 s346 := G3.fl i_G3 t_s346 (by decide)
        have Y1_s346 : Y1 s346 := Y1.fl i_Y1 t_s346 (by decide)
        have W1_s346 : W1 s346 := W1.fl i_W1 t_s346 (by decide)
        have VCj_s346 : VCj s346 := VCj.fl i_VCj hG t_s346 (by decide)
        have VCl_s346 : VCl s346 := VCl.fl i_VCl hG t_s346 (by decide)
        obtain ⟨z347, e_z347⟩ : ∃ z, z = s346 177 1 := ⟨_, rfl⟩
        have g_z347 : (0 : Int) ≤ s346 177 1 ∧ s346 177 1 ≤ 160 := hG_s346 177 1
        obtain ⟨z348, e_z348⟩ : ∃ z, z = s346 177 5 := ⟨_, rfl⟩
        have g_z348 : (0 : Int) ≤ s346 177 5 ∧ s346 177 5 ≤ 5 := hG_s346 177 5
        obtain ⟨z349, e_z349⟩ : ∃ z, z = s346 177 6 := ⟨_, rfl⟩
        have g_z349 : (-2147483648) ≤ s346 177 6 ∧ s346 177 6 ≤ 2147483647 := hG_s346 177 6
        obtain ⟨z350, e_z350⟩ : ∃ z, z = s346 0 11 := ⟨_, rfl⟩
        have g_z350 : (-2147483648) ≤ s346 0 11 ∧ s346 0 11 ≤ 2147483647 := hG_s346 0 11
        obtain ⟨z351, e_z351⟩ : ∃ z, z = s346 218 6 := ⟨_, rfl⟩
        have g_z351 : (0 : Int) ≤ s346 218 6 ∧ s346 218 6 ≤ 8 := hG_s346 218 6
        show xe (some (N, xs)) 231 839 [(0, .ref 2000), (1, .ref 0), (2, .ref 256), (3, vi x3)] [vi z345] s346 295 10442 _
        refine x_A k231_839 (fun _ => rfl) ?_
        refine x_A k231_840 (fun _ => rfl) ?_
        obtain ⟨z352, e_z352⟩ : ∃ z, z = s346 256 47 := ⟨_, rfl⟩
        have g_z352 : (0 : Int) ≤ s346 256 47 ∧ s346 256 47 ≤ 110 := hG_s346 256 47
        obtain ⟨z353, e_z353⟩ : ∃ z, z = s346 256 48 := ⟨_, rfl⟩
        have g_z353 : (0 : Int) ≤ s346 256 48 ∧ s346 256 48 ≤ 120 := hG_s346 256 48
        obtain ⟨z354, e_z354⟩ : ∃ z, z = s346 256 36 := ⟨_, rfl⟩
        have g_z354 : (0 : Int) ≤ s346 256 36 ∧ s346 256 36 ≤ 160 := hG_s346 256 36
        obtain ⟨z355, e_z355⟩ : ∃ z, z = s346 256 34 := ⟨_, rfl⟩
        have g_z355 : (0 : Int) ≤ s346 256 34 ∧ s346 256 34 ≤ 160 := hG_s346 256 34
        obtain ⟨z356, e_z356⟩ : ∃ z, z = s346 256 43 := ⟨_, rfl⟩
        have g_z356 : (0 : Int) ≤ s346 256 43 ∧ s346 256 43 ≤ 8 := hG_s346 256 43
        obtain ⟨z357, e_z357⟩ : ∃ z, z = s346 256 50 := ⟨_, rfl⟩
        have g_z357 : (0 : Int) ≤ s346 256 50 ∧ s346 256 50 ≤ 5 := hG_s346 256 50
        obtain ⟨z358, e_z358⟩ : ∃ z, z = s346 256 51 := ⟨_, rfl⟩
        have g_z358 : (0 : Int) ≤ s346 256 51 ∧ s346 256 51 ≤ 1 := hG_s346 256 51
        refine x_callV k231_841 (y := 200) (n := 0) (w0 := 0) (w1 := 0) (as := []) (rest := []) (by decide +kernel) (q := 256) (nq := 62) (kq := 15) ⟨by decide, rfl⟩ rfl rfl rfl rfl (xe_mono (W_X11_ask_256 s346 hG_s346 ⟨by omega, by omega⟩ ⟨by omega, by omega⟩ ⟨by omega, by omega⟩ ⟨by omega, by omega⟩ ⟨by omega, by omega⟩ ⟨by omega, by omega⟩ ⟨by omega, by omega⟩ J_s346) ?_)
        rintro s360 v ⟨hG_s360, t_s360, z359, rfl, g_z359, xp_z359, J_s360⟩
        have q361 : s360 177 1 = z347 := (t_s360 177 1 (show 1218 ∉ [4133, 4136, 4132, 4134, 4135, 6080, 6144, 4144, 4145, 4148, 4147, 6208, 4131, 6016, 4140] from by decide)).trans e_z347.symm
        have q362 : s360 177 5 = z348 := (t_s360 177 5 (show 1222 ∉ [4133, 4136, 4132, 4134, 4135, 6080, 6144, 4144, 4145, 4148, 4147, 6208, 4131, 6016, 4140] from by decide)).trans e_z348.symm
        have q363 : s360 177 6 = z349 := (t_s360 177 6 (show 1223 ∉ [4133, 4136, 4132, 4134, 4135, 6080, 6144, 4144, 4145, 4148, 4147, 6208, 4131, 6016, 4140] from by decide)).trans e_z349.symm
        have q364 : s360 0 11 = z350 := (t_s360 0 11 (show 12 ∉ [4133, 4136, 4132, 4134, 4135, 6080, 6144, 4144, 4145, 4148, 4147, 6208, 4131, 6016, 4140] from by decide)).trans e_z350.symm
        have q365 : s360 218 6 = z351 := (t_s360 218 6 (show 2503 ∉ [4133, 4136, 4132, 4134, 4135, 6080, 6144, 4144, 4145, 4148, 4147, 6208, 4131, 6016, 4140] from by decide)).trans e_z351.symm
        have TR_s360 : TR s360 := TR.fl TR_s346 (hG_s346 256 1).2 t_s360 (by decide)
        have R1_s360 : R1 s360 := R1.fl R1_s346 t_s360 (by decide)
        have G1_s360 : G1 s360 := G1.fl G1_s346 t_s360 (by decide)
        have G3_s360 : G3 s360 := G3.fl G3_s346 t_s360 (by decide)
        have Y1_s360 : Y1 s360 := Y1.fl Y1_s346 t_s360 (by decide)
        have W1_s360 : W1 s360 := W1.fl W1_s346 t_s360 (by decide)
        have VCj_s360 : VCj s360 := VCj.fl VCj_s346 hG_s346 t_s360 (by decide)
        have VCl_s360 : VCl s360 := VCl.fl VCl_s346 hG_s346 t_s360 (by decide)
        obtain ⟨z366, e_z366⟩ : ∃ z, z = s360 256 35 := ⟨_, rfl⟩
        have g_z366 : (-2147483648) ≤ s360 256 35 ∧ s360 256 35 ≤ 2147483647 := hG_s360 256 35
        obtain ⟨z367, e_z367⟩ : ∃ z, z = s360 256 34 := ⟨_, rfl⟩
        have g_z367 : (0 : Int) ≤ s360 256 34 ∧ s360 256 34 ≤ 160 := hG_s360 256 34
        obtain ⟨z368, e_z368⟩ : ∃ z, z = s360 256 43 := ⟨_, rfl⟩
        have g_z368 : (0 : Int) ≤ s360 256 43 ∧ s360 256 43 ≤ 8 := hG_s360 256 43
        show xe (some (N, xs)) 231 844 [(0, .ref 2000), (1, .ref 0), (2, .ref 256), (3, vi x3)] [vi z359] s360 295 10442 _
        obtain ⟨ez_s360, X1_s360⟩ := X1.ask i_X1 hG t_s346 t_s360 (by decide) (by decide) xp_z345.1 xp_z359.1
        have Q1_s360 := Q1.ask i_Q1 i_X1 hG t_s346 t_s360 (by decide) (by decide) xp_z345 xp_z359 ez_s360
        refine x_A k231_844 (fun _ => rfl) ?_
        refine x_goto k231_845 (t := 1300) rfl ?_
        refine x_iinc k231_1300 (ls' := [(3, vi (x3 + 7)), (0, .ref 2000), (1, .ref 0), (2, .ref 256)]) rfl (by decide) rfl ?_
        refine x_goto k231_1303 (t := 18) rfl ?_
        refine x_ls (l := [(0, .ref 2000), (1, .ref 0), (2, .ref 256), (3, vi (x3 + 7))]) (show ([0, 1, 2, 3] : List Nat).Nodup from by decide) ⟨rfl, rfl, rfl, rfl, trivial⟩ ?_
        exact ih s360 (x3 + 7) hG_s360 trivial ⟨by omega, by omega⟩ J_s360 TR_s360 X1_s360 R1_s360 G1_s360 G3_s360 Y1_s360 W1_s360 Q1_s360 VCj_s360 VCl_s360  (by omega)
      · rw [c5]
        refine x_B k231_33 rfl (fun _ => rfl) (fun _ => rfl) (fun _ _ => rfl) ?_
        show xe (some (N, xs)) 231 848 [(0, .ref 2000), (1, .ref 0), (2, .ref 256), (3, vi x3)] [] s 295 10442 _
        refine x_A k231_848 (fun _ => rfl) ?_
        refine x_A k231_849 (fun _ => rfl) ?_
        refine x_A k231_850 (fun _ => rfl) ?_
        refine x_A k231_851 (fun _ => rfl) ?_
        refine x_iadd k231_852 ?_
        refine x_top (fun z369 e_z369 => ?_)
        refine x_scr k231_853 hN ⟨by omega, by omega⟩ (fun z370 g_z370 e_z370 => ?_)
        unfold in32 at g_z370
        refine x_A k231_854 (fun _ => rfl) ?_
        refine x_A k231_855 (fun _ => rfl) ?_
        refine x_A k231_856 (fun _ => rfl) ?_
        refine x_iadd k231_857 ?_
        refine x_top (fun z371 e_z371 => ?_)
        refine x_scr k231_858 hN ⟨by omega, by omega⟩ (fun z372 g_z372 e_z372 => ?_)
        unfold in32 at g_z372
        refine x_A k231_859 (fun _ => rfl) ?_
        refine x_A k231_860 (fun _ => rfl) ?_
        refine x_A k231_861 (fun _ => rfl) ?_
        refine x_iadd k231_862 ?_
        refine x_top (fun z373 e_z373 => ?_)
        refine x_scr k231_863 hN ⟨by omega, by omega⟩ (fun z374 g_z374 e_z374 => ?_)
        unfold in32 at g_z374
        obtain ⟨z375, e_z375⟩ : ∃ z, z = s 218 6 := ⟨_, rfl⟩
        have g_z375 : (0 : Int) ≤ s 218 6 ∧ s 218 6 ≤ 8 := hG 218 6
        obtain ⟨z376, e_z376⟩ : ∃ z, z = s 46 3 := ⟨_, rfl⟩
        have g_z376 : (0 : Int) ≤ s 46 3 ∧ s 46 3 ≤ 40 := hG 46 3
        obtain ⟨z377, e_z377⟩ : ∃ z, z = s 0 10 := ⟨_, rfl⟩
        have g_z377 : (0 : Int) ≤ s 0 10 ∧ s 0 10 ≤ 9 := hG 0 10
        refine x_callV k231_864 (y := 111) (n := 3) (w0 := 0) (w1 := 3) (as := [vi z370, vi z372, vi z374]) (rest := []) (by decide +kernel) (q := 0) (nq := 12) (kq := 3) ⟨by decide, rfl⟩ rfl rfl rfl rfl (xe_mono (W_X10_met_0 s hG i_J z370 ⟨by omega, by omega⟩ z372 ⟨by omega, by omega⟩ z374 ⟨by omega, by omega⟩ ⟨by omega, by omega⟩ ⟨by omega, by omega⟩ ⟨by omega, by omega⟩ i_R1 (G3.pn i_G3 hG) i_Q1 i_VCj i_VCl) ?_)
        rintro s379 v ⟨hG_s379, t_s379, z378, rfl, g_z378, xp_z378, VCj_s379, VCl_s379⟩
        have q380 : s379 218 6 = z375 := (t_s379 218 6 (show 2503 ∉ [3329, 3334, 3335, 3336, 3392, 3456, 3520, 3584, 3276, 3648, 3712, 3776, 3840, 3904, 3968, 3277, 4032, 2752] from by decide)).trans e_z375.symm
        have q381 : s379 46 3 = z376 := (t_s379 46 3 (show 452 ∉ [3329, 3334, 3335, 3336, 3392, 3456, 3520, 3584, 3276, 3648, 3712, 3776, 3840, 3904, 3968, 3277, 4032, 2752] from by decide)).trans e_z376.symm
        have q382 : s379 0 10 = z377 := (t_s379 0 10 (show 11 ∉ [3329, 3334, 3335, 3336, 3392, 3456, 3520, 3584, 3276, 3648, 3712, 3776, 3840, 3904, 3968, 3277, 4032, 2752] from by decide)).trans e_z377.symm
        have J_s379 : J s379 := J.fl i_J t_s379 (by decide)
        have TR_s379 : TR s379 := TR.fl i_TR (hG 256 1).2 t_s379 (by decide)
        have X1_s379 : X1 s379 := X1.fl i_X1 t_s379 (by decide)
        have R1_s379 : R1 s379 := R1.fl i_R1 t_s379 (by decide)
        have G1_s379 : G1 s379 := G1.fl i_G1 t_s379 (by decide)
        have G3_s379 : G3 s379 := G3.fl i_G3 t_s379 (by decide)
        have Y1_s379 : Y1 s379 := Y1.fl i_Y1 t_s379 (by decide)
        have W1_s379 : W1 s379 := W1.fl i_W1 t_s379 (by decide)
        have Q1_s379 : Q1 s379 := Q1.fl i_Q1 t_s379 (by decide)
        show xe (some (N, xs)) 231 867 [(0, .ref 2000), (1, .ref 0), (2, .ref 256), (3, vi x3)] [vi z378] s379 295 10442 _
        refine x_A k231_867 (fun _ => rfl) ?_
        refine x_A k231_868 (fun _ => rfl) ?_
        refine x_A k231_869 (fun _ => rfl) ?_
        refine x_A k231_870 (fun _ => rfl) ?_
        refine x_iadd k231_871 ?_
        refine x_top (fun z383 e_z383 => ?_)
        refine x_scr k231_872 hN ⟨by omega, by omega⟩ (fun z384 g_z384 e_z384 => ?_)
        unfold in32 at g_z384
        have q_z384 : z384 = z370 := by rw [e_z384, e_z370, show z383 = z369 by omega]
        refine x_A k231_873 (fun _ => rfl) ?_
        refine x_A k231_874 (fun _ => rfl) ?_
        refine x_A k231_875 (fun _ => rfl) ?_
        refine x_iadd k231_876 ?_
        refine x_top (fun z385 e_z385 => ?_)
        refine x_scr k231_877 hN ⟨by omega, by omega⟩ (fun z386 g_z386 e_z386 => ?_)
        unfold in32 at g_z386
        have q_z386 : z386 = z372 := by rw [e_z386, e_z372, show z385 = z371 by omega]
        refine x_A k231_878 (fun _ => rfl) ?_
        refine x_A k231_879 (fun _ => rfl) ?_
        refine x_A k231_880 (fun _ => rfl) ?_
        refine x_iadd k231_881 ?_
        refine x_top (fun z387 e_z387 => ?_)
        refine x_scr k231_882 hN ⟨by omega, by omega⟩ (fun z388 g_z388 e_z388 => ?_)
        unfold in32 at g_z388
        have q_z388 : z388 = z374 := by rw [e_z388, e_z374, show z387 = z373 by omega]
        obtain ⟨z389, e_z389⟩ : ∃ z, z = s379 256 43 := ⟨_, rfl⟩
        have g_z389 : (0 : Int) ≤ s379 256 43 ∧ s379 256 43 ≤ 8 := hG_s379 256 43
        obtain ⟨z390, e_z390⟩ : ∃ z, z = s379 256 6 := ⟨_, rfl⟩
        have g_z390 : (0 : Int) ≤ s379 256 6 ∧ s379 256 6 ≤ 40 := hG_s379 256 6
        obtain ⟨z391, e_z391⟩ : ∃ z, z = s379 256 0 := ⟨_, rfl⟩
        have g_z391 : (0 : Int) ≤ s379 256 0 ∧ s379 256 0 ≤ 9 := hG_s379 256 0
        refine x_callV k231_883 (y := 204) (n := 3) (w0 := 1) (w1 := 3) (as := [vi z384, vi z386, vi z388]) (rest := [vi z378]) (by decide +kernel) (q := 256) (nq := 62) (kq := 15) ⟨by decide, rfl⟩ rfl rfl rfl rfl (xe_mono (W_X11_met_256 s379 hG_s379 J_s379 z384 ⟨by omega, by omega⟩ z386 ⟨by omega, by omega⟩ z388 ⟨by omega, by omega⟩ ⟨by omega, by omega⟩ ⟨by omega, by omega⟩ ⟨by omega, by omega⟩ R1_s379 TR_s379 G1_s379 G3_s379 Y1_s379 X1_s379 W1_s379 Q1_s379) ?_)
        rintro s393 v ⟨hG_s393, t_s393, z392, rfl, g_z392, xp_z392⟩
        have q394 : s393 218 6 = z375 := (t_s393 218 6 (show 2503 ∉ [5312, 5376, 4123, 5440, 5504, 5568, 5632, 5696, 5760, 6272] from by decide)).trans q380
        have q395 : s393 46 3 = z376 := (t_s393 46 3 (show 452 ∉ [5312, 5376, 4123, 5440, 5504, 5568, 5632, 5696, 5760, 6272] from by decide)).trans q381
        have q396 : s393 0 10 = z377 := (t_s393 0 10 (show 11 ∉ [5312, 5376, 4123, 5440, 5504, 5568, 5632, 5696, 5760, 6272] from by decide)).trans q382
        have q397 : s393 256 43 = z389 := (t_s393 256 43 (show 4140 ∉ [5312, 5376, 4123, 5440, 5504, 5568, 5632, 5696, 5760, 6272] from by decide)).trans e_z389.symm
        have q398 : s393 256 6 = z390 := (t_s393 256 6 (show 4103 ∉ [5312, 5376, 4123, 5440, 5504, 5568, 5632, 5696, 5760, 6272] from by decide)).trans e_z390.symm
        have q399 : s393 256 0 = z391 := (t_s393 256 0 (show 4097 ∉ [5312, 5376, 4123, 5440, 5504, 5568, 5632, 5696, 5760, 6272] from by decide)).trans e_z391.symm
        have J_s393 : J s393 := J.fl J_s379 t_s393 (by decide)
        have TR_s393 : TR s393 := TR.fl TR_s379 (hG_s379 256 1).2 t_s393 (by decide)
        have X1_s393 : X1 s393 := X1.fl X1_s379 t_s393 (by decide)
        have R1_s393 : R1 s393 := R1.fl R1_s379 t_s393 (by decide)
        have G1_s393 : G1 s393 := G1.fl G1_s379 t_s393 (by decide)
        have G3_s393 : G3 s393 := G3.fl G3_s379 t_s393 (by decide)
        have Y1_s393 : Y1 s393 := Y1.fl Y1_s379 t_s393 (by decide)
        have W1_s393 : W1 s393 := W1.fl W1_s379 t_s393 (by decide)
        have Q1_s393 : Q1 s393 := Q1.fl Q1_s379 t_s393 (by decide)
        have VCj_s393 : VCj s393 := VCj.fl VCj_s379 hG_s379 t_s393 (by decide)
        have VCl_s393 : VCl s393 := VCl.fl VCl_s379 hG_s379 t_s393 (by decide)
        show xe (some (N, xs)) 231 886 [(0, .ref 2000), (1, .ref 0), (2, .ref 256), (3, vi x3)] [vi z392, vi z378] s393 295 10442 _
        have ez_s393 := MtS.u xp_z378 (MtS.fl (by rw [← q_z384, ← q_z386, ← q_z388]; exact xp_z392) hG t_s379 (by decide))
        refine x_ic_eq k231_886 (t := 1300) rfl ⟨by omega, by omega⟩ ⟨by omega, by omega⟩ (fun c400 => ?_) (fun c400 => ?_)
        · skip
          refine x_iinc k231_1300 (ls' := [(3, vi (x3 + 7)), (0, .ref 2000), (1, .ref 0), (2, .ref 256)]) rfl (by decide) rfl ?_
          refine x_goto k231_1303 (t := 18) rfl ?_
          refine x_ls (l := [(0, .ref 2000), (1, .ref 0), (2, .ref 256), (3, vi (x3 + 7))]) (show ([0, 1, 2, 3] : List Nat).Nodup from by decide) ⟨rfl, rfl, rfl, rfl, trivial⟩ ?_
          exact ih s393 (x3 + 7) hG_s393 trivial ⟨by omega, by omega⟩ J_s393 TR_s393 X1_s393 R1_s393 G1_s393 G3_s393 Y1_s393 W1_s393 Q1_s393 VCj_s393 VCl_s393  (by omega)
        · skip
          refine x_A k231_889 (fun _ => rfl) ?_
          exfalso; omega
      · rw [c5]
        refine x_B k231_33 rfl (fun _ => rfl) (fun _ => rfl) (fun _ _ => rfl) ?_
        show xe (some (N, xs)) 231 891 [(0, .ref 2000), (1, .ref 0), (2, .ref 256), (3, vi x3)] [] s 295 10442 _
        refine x_A k231_891 (fun _ => rfl) ?_
        refine x_A k231_892 (fun _ => rfl) ?_
        refine x_A k231_893 (fun _ => rfl) ?_
        refine x_A k231_894 (fun _ => rfl) ?_
        refine x_iadd k231_895 ?_
        refine x_top (fun z401 e_z401 => ?_)
        refine x_scr k231_896 hN ⟨by omega, by omega⟩ (fun z402 g_z402 e_z402 => ?_)
        unfold in32 at g_z402
        refine x_A k231_897 (fun _ => rfl) ?_
        refine x_A k231_898 (fun _ => rfl) ?_
        refine x_A k231_899 (fun _ => rfl) ?_
        refine x_iadd k231_900 ?_
        refine x_top (fun z403 e_z403 => ?_)
        refine x_scr k231_901 hN ⟨by omega, by omega⟩ (fun z404 g_z404 e_z404 => ?_)
        unfold in32 at g_z404
        refine x_A k231_902 (fun _ => rfl) ?_
        refine x_A k231_903 (fun _ => rfl) ?_
        refine x_A k231_904 (fun _ => rfl) ?_
        refine x_iadd k231_905 ?_
        refine x_top (fun z405 e_z405 => ?_)
        refine x_scr k231_906 hN ⟨by omega, by omega⟩ (fun z406 g_z406 e_z406 => ?_)
        unfold in32 at g_z406
        refine x_A k231_907 (fun _ => rfl) ?_
        refine x_A k231_908 (fun _ => rfl) ?_
        refine x_A k231_909 (fun _ => rfl) ?_
        refine x_iadd k231_910 ?_
        refine x_top (fun z407 e_z407 => ?_)
        refine x_scr k231_911 hN ⟨by omega, by omega⟩ (fun z408 g_z408 e_z408 => ?_)
        unfold in32 at g_z408
        refine x_A k231_912 (fun _ => rfl) ?_
        refine x_A k231_913 (fun _ => rfl) ?_
        refine x_A k231_914 (fun _ => rfl) ?_
        refine x_iadd k231_915 ?_
        refine x_top (fun z409 e_z409 => ?_)
        refine x_scr k231_916 hN ⟨by omega, by omega⟩ (fun z410 g_z410 e_z410 => ?_)
        unfold in32 at g_z410
        refine x_callV k231_917 (y := 112) (n := 5) (w0 := 0) (w1 := 5) (as := [vi z402, vi z404, vi z406, vi z408, vi z410]) (rest := []) (by decide +kernel) (q := 0) (nq := 12) (kq := 3) ⟨by decide, rfl⟩ rfl rfl rfl rfl (xe_mono (V_X10_hands_0 s hG i_J z402 ⟨by omega, by omega⟩ z404 ⟨by omega, by omega⟩ z406 ⟨by omega, by omega⟩ z408 ⟨by omega, by omega⟩ z410 ⟨by omega, by omega⟩ i_R1 i_VCj i_VCl) ?_)
        rintro s412 v ⟨hG_s412, t_s412, z411, rfl, g_z411, VCj_s412, VCl_s412⟩
        have J_s412 : J s412 := J.fl i_J t_s412 (by decide)
        have TR_s412 : TR s412 := TR.fl i_TR (hG 256 1).2 t_s412 (by decide)
        have X1_s412 : X1 s412 := X1.fl i_X1 t_s412 (by decide)
        have R1_s412 : R1 s412 := R1.fl i_R1 t_s412 (by decide)
        have G1_s412 : G1 s412 := G1.fl i_G1 t_s412 (by decide)
        have G3_s412 : G3 s412 := G3.fl i_G3 t_s412 (by decide)
        have Y1_s412 : Y1 s412 := Y1.fl i_Y1 t_s412 (by decide)
        have W1_s412 : W1 s412 := W1.fl i_W1 t_s412 (by decide)
        have Q1_s412 : Q1 s412 := Q1.fl i_Q1 t_s412 (by decide)
        show xe (some (N, xs)) 231 920 [(0, .ref 2000), (1, .ref 0), (2, .ref 256), (3, vi x3)] [vi z411] s412 295 10442 _
        refine x_A k231_920 (fun _ => rfl) ?_
        refine x_A k231_921 (fun _ => rfl) ?_
        refine x_A k231_922 (fun _ => rfl) ?_
        refine x_A k231_923 (fun _ => rfl) ?_
        refine x_A k231_924 (fun _ => rfl) ?_
        refine x_iadd k231_925 ?_
        refine x_top (fun z413 e_z413 => ?_)
        refine x_scr k231_926 hN ⟨by omega, by omega⟩ (fun z414 g_z414 e_z414 => ?_)
        unfold in32 at g_z414
        have q_z414 : z414 = z402 := by rw [e_z414, e_z402, show z413 = z401 by omega]
        refine x_A k231_927 (fun _ => rfl) ?_
        refine x_A k231_928 (fun _ => rfl) ?_
        refine x_A k231_929 (fun _ => rfl) ?_
        refine x_iadd k231_930 ?_
        refine x_top (fun z415 e_z415 => ?_)
        refine x_scr k231_931 hN ⟨by omega, by omega⟩ (fun z416 g_z416 e_z416 => ?_)
        unfold in32 at g_z416
        have q_z416 : z416 = z404 := by rw [e_z416, e_z404, show z415 = z403 by omega]
        refine x_A k231_932 (fun _ => rfl) ?_
        refine x_A k231_933 (fun _ => rfl) ?_
        refine x_A k231_934 (fun _ => rfl) ?_
        refine x_iadd k231_935 ?_
        refine x_top (fun z417 e_z417 => ?_)
        refine x_scr k231_936 hN ⟨by omega, by omega⟩ (fun z418 g_z418 e_z418 => ?_)
        unfold in32 at g_z418
        have q_z418 : z418 = z406 := by rw [e_z418, e_z406, show z417 = z405 by omega]
        refine x_A k231_937 (fun _ => rfl) ?_
        refine x_A k231_938 (fun _ => rfl) ?_
        refine x_A k231_939 (fun _ => rfl) ?_
        refine x_iadd k231_940 ?_
        refine x_top (fun z419 e_z419 => ?_)
        refine x_scr k231_941 hN ⟨by omega, by omega⟩ (fun z420 g_z420 e_z420 => ?_)
        unfold in32 at g_z420
        have q_z420 : z420 = z408 := by rw [e_z420, e_z408, show z419 = z407 by omega]
        refine x_A k231_942 (fun _ => rfl) ?_
        refine x_A k231_943 (fun _ => rfl) ?_
        refine x_A k231_944 (fun _ => rfl) ?_
        refine x_iadd k231_945 ?_
        refine x_top (fun z421 e_z421 => ?_)
        refine x_scr k231_946 hN ⟨by omega, by omega⟩ (fun z422 g_z422 e_z422 => ?_)
        unfold in32 at g_z422
        have q_z422 : z422 = z410 := by rw [e_z422, e_z410, show z421 = z409 by omega]
        refine x_callV k231_947 (y := 206) (n := 5) (w0 := 0) (w1 := 5) (as := [vi z414, vi z416, vi z418, vi z420, vi z422]) (rest := []) (by decide +kernel) (q := 256) (nq := 62) (kq := 15) ⟨by decide, rfl⟩ rfl rfl rfl rfl (xe_mono (C_X11_hands_256 s412 hG_s412 J_s412 z414 ⟨by omega, by omega⟩ z416 ⟨by omega, by omega⟩ z418 ⟨by omega, by omega⟩ z420 ⟨by omega, by omega⟩ z422 ⟨by omega, by omega⟩) ?_)
        rintro s424 v ⟨hG_s424, t_s424, z423, rfl, g_z423⟩
        have J_s424 : J s424 := J.fl J_s412 t_s424 (by decide)
        have TR_s424 : TR s424 := TR.fl TR_s412 (hG_s412 256 1).2 t_s424 (by decide)
        have X1_s424 : X1 s424 := X1.fl X1_s412 t_s424 (by decide)
        have R1_s424 : R1 s424 := R1.fl R1_s412 t_s424 (by decide)
        have G1_s424 : G1 s424 := G1.fl G1_s412 t_s424 (by decide)
        have G3_s424 : G3 s424 := G3.fl G3_s412 t_s424 (by decide)
        have Y1_s424 : Y1 s424 := Y1.fl Y1_s412 t_s424 (by decide)
        have W1_s424 : W1 s424 := W1.fl W1_s412 t_s424 (by decide)
        have Q1_s424 : Q1 s424 := Q1.fl Q1_s412 t_s424 (by decide)
        have VCj_s424 : VCj s424 := VCj.fl VCj_s412 hG_s412 t_s424 (by decide)
        have VCl_s424 : VCl s424 := VCl.fl VCl_s412 hG_s412 t_s424 (by decide)
        show xe (some (N, xs)) 231 950 [(0, .ref 2000), (1, .ref 0), (2, .ref 256), (3, vi x3)] [vi z423] s424 295 10442 _
        refine x_A k231_950 (fun _ => rfl) ?_
        refine x_goto k231_951 (t := 1300) rfl ?_
        refine x_iinc k231_1300 (ls' := [(3, vi (x3 + 7)), (0, .ref 2000), (1, .ref 0), (2, .ref 256)]) rfl (by decide) rfl ?_
        refine x_goto k231_1303 (t := 18) rfl ?_
        refine x_ls (l := [(0, .ref 2000), (1, .ref 0), (2, .ref 256), (3, vi (x3 + 7))]) (show ([0, 1, 2, 3] : List Nat).Nodup from by decide) ⟨rfl, rfl, rfl, rfl, trivial⟩ ?_
        exact ih s424 (x3 + 7) hG_s424 trivial ⟨by omega, by omega⟩ J_s424 TR_s424 X1_s424 R1_s424 G1_s424 G3_s424 Y1_s424 W1_s424 Q1_s424 VCj_s424 VCl_s424  (by omega)
      · rw [c5]
        refine x_B k231_33 rfl (fun _ => rfl) (fun _ => rfl) (fun _ _ => rfl) ?_
        show xe (some (N, xs)) 231 954 [(0, .ref 2000), (1, .ref 0), (2, .ref 256), (3, vi x3)] [] s 295 10442 _
        refine x_A k231_954 (fun _ => rfl) ?_
        refine x_A k231_955 (fun _ => rfl) ?_
        refine x_A k231_956 (fun _ => rfl) ?_
        refine x_A k231_957 (fun _ => rfl) ?_
        refine x_iadd k231_958 ?_
        refine x_top (fun z425 e_z425 => ?_)
        refine x_scr k231_959 hN ⟨by omega, by omega⟩ (fun z426 g_z426 e_z426 => ?_)
        unfold in32 at g_z426
        refine x_A k231_960 (fun _ => rfl) ?_
        refine x_A k231_961 (fun _ => rfl) ?_
        refine x_A k231_962 (fun _ => rfl) ?_
        refine x_iadd k231_963 ?_
        refine x_top (fun z427 e_z427 => ?_)
        refine x_scr k231_964 hN ⟨by omega, by omega⟩ (fun z428 g_z428 e_z428 => ?_)
        unfold in32 at g_z428
        refine x_A k231_965 (fun _ => rfl) ?_
        refine x_A k231_966 (fun _ => rfl) ?_
        refine x_A k231_967 (fun _ => rfl) ?_
        refine x_iadd k231_968 ?_
        refine x_top (fun z429 e_z429 => ?_)
        refine x_scr k231_969 hN ⟨by omega, by omega⟩ (fun z430 g_z430 e_z430 => ?_)
        unfold in32 at g_z430
        refine x_A k231_970 (fun _ => rfl) ?_
        refine x_A k231_971 (fun _ => rfl) ?_
        refine x_A k231_972 (fun _ => rfl) ?_
        refine x_iadd k231_973 ?_
        refine x_top (fun z431 e_z431 => ?_)
        refine x_scr k231_974 hN ⟨by omega, by omega⟩ (fun z432 g_z432 e_z432 => ?_)
        unfold in32 at g_z432
        refine x_A k231_975 (fun _ => rfl) ?_
        refine x_A k231_976 (fun _ => rfl) ?_
        refine x_A k231_977 (fun _ => rfl) ?_
        refine x_iadd k231_978 ?_
        refine x_top (fun z433 e_z433 => ?_)
        refine x_scr k231_979 hN ⟨by omega, by omega⟩ (fun z434 g_z434 e_z434 => ?_)
        unfold in32 at g_z434
        refine x_A k231_980 (fun _ => rfl) ?_
        refine x_A k231_981 (fun _ => rfl) ?_
        refine x_bipush k231_982 (by decide +kernel) ?_
        refine x_iadd k231_984 ?_
        refine x_top (fun z435 e_z435 => ?_)
        refine x_scr k231_985 hN ⟨by omega, by omega⟩ (fun z436 g_z436 e_z436 => ?_)
        unfold in32 at g_z436
        refine x_callV k231_986 (y := 113) (n := 6) (w0 := 0) (w1 := 6) (as := [vi z426, vi z428, vi z430, vi z432, vi z434, vi z436]) (rest := []) (by decide +kernel) (q := 0) (nq := 12) (kq := 3) ⟨by decide, rfl⟩ rfl rfl rfl rfl (xe_mono (V_X10_together_0 s hG i_J z426 ⟨by omega, by omega⟩ z428 ⟨by omega, by omega⟩ z430 ⟨by omega, by omega⟩ z432 ⟨by omega, by omega⟩ z434 ⟨by omega, by omega⟩ z436 ⟨by omega, by omega⟩ i_R1 i_VCj i_VCl) ?_)
        rintro s438 v ⟨hG_s438, t_s438, z437, rfl, g_z437, VCj_s438, VCl_s438⟩
        have J_s438 : J s438 := J.fl i_J t_s438 (by decide)
        have TR_s438 : TR s438 := TR.fl i_TR (hG 256 1).2 t_s438 (by decide)
        have X1_s438 : X1 s438 := X1.fl i_X1 t_s438 (by decide)
        have R1_s438 : R1 s438 := R1.fl i_R1 t_s438 (by decide)
        have G1_s438 : G1 s438 := G1.fl i_G1 t_s438 (by decide)
        have G3_s438 : G3 s438 := G3.fl i_G3 t_s438 (by decide)
        have Y1_s438 : Y1 s438 := Y1.fl i_Y1 t_s438 (by decide)
        have W1_s438 : W1 s438 := W1.fl i_W1 t_s438 (by decide)
        have Q1_s438 : Q1 s438 := Q1.fl i_Q1 t_s438 (by decide)
        show xe (some (N, xs)) 231 989 [(0, .ref 2000), (1, .ref 0), (2, .ref 256), (3, vi x3)] [vi z437] s438 295 10442 _
        refine x_A k231_989 (fun _ => rfl) ?_
        refine x_A k231_990 (fun _ => rfl) ?_
        refine x_A k231_991 (fun _ => rfl) ?_
        refine x_A k231_992 (fun _ => rfl) ?_
        refine x_A k231_993 (fun _ => rfl) ?_
        refine x_iadd k231_994 ?_
        refine x_top (fun z439 e_z439 => ?_)
        refine x_scr k231_995 hN ⟨by omega, by omega⟩ (fun z440 g_z440 e_z440 => ?_)
        unfold in32 at g_z440
        have q_z440 : z440 = z426 := by rw [e_z440, e_z426, show z439 = z425 by omega]
        refine x_A k231_996 (fun _ => rfl) ?_
        refine x_A k231_997 (fun _ => rfl) ?_
        refine x_A k231_998 (fun _ => rfl) ?_
        refine x_iadd k231_999 ?_
        refine x_top (fun z441 e_z441 => ?_)
        refine x_scr k231_1000 hN ⟨by omega, by omega⟩ (fun z442 g_z442 e_z442 => ?_)
        unfold in32 at g_z442
        have q_z442 : z442 = z428 := by rw [e_z442, e_z428, show z441 = z427 by omega]
        refine x_A k231_1001 (fun _ => rfl) ?_
        refine x_A k231_1002 (fun _ => rfl) ?_
        refine x_A k231_1003 (fun _ => rfl) ?_
        refine x_iadd k231_1004 ?_
        refine x_top (fun z443 e_z443 => ?_)
        refine x_scr k231_1005 hN ⟨by omega, by omega⟩ (fun z444 g_z444 e_z444 => ?_)
        unfold in32 at g_z444
        have q_z444 : z444 = z430 := by rw [e_z444, e_z430, show z443 = z429 by omega]
        refine x_A k231_1006 (fun _ => rfl) ?_
        refine x_A k231_1007 (fun _ => rfl) ?_
        refine x_A k231_1008 (fun _ => rfl) ?_
        refine x_iadd k231_1009 ?_
        refine x_top (fun z445 e_z445 => ?_)
        refine x_scr k231_1010 hN ⟨by omega, by omega⟩ (fun z446 g_z446 e_z446 => ?_)
        unfold in32 at g_z446
        have q_z446 : z446 = z432 := by rw [e_z446, e_z432, show z445 = z431 by omega]
        refine x_A k231_1011 (fun _ => rfl) ?_
        refine x_A k231_1012 (fun _ => rfl) ?_
        refine x_A k231_1013 (fun _ => rfl) ?_
        refine x_iadd k231_1014 ?_
        refine x_top (fun z447 e_z447 => ?_)
        refine x_scr k231_1015 hN ⟨by omega, by omega⟩ (fun z448 g_z448 e_z448 => ?_)
        unfold in32 at g_z448
        have q_z448 : z448 = z434 := by rw [e_z448, e_z434, show z447 = z433 by omega]
        refine x_A k231_1016 (fun _ => rfl) ?_
        refine x_A k231_1017 (fun _ => rfl) ?_
        refine x_bipush k231_1018 (by decide +kernel) ?_
        refine x_iadd k231_1020 ?_
        refine x_top (fun z449 e_z449 => ?_)
        refine x_scr k231_1021 hN ⟨by omega, by omega⟩ (fun z450 g_z450 e_z450 => ?_)
        unfold in32 at g_z450
        have q_z450 : z450 = z436 := by rw [e_z450, e_z436, show z449 = z435 by omega]
        refine x_callV k231_1022 (y := 208) (n := 6) (w0 := 0) (w1 := 6) (as := [vi z440, vi z442, vi z444, vi z446, vi z448, vi z450]) (rest := []) (by decide +kernel) (q := 256) (nq := 62) (kq := 15) ⟨by decide, rfl⟩ rfl rfl rfl rfl (xe_mono (C_X11_together_256 s438 hG_s438 J_s438 z440 ⟨by omega, by omega⟩ z442 ⟨by omega, by omega⟩ z444 ⟨by omega, by omega⟩ z446 ⟨by omega, by omega⟩ z448 ⟨by omega, by omega⟩ z450 ⟨by omega, by omega⟩) ?_)
        rintro s452 v ⟨hG_s452, t_s452, z451, rfl, g_z451⟩
        have J_s452 : J s452 := J.fl J_s438 t_s452 (by decide)
        have TR_s452 : TR s452 := TR.fl TR_s438 (hG_s438 256 1).2 t_s452 (by decide)
        have X1_s452 : X1 s452 := X1.fl X1_s438 t_s452 (by decide)
        have R1_s452 : R1 s452 := R1.fl R1_s438 t_s452 (by decide)
        have G1_s452 : G1 s452 := G1.fl G1_s438 t_s452 (by decide)
        have G3_s452 : G3 s452 := G3.fl G3_s438 t_s452 (by decide)
        have Y1_s452 : Y1 s452 := Y1.fl Y1_s438 t_s452 (by decide)
        have W1_s452 : W1 s452 := W1.fl W1_s438 t_s452 (by decide)
        have Q1_s452 : Q1 s452 := Q1.fl Q1_s438 t_s452 (by decide)
        have VCj_s452 : VCj s452 := VCj.fl VCj_s438 hG_s438 t_s452 (by decide)
        have VCl_s452 : VCl s452 := VCl.fl VCl_s438 hG_s438 t_s452 (by decide)
        show xe (some (N, xs)) 231 1025 [(0, .ref 2000), (1, .ref 0), (2, .ref 256), (3, vi x3)] [vi z451] s452 295 10442 _
        refine x_A k231_1025 (fun _ => rfl) ?_
        refine x_goto k231_1026 (t := 1300) rfl ?_
        refine x_iinc k231_1300 (ls' := [(3, vi (x3 + 7)), (0, .ref 2000), (1, .ref 0), (2, .ref 256)]) rfl (by decide) rfl ?_
        refine x_goto k231_1303 (t := 18) rfl ?_
        refine x_ls (l := [(0, .ref 2000), (1, .ref 0), (2, .ref 256), (3, vi (x3 + 7))]) (show ([0, 1, 2, 3] : List Nat).Nodup from by decide) ⟨rfl, rfl, rfl, rfl, trivial⟩ ?_
        exact ih s452 (x3 + 7) hG_s452 trivial ⟨by omega, by omega⟩ J_s452 TR_s452 X1_s452 R1_s452 G1_s452 G3_s452 Y1_s452 W1_s452 Q1_s452 VCj_s452 VCl_s452  (by omega)
      · rw [c5]
        refine x_B k231_33 rfl (fun _ => rfl) (fun _ => rfl) (fun _ _ => rfl) ?_
        show xe (some (N, xs)) 231 1029 [(0, .ref 2000), (1, .ref 0), (2, .ref 256), (3, vi x3)] [] s 295 10442 _
        refine x_A k231_1029 (fun _ => rfl) ?_
        refine x_A k231_1030 (fun _ => rfl) ?_
        refine x_A k231_1031 (fun _ => rfl) ?_
        refine x_A k231_1032 (fun _ => rfl) ?_
        refine x_iadd k231_1033 ?_
        refine x_top (fun z453 e_z453 => ?_)
        refine x_scr k231_1034 hN ⟨by omega, by omega⟩ (fun z454 g_z454 e_z454 => ?_)
        unfold in32 at g_z454
        refine x_A k231_1035 (fun _ => rfl) ?_
        refine x_A k231_1036 (fun _ => rfl) ?_
        refine x_A k231_1037 (fun _ => rfl) ?_
        refine x_iadd k231_1038 ?_
        refine x_top (fun z455 e_z455 => ?_)
        refine x_scr k231_1039 hN ⟨by omega, by omega⟩ (fun z456 g_z456 e_z456 => ?_)
        unfold in32 at g_z456
        refine x_A k231_1040 (fun _ => rfl) ?_
        refine x_A k231_1041 (fun _ => rfl) ?_
        refine x_A k231_1042 (fun _ => rfl) ?_
        refine x_iadd k231_1043 ?_
        refine x_top (fun z457 e_z457 => ?_)
        refine x_scr k231_1044 hN ⟨by omega, by omega⟩ (fun z458 g_z458 e_z458 => ?_)
        unfold in32 at g_z458
        refine x_callV k231_1045 (y := 114) (n := 3) (w0 := 0) (w1 := 3) (as := [vi z454, vi z456, vi z458]) (rest := []) (by decide +kernel) (q := 0) (nq := 12) (kq := 3) ⟨by decide, rfl⟩ rfl rfl rfl rfl (xe_mono (V_X10_along_0 s hG i_J z454 ⟨by omega, by omega⟩ z456 ⟨by omega, by omega⟩ z458 ⟨by omega, by omega⟩ i_R1 i_VCj i_VCl) ?_)
        rintro s460 v ⟨hG_s460, t_s460, z459, rfl, g_z459, VCj_s460, VCl_s460⟩
        have J_s460 : J s460 := J.fl i_J t_s460 (by decide)
        have TR_s460 : TR s460 := TR.fl i_TR (hG 256 1).2 t_s460 (by decide)
        have X1_s460 : X1 s460 := X1.fl i_X1 t_s460 (by decide)
        have R1_s460 : R1 s460 := R1.fl i_R1 t_s460 (by decide)
        have G1_s460 : G1 s460 := G1.fl i_G1 t_s460 (by decide)
        have G3_s460 : G3 s460 := G3.fl i_G3 t_s460 (by decide)
        have Y1_s460 : Y1 s460 := Y1.fl i_Y1 t_s460 (by decide)
        have W1_s460 : W1 s460 := W1.fl i_W1 t_s460 (by decide)
        have Q1_s460 : Q1 s460 := Q1.fl i_Q1 t_s460 (by decide)
        show xe (some (N, xs)) 231 1048 [(0, .ref 2000), (1, .ref 0), (2, .ref 256), (3, vi x3)] [vi z459] s460 295 10442 _
        refine x_A k231_1048 (fun _ => rfl) ?_
        refine x_A k231_1049 (fun _ => rfl) ?_
        refine x_A k231_1050 (fun _ => rfl) ?_
        refine x_A k231_1051 (fun _ => rfl) ?_
        refine x_A k231_1052 (fun _ => rfl) ?_
        refine x_iadd k231_1053 ?_
        refine x_top (fun z461 e_z461 => ?_)
        refine x_scr k231_1054 hN ⟨by omega, by omega⟩ (fun z462 g_z462 e_z462 => ?_)
        unfold in32 at g_z462
        have q_z462 : z462 = z454 := by rw [e_z462, e_z454, show z461 = z453 by omega]
        refine x_A k231_1055 (fun _ => rfl) ?_
        refine x_A k231_1056 (fun _ => rfl) ?_
        refine x_A k231_1057 (fun _ => rfl) ?_
        refine x_iadd k231_1058 ?_
        refine x_top (fun z463 e_z463 => ?_)
        refine x_scr k231_1059 hN ⟨by omega, by omega⟩ (fun z464 g_z464 e_z464 => ?_)
        unfold in32 at g_z464
        have q_z464 : z464 = z456 := by rw [e_z464, e_z456, show z463 = z455 by omega]
        refine x_A k231_1060 (fun _ => rfl) ?_
        refine x_A k231_1061 (fun _ => rfl) ?_
        refine x_A k231_1062 (fun _ => rfl) ?_
        refine x_iadd k231_1063 ?_
        refine x_top (fun z465 e_z465 => ?_)
        refine x_scr k231_1064 hN ⟨by omega, by omega⟩ (fun z466 g_z466 e_z466 => ?_)
        unfold in32 at g_z466
        have q_z466 : z466 = z458 := by rw [e_z466, e_z458, show z465 = z457 by omega]
        refine x_callV k231_1065 (y := 211) (n := 3) (w0 := 0) (w1 := 3) (as := [vi z462, vi z464, vi z466]) (rest := []) (by decide +kernel) (q := 256) (nq := 62) (kq := 15) ⟨by decide, rfl⟩ rfl rfl rfl rfl (xe_mono (C_X11_along_256 s460 hG_s460 J_s460 z462 ⟨by omega, by omega⟩ z464 ⟨by omega, by omega⟩ z466 ⟨by omega, by omega⟩) ?_)
        rintro s468 v ⟨hG_s468, t_s468, z467, rfl, g_z467⟩
        have J_s468 : J s468 := J.fl J_s460 t_s468 (by decide)
        have TR_s468 : TR s468 := TR.fl TR_s460 (hG_s460 256 1).2 t_s468 (by decide)
        have X1_s468 : X1 s468 := X1.fl X1_s460 t_s468 (by decide)
        have R1_s468 : R1 s468 := R1.fl R1_s460 t_s468 (by decide)
        have G1_s468 : G1 s468 := G1.fl G1_s460 t_s468 (by decide)
        have G3_s468 : G3 s468 := G3.fl G3_s460 t_s468 (by decide)
        have Y1_s468 : Y1 s468 := Y1.fl Y1_s460 t_s468 (by decide)
        have W1_s468 : W1 s468 := W1.fl W1_s460 t_s468 (by decide)
        have Q1_s468 : Q1 s468 := Q1.fl Q1_s460 t_s468 (by decide)
        have VCj_s468 : VCj s468 := VCj.fl VCj_s460 hG_s460 t_s468 (by decide)
        have VCl_s468 : VCl s468 := VCl.fl VCl_s460 hG_s460 t_s468 (by decide)
        show xe (some (N, xs)) 231 1068 [(0, .ref 2000), (1, .ref 0), (2, .ref 256), (3, vi x3)] [vi z467] s468 295 10442 _
        refine x_A k231_1068 (fun _ => rfl) ?_
        refine x_goto k231_1069 (t := 1300) rfl ?_
        refine x_iinc k231_1300 (ls' := [(3, vi (x3 + 7)), (0, .ref 2000), (1, .ref 0), (2, .ref 256)]) rfl (by decide) rfl ?_
        refine x_goto k231_1303 (t := 18) rfl ?_
        refine x_ls (l := [(0, .ref 2000), (1, .ref 0), (2, .ref 256), (3, vi (x3 + 7))]) (show ([0, 1, 2, 3] : List Nat).Nodup from by decide) ⟨rfl, rfl, rfl, rfl, trivial⟩ ?_
        exact ih s468 (x3 + 7) hG_s468 trivial ⟨by omega, by omega⟩ J_s468 TR_s468 X1_s468 R1_s468 G1_s468 G3_s468 Y1_s468 W1_s468 Q1_s468 VCj_s468 VCl_s468  (by omega)
      · rw [c5]
        refine x_B k231_33 rfl (fun _ => rfl) (fun _ => rfl) (fun _ _ => rfl) ?_
        show xe (some (N, xs)) 231 1072 [(0, .ref 2000), (1, .ref 0), (2, .ref 256), (3, vi x3)] [] s 295 10442 _
        refine x_A k231_1072 (fun _ => rfl) ?_
        refine x_A k231_1073 (fun _ => rfl) ?_
        refine x_A k231_1074 (fun _ => rfl) ?_
        refine x_A k231_1075 (fun _ => rfl) ?_
        refine x_iadd k231_1076 ?_
        refine x_top (fun z469 e_z469 => ?_)
        refine x_scr k231_1077 hN ⟨by omega, by omega⟩ (fun z470 g_z470 e_z470 => ?_)
        unfold in32 at g_z470
        refine x_A k231_1078 (fun _ => rfl) ?_
        refine x_A k231_1079 (fun _ => rfl) ?_
        refine x_A k231_1080 (fun _ => rfl) ?_
        refine x_iadd k231_1081 ?_
        refine x_top (fun z471 e_z471 => ?_)
        refine x_scr k231_1082 hN ⟨by omega, by omega⟩ (fun z472 g_z472 e_z472 => ?_)
        unfold in32 at g_z472
        refine x_A k231_1083 (fun _ => rfl) ?_
        refine x_A k231_1084 (fun _ => rfl) ?_
        refine x_A k231_1085 (fun _ => rfl) ?_
        refine x_iadd k231_1086 ?_
        refine x_top (fun z473 e_z473 => ?_)
        refine x_scr k231_1087 hN ⟨by omega, by omega⟩ (fun z474 g_z474 e_z474 => ?_)
        unfold in32 at g_z474
        refine x_callV k231_1088 (y := 115) (n := 3) (w0 := 0) (w1 := 3) (as := [vi z470, vi z472, vi z474]) (rest := []) (by decide +kernel) (q := 0) (nq := 12) (kq := 3) ⟨by decide, rfl⟩ rfl rfl rfl rfl (xe_mono (V_X10_likely_0 s hG i_J z470 ⟨by omega, by omega⟩ z472 ⟨by omega, by omega⟩ z474 ⟨by omega, by omega⟩ i_R1 i_VCj i_VCl) ?_)
        rintro s476 v ⟨hG_s476, t_s476, z475, rfl, g_z475, VCj_s476, VCl_s476⟩
        have J_s476 : J s476 := J.fl i_J t_s476 (by decide)
        have TR_s476 : TR s476 := TR.fl i_TR (hG 256 1).2 t_s476 (by decide)
        have X1_s476 : X1 s476 := X1.fl i_X1 t_s476 (by decide)
        have R1_s476 : R1 s476 := R1.fl i_R1 t_s476 (by decide)
        have G1_s476 : G1 s476 := G1.fl i_G1 t_s476 (by decide)
        have G3_s476 : G3 s476 := G3.fl i_G3 t_s476 (by decide)
        have Y1_s476 : Y1 s476 := Y1.fl i_Y1 t_s476 (by decide)
        have W1_s476 : W1 s476 := W1.fl i_W1 t_s476 (by decide)
        have Q1_s476 : Q1 s476 := Q1.fl i_Q1 t_s476 (by decide)
        show xe (some (N, xs)) 231 1091 [(0, .ref 2000), (1, .ref 0), (2, .ref 256), (3, vi x3)] [vi z475] s476 295 10442 _
        refine x_A k231_1091 (fun _ => rfl) ?_
        refine x_A k231_1092 (fun _ => rfl) ?_
        refine x_A k231_1093 (fun _ => rfl) ?_
        refine x_A k231_1094 (fun _ => rfl) ?_
        refine x_A k231_1095 (fun _ => rfl) ?_
        refine x_iadd k231_1096 ?_
        refine x_top (fun z477 e_z477 => ?_)
        refine x_scr k231_1097 hN ⟨by omega, by omega⟩ (fun z478 g_z478 e_z478 => ?_)
        unfold in32 at g_z478
        have q_z478 : z478 = z470 := by rw [e_z478, e_z470, show z477 = z469 by omega]
        refine x_A k231_1098 (fun _ => rfl) ?_
        refine x_A k231_1099 (fun _ => rfl) ?_
        refine x_A k231_1100 (fun _ => rfl) ?_
        refine x_iadd k231_1101 ?_
        refine x_top (fun z479 e_z479 => ?_)
        refine x_scr k231_1102 hN ⟨by omega, by omega⟩ (fun z480 g_z480 e_z480 => ?_)
        unfold in32 at g_z480
        have q_z480 : z480 = z472 := by rw [e_z480, e_z472, show z479 = z471 by omega]
        refine x_A k231_1103 (fun _ => rfl) ?_
        refine x_A k231_1104 (fun _ => rfl) ?_
        refine x_A k231_1105 (fun _ => rfl) ?_
        refine x_iadd k231_1106 ?_
        refine x_top (fun z481 e_z481 => ?_)
        refine x_scr k231_1107 hN ⟨by omega, by omega⟩ (fun z482 g_z482 e_z482 => ?_)
        unfold in32 at g_z482
        have q_z482 : z482 = z474 := by rw [e_z482, e_z474, show z481 = z473 by omega]
        refine x_callV k231_1108 (y := 212) (n := 3) (w0 := 0) (w1 := 3) (as := [vi z478, vi z480, vi z482]) (rest := []) (by decide +kernel) (q := 256) (nq := 62) (kq := 15) ⟨by decide, rfl⟩ rfl rfl rfl rfl (xe_mono (C_X11_likely_256 s476 hG_s476 J_s476 z478 ⟨by omega, by omega⟩ z480 ⟨by omega, by omega⟩ z482 ⟨by omega, by omega⟩) ?_)
        rintro s484 v ⟨hG_s484, t_s484, z483, rfl, g_z483⟩
        have J_s484 : J s484 := J.fl J_s476 t_s484 (by decide)
        have TR_s484 : TR s484 := TR.fl TR_s476 (hG_s476 256 1).2 t_s484 (by decide)
        have X1_s484 : X1 s484 := X1.fl X1_s476 t_s484 (by decide)
        have R1_s484 : R1 s484 := R1.fl R1_s476 t_s484 (by decide)
        have G1_s484 : G1 s484 := G1.fl G1_s476 t_s484 (by decide)
        have G3_s484 : G3 s484 := G3.fl G3_s476 t_s484 (by decide)
        have Y1_s484 : Y1 s484 := Y1.fl Y1_s476 t_s484 (by decide)
        have W1_s484 : W1 s484 := W1.fl W1_s476 t_s484 (by decide)
        have Q1_s484 : Q1 s484 := Q1.fl Q1_s476 t_s484 (by decide)
        have VCj_s484 : VCj s484 := VCj.fl VCj_s476 hG_s476 t_s484 (by decide)
        have VCl_s484 : VCl s484 := VCl.fl VCl_s476 hG_s476 t_s484 (by decide)
        show xe (some (N, xs)) 231 1111 [(0, .ref 2000), (1, .ref 0), (2, .ref 256), (3, vi x3)] [vi z483] s484 295 10442 _
        refine x_A k231_1111 (fun _ => rfl) ?_
        refine x_goto k231_1112 (t := 1300) rfl ?_
        refine x_iinc k231_1300 (ls' := [(3, vi (x3 + 7)), (0, .ref 2000), (1, .ref 0), (2, .ref 256)]) rfl (by decide) rfl ?_
        refine x_goto k231_1303 (t := 18) rfl ?_
        refine x_ls (l := [(0, .ref 2000), (1, .ref 0), (2, .ref 256), (3, vi (x3 + 7))]) (show ([0, 1, 2, 3] : List Nat).Nodup from by decide) ⟨rfl, rfl, rfl, rfl, trivial⟩ ?_
        exact ih s484 (x3 + 7) hG_s484 trivial ⟨by omega, by omega⟩ J_s484 TR_s484 X1_s484 R1_s484 G1_s484 G3_s484 Y1_s484 W1_s484 Q1_s484 VCj_s484 VCl_s484  (by omega)
      · rw [c5]
        refine x_B k231_33 rfl (fun _ => rfl) (fun _ => rfl) (fun _ _ => rfl) ?_
        show xe (some (N, xs)) 231 1115 [(0, .ref 2000), (1, .ref 0), (2, .ref 256), (3, vi x3)] [] s 295 10442 _
        refine x_A k231_1115 (fun _ => rfl) ?_
        refine x_A k231_1116 (fun _ => rfl) ?_
        refine x_A k231_1117 (fun _ => rfl) ?_
        refine x_A k231_1118 (fun _ => rfl) ?_
        refine x_iadd k231_1119 ?_
        refine x_top (fun z485 e_z485 => ?_)
        refine x_scr k231_1120 hN ⟨by omega, by omega⟩ (fun z486 g_z486 e_z486 => ?_)
        unfold in32 at g_z486
        refine x_A k231_1121 (fun _ => rfl) ?_
        refine x_A k231_1122 (fun _ => rfl) ?_
        refine x_A k231_1123 (fun _ => rfl) ?_
        refine x_iadd k231_1124 ?_
        refine x_top (fun z487 e_z487 => ?_)
        refine x_scr k231_1125 hN ⟨by omega, by omega⟩ (fun z488 g_z488 e_z488 => ?_)
        unfold in32 at g_z488
        refine x_callV k231_1126 (y := 116) (n := 2) (w0 := 0) (w1 := 2) (as := [vi z486, vi z488]) (rest := []) (by decide +kernel) (q := 0) (nq := 12) (kq := 3) ⟨by decide, rfl⟩ rfl rfl rfl rfl (xe_mono (V_X10_lacking_0 s hG i_J z486 ⟨by omega, by omega⟩ z488 ⟨by omega, by omega⟩ i_R1 i_VCj i_VCl) ?_)
        rintro s490 v ⟨hG_s490, t_s490, z489, rfl, b_z489, VCj_s490, VCl_s490⟩
        have J_s490 : J s490 := J.fl i_J t_s490 (by decide)
        have TR_s490 : TR s490 := TR.fl i_TR (hG 256 1).2 t_s490 (by decide)
        have X1_s490 : X1 s490 := X1.fl i_X1 t_s490 (by decide)
        have R1_s490 : R1 s490 := R1.fl i_R1 t_s490 (by decide)
        have G1_s490 : G1 s490 := G1.fl i_G1 t_s490 (by decide)
        have G3_s490 : G3 s490 := G3.fl i_G3 t_s490 (by decide)
        have Y1_s490 : Y1 s490 := Y1.fl i_Y1 t_s490 (by decide)
        have W1_s490 : W1 s490 := W1.fl i_W1 t_s490 (by decide)
        have Q1_s490 : Q1 s490 := Q1.fl i_Q1 t_s490 (by decide)
        show xe (some (N, xs)) 231 1129 [(0, .ref 2000), (1, .ref 0), (2, .ref 256), (3, vi x3)] [vj z489] s490 295 10442 _
        refine x_A k231_1129 (fun _ => rfl) ?_
        refine x_A k231_1130 (fun _ => rfl) ?_
        refine x_A k231_1131 (fun _ => rfl) ?_
        refine x_A k231_1132 (fun _ => rfl) ?_
        refine x_A k231_1133 (fun _ => rfl) ?_
        refine x_iadd k231_1134 ?_
        refine x_top (fun z491 e_z491 => ?_)
        refine x_scr k231_1135 hN ⟨by omega, by omega⟩ (fun z492 g_z492 e_z492 => ?_)
        unfold in32 at g_z492
        have q_z492 : z492 = z486 := by rw [e_z492, e_z486, show z491 = z485 by omega]
        refine x_A k231_1136 (fun _ => rfl) ?_
        refine x_A k231_1137 (fun _ => rfl) ?_
        refine x_A k231_1138 (fun _ => rfl) ?_
        refine x_iadd k231_1139 ?_
        refine x_top (fun z493 e_z493 => ?_)
        refine x_scr k231_1140 hN ⟨by omega, by omega⟩ (fun z494 g_z494 e_z494 => ?_)
        unfold in32 at g_z494
        have q_z494 : z494 = z488 := by rw [e_z494, e_z488, show z493 = z487 by omega]
        refine x_callV k231_1141 (y := 214) (n := 2) (w0 := 0) (w1 := 2) (as := [vi z492, vi z494]) (rest := []) (by decide +kernel) (q := 256) (nq := 62) (kq := 15) ⟨by decide, rfl⟩ rfl rfl rfl rfl (xe_mono (C_X11_lacking_256 s490 hG_s490 J_s490 z492 ⟨by omega, by omega⟩ z494 ⟨by omega, by omega⟩) ?_)
        rintro s496 v ⟨hG_s496, t_s496, z495, rfl, b_z495⟩
        have J_s496 : J s496 := J.fl J_s490 t_s496 (by decide)
        have TR_s496 : TR s496 := TR.fl TR_s490 (hG_s490 256 1).2 t_s496 (by decide)
        have X1_s496 : X1 s496 := X1.fl X1_s490 t_s496 (by decide)
        have R1_s496 : R1 s496 := R1.fl R1_s490 t_s496 (by decide)
        have G1_s496 : G1 s496 := G1.fl G1_s490 t_s496 (by decide)
        have G3_s496 : G3 s496 := G3.fl G3_s490 t_s496 (by decide)
        have Y1_s496 : Y1 s496 := Y1.fl Y1_s490 t_s496 (by decide)
        have W1_s496 : W1 s496 := W1.fl W1_s490 t_s496 (by decide)
        have Q1_s496 : Q1 s496 := Q1.fl Q1_s490 t_s496 (by decide)
        have VCj_s496 : VCj s496 := VCj.fl VCj_s490 hG_s490 t_s496 (by decide)
        have VCl_s496 : VCl s496 := VCl.fl VCl_s490 hG_s490 t_s496 (by decide)
        show xe (some (N, xs)) 231 1144 [(0, .ref 2000), (1, .ref 0), (2, .ref 256), (3, vi x3)] [vj z495] s496 295 10442 _
        refine x_A k231_1144 (fun _ => rfl) ?_
        refine x_goto k231_1145 (t := 1300) rfl ?_
        refine x_iinc k231_1300 (ls' := [(3, vi (x3 + 7)), (0, .ref 2000), (1, .ref 0), (2, .ref 256)]) rfl (by decide) rfl ?_
        refine x_goto k231_1303 (t := 18) rfl ?_
        refine x_ls (l := [(0, .ref 2000), (1, .ref 0), (2, .ref 256), (3, vi (x3 + 7))]) (show ([0, 1, 2, 3] : List Nat).Nodup from by decide) ⟨rfl, rfl, rfl, rfl, trivial⟩ ?_
        exact ih s496 (x3 + 7) hG_s496 trivial ⟨by omega, by omega⟩ J_s496 TR_s496 X1_s496 R1_s496 G1_s496 G3_s496 Y1_s496 W1_s496 Q1_s496 VCj_s496 VCl_s496  (by omega)
      · rw [c5]
        refine x_B k231_33 rfl (fun _ => rfl) (fun _ => rfl) (fun _ _ => rfl) ?_
        show xe (some (N, xs)) 231 1148 [(0, .ref 2000), (1, .ref 0), (2, .ref 256), (3, vi x3)] [] s 295 10442 _
        refine x_A k231_1148 (fun _ => rfl) ?_
        refine x_callV k231_1149 (y := 117) (n := 0) (w0 := 0) (w1 := 0) (as := []) (rest := []) (by decide +kernel) (q := 0) (nq := 12) (kq := 3) ⟨by decide, rfl⟩ rfl rfl rfl rfl (xe_mono (C_X10_story_0 s hG) ?_)
        rintro s498 v ⟨hG_s498, t_s498, z497, rfl, g_z497⟩
        have J_s498 : J s498 := J.fl i_J t_s498 (by decide)
        have TR_s498 : TR s498 := TR.fl i_TR (hG 256 1).2 t_s498 (by decide)
        have X1_s498 : X1 s498 := X1.fl i_X1 t_s498 (by decide)
        have R1_s498 : R1 s498 := R1.fl i_R1 t_s498 (by decide)
        have G1_s498 : G1 s498 := G1.fl i_G1 t_s498 (by decide)
        have G3_s498 : G3 s498 := G3.fl i_G3 t_s498 (by decide)
        have Y1_s498 : Y1 s498 := Y1.fl i_Y1 t_s498 (by decide)
        have W1_s498 : W1 s498 := W1.fl i_W1 t_s498 (by decide)
        have Q1_s498 : Q1 s498 := Q1.fl i_Q1 t_s498 (by decide)
        have VCj_s498 : VCj s498 := VCj.fl i_VCj hG t_s498 (by decide)
        have VCl_s498 : VCl s498 := VCl.fl i_VCl hG t_s498 (by decide)
        show xe (some (N, xs)) 231 1152 [(0, .ref 2000), (1, .ref 0), (2, .ref 256), (3, vi x3)] [vi z497] s498 295 10442 _
        refine x_A k231_1152 (fun _ => rfl) ?_
        refine x_A k231_1153 (fun _ => rfl) ?_
        refine x_callV k231_1154 (y := 215) (n := 0) (w0 := 0) (w1 := 0) (as := []) (rest := []) (by decide +kernel) (q := 256) (nq := 62) (kq := 15) ⟨by decide, rfl⟩ rfl rfl rfl rfl (xe_mono (C_X11_story_256 s498 hG_s498) ?_)
        rintro s500 v ⟨hG_s500, t_s500, z499, rfl, g_z499⟩
        have J_s500 : J s500 := J.fl J_s498 t_s500 (by decide)
        have TR_s500 : TR s500 := TR.fl TR_s498 (hG_s498 256 1).2 t_s500 (by decide)
        have X1_s500 : X1 s500 := X1.fl X1_s498 t_s500 (by decide)
        have R1_s500 : R1 s500 := R1.fl R1_s498 t_s500 (by decide)
        have G1_s500 : G1 s500 := G1.fl G1_s498 t_s500 (by decide)
        have G3_s500 : G3 s500 := G3.fl G3_s498 t_s500 (by decide)
        have Y1_s500 : Y1 s500 := Y1.fl Y1_s498 t_s500 (by decide)
        have W1_s500 : W1 s500 := W1.fl W1_s498 t_s500 (by decide)
        have Q1_s500 : Q1 s500 := Q1.fl Q1_s498 t_s500 (by decide)
        have VCj_s500 : VCj s500 := VCj.fl VCj_s498 hG_s498 t_s500 (by decide)
        have VCl_s500 : VCl s500 := VCl.fl VCl_s498 hG_s498 t_s500 (by decide)
        show xe (some (N, xs)) 231 1157 [(0, .ref 2000), (1, .ref 0), (2, .ref 256), (3, vi x3)] [vi z499] s500 295 10442 _
        refine x_A k231_1157 (fun _ => rfl) ?_
        refine x_goto k231_1158 (t := 1300) rfl ?_
        refine x_iinc k231_1300 (ls' := [(3, vi (x3 + 7)), (0, .ref 2000), (1, .ref 0), (2, .ref 256)]) rfl (by decide) rfl ?_
        refine x_goto k231_1303 (t := 18) rfl ?_
        refine x_ls (l := [(0, .ref 2000), (1, .ref 0), (2, .ref 256), (3, vi (x3 + 7))]) (show ([0, 1, 2, 3] : List Nat).Nodup from by decide) ⟨rfl, rfl, rfl, rfl, trivial⟩ ?_
        exact ih s500 (x3 + 7) hG_s500 trivial ⟨by omega, by omega⟩ J_s500 TR_s500 X1_s500 R1_s500 G1_s500 G3_s500 Y1_s500 W1_s500 Q1_s500 VCj_s500 VCl_s500  (by omega)
      · rw [c5]
        refine x_B k231_33 rfl (fun _ => rfl) (fun _ => rfl) (fun _ _ => rfl) ?_
        show xe (some (N, xs)) 231 1161 [(0, .ref 2000), (1, .ref 0), (2, .ref 256), (3, vi x3)] [] s 295 10442 _
        refine x_A k231_1161 (fun _ => rfl) ?_
        refine x_A k231_1162 (fun _ => rfl) ?_
        refine x_A k231_1163 (fun _ => rfl) ?_
        refine x_A k231_1164 (fun _ => rfl) ?_
        refine x_iadd k231_1165 ?_
        refine x_top (fun z501 e_z501 => ?_)
        refine x_scr k231_1166 hN ⟨by omega, by omega⟩ (fun z502 g_z502 e_z502 => ?_)
        unfold in32 at g_z502
        refine x_A k231_1167 (fun _ => rfl) ?_
        refine x_A k231_1168 (fun _ => rfl) ?_
        refine x_A k231_1169 (fun _ => rfl) ?_
        refine x_iadd k231_1170 ?_
        refine x_top (fun z503 e_z503 => ?_)
        refine x_scr k231_1171 hN ⟨by omega, by omega⟩ (fun z504 g_z504 e_z504 => ?_)
        unfold in32 at g_z504
        refine x_A k231_1172 (fun _ => rfl) ?_
        refine x_A k231_1173 (fun _ => rfl) ?_
        refine x_A k231_1174 (fun _ => rfl) ?_
        refine x_iadd k231_1175 ?_
        refine x_top (fun z505 e_z505 => ?_)
        refine x_scr k231_1176 hN ⟨by omega, by omega⟩ (fun z506 g_z506 e_z506 => ?_)
        unfold in32 at g_z506
        refine x_callV k231_1177 (y := 118) (n := 3) (w0 := 0) (w1 := 3) (as := [vi z502, vi z504, vi z506]) (rest := []) (by decide +kernel) (q := 0) (nq := 12) (kq := 3) ⟨by decide, rfl⟩ rfl rfl rfl rfl (xe_mono (C_X10_moment_0 s hG z502 ⟨by omega, by omega⟩ z504 ⟨by omega, by omega⟩ z506 ⟨by omega, by omega⟩) ?_)
        rintro s508 v ⟨hG_s508, t_s508, z507, rfl, g_z507⟩
        have J_s508 : J s508 := J.fl i_J t_s508 (by decide)
        have TR_s508 : TR s508 := TR.fl i_TR (hG 256 1).2 t_s508 (by decide)
        have X1_s508 : X1 s508 := X1.fl i_X1 t_s508 (by decide)
        have R1_s508 : R1 s508 := R1.fl i_R1 t_s508 (by decide)
        have G1_s508 : G1 s508 := G1.fl i_G1 t_s508 (by decide)
        have G3_s508 : G3 s508 := G3.fl i_G3 t_s508 (by decide)
        have Y1_s508 : Y1 s508 := Y1.fl i_Y1 t_s508 (by decide)
        have W1_s508 : W1 s508 := W1.fl i_W1 t_s508 (by decide)
        have Q1_s508 : Q1 s508 := Q1.fl i_Q1 t_s508 (by decide)
        have VCj_s508 : VCj s508 := VCj.fl i_VCj hG t_s508 (by decide)
        have VCl_s508 : VCl s508 := VCl.fl i_VCl hG t_s508 (by decide)
        show xe (some (N, xs)) 231 1180 [(0, .ref 2000), (1, .ref 0), (2, .ref 256), (3, vi x3)] [vi z507] s508 295 10442 _
        refine x_A k231_1180 (fun _ => rfl) ?_
        refine x_A k231_1181 (fun _ => rfl) ?_
        refine x_A k231_1182 (fun _ => rfl) ?_
        refine x_A k231_1183 (fun _ => rfl) ?_
        refine x_A k231_1184 (fun _ => rfl) ?_
        refine x_iadd k231_1185 ?_
        refine x_top (fun z509 e_z509 => ?_)
        refine x_scr k231_1186 hN ⟨by omega, by omega⟩ (fun z510 g_z510 e_z510 => ?_)
        unfold in32 at g_z510
        have q_z510 : z510 = z502 := by rw [e_z510, e_z502, show z509 = z501 by omega]
        refine x_A k231_1187 (fun _ => rfl) ?_
        refine x_A k231_1188 (fun _ => rfl) ?_
        refine x_A k231_1189 (fun _ => rfl) ?_
        refine x_iadd k231_1190 ?_
        refine x_top (fun z511 e_z511 => ?_)
        refine x_scr k231_1191 hN ⟨by omega, by omega⟩ (fun z512 g_z512 e_z512 => ?_)
        unfold in32 at g_z512
        have q_z512 : z512 = z504 := by rw [e_z512, e_z504, show z511 = z503 by omega]
        refine x_A k231_1192 (fun _ => rfl) ?_
        refine x_A k231_1193 (fun _ => rfl) ?_
        refine x_A k231_1194 (fun _ => rfl) ?_
        refine x_iadd k231_1195 ?_
        refine x_top (fun z513 e_z513 => ?_)
        refine x_scr k231_1196 hN ⟨by omega, by omega⟩ (fun z514 g_z514 e_z514 => ?_)
        unfold in32 at g_z514
        have q_z514 : z514 = z506 := by rw [e_z514, e_z506, show z513 = z505 by omega]
        refine x_callV k231_1197 (y := 216) (n := 3) (w0 := 0) (w1 := 3) (as := [vi z510, vi z512, vi z514]) (rest := []) (by decide +kernel) (q := 256) (nq := 62) (kq := 15) ⟨by decide, rfl⟩ rfl rfl rfl rfl (xe_mono (C_X11_moment_256 s508 hG_s508 z510 ⟨by omega, by omega⟩ z512 ⟨by omega, by omega⟩ z514 ⟨by omega, by omega⟩) ?_)
        rintro s516 v ⟨hG_s516, t_s516, z515, rfl, g_z515⟩
        have J_s516 : J s516 := J.fl J_s508 t_s516 (by decide)
        have TR_s516 : TR s516 := TR.fl TR_s508 (hG_s508 256 1).2 t_s516 (by decide)
        have X1_s516 : X1 s516 := X1.fl X1_s508 t_s516 (by decide)
        have R1_s516 : R1 s516 := R1.fl R1_s508 t_s516 (by decide)
        have G1_s516 : G1 s516 := G1.fl G1_s508 t_s516 (by decide)
        have G3_s516 : G3 s516 := G3.fl G3_s508 t_s516 (by decide)
        have Y1_s516 : Y1 s516 := Y1.fl Y1_s508 t_s516 (by decide)
        have W1_s516 : W1 s516 := W1.fl W1_s508 t_s516 (by decide)
        have Q1_s516 : Q1 s516 := Q1.fl Q1_s508 t_s516 (by decide)
        have VCj_s516 : VCj s516 := VCj.fl VCj_s508 hG_s508 t_s516 (by decide)
        have VCl_s516 : VCl s516 := VCl.fl VCl_s508 hG_s508 t_s516 (by decide)
        show xe (some (N, xs)) 231 1200 [(0, .ref 2000), (1, .ref 0), (2, .ref 256), (3, vi x3)] [vi z515] s516 295 10442 _
        refine x_A k231_1200 (fun _ => rfl) ?_
        refine x_goto k231_1201 (t := 1300) rfl ?_
        refine x_iinc k231_1300 (ls' := [(3, vi (x3 + 7)), (0, .ref 2000), (1, .ref 0), (2, .ref 256)]) rfl (by decide) rfl ?_
        refine x_goto k231_1303 (t := 18) rfl ?_
        refine x_ls (l := [(0, .ref 2000), (1, .ref 0), (2, .ref 256), (3, vi (x3 + 7))]) (show ([0, 1, 2, 3] : List Nat).Nodup from by decide) ⟨rfl, rfl, rfl, rfl, trivial⟩ ?_
        exact ih s516 (x3 + 7) hG_s516 trivial ⟨by omega, by omega⟩ J_s516 TR_s516 X1_s516 R1_s516 G1_s516 G3_s516 Y1_s516 W1_s516 Q1_s516 VCj_s516 VCl_s516  (by omega)
      · rw [c5]
        refine x_B k231_33 rfl (fun _ => rfl) (fun _ => rfl) (fun _ _ => rfl) ?_
        show xe (some (N, xs)) 231 1204 [(0, .ref 2000), (1, .ref 0), (2, .ref 256), (3, vi x3)] [] s 295 10442 _
        refine x_A k231_1204 (fun _ => rfl) ?_
        refine x_A k231_1205 (fun _ => rfl) ?_
        refine x_A k231_1206 (fun _ => rfl) ?_
        refine x_A k231_1207 (fun _ => rfl) ?_
        refine x_iadd k231_1208 ?_
        refine x_top (fun z517 e_z517 => ?_)
        refine x_scr k231_1209 hN ⟨by omega, by omega⟩ (fun z518 g_z518 e_z518 => ?_)
        unfold in32 at g_z518
        refine x_A k231_1210 (fun _ => rfl) ?_
        refine x_A k231_1211 (fun _ => rfl) ?_
        refine x_A k231_1212 (fun _ => rfl) ?_
        refine x_iadd k231_1213 ?_
        refine x_top (fun z519 e_z519 => ?_)
        refine x_scr k231_1214 hN ⟨by omega, by omega⟩ (fun z520 g_z520 e_z520 => ?_)
        unfold in32 at g_z520
        refine x_A k231_1215 (fun _ => rfl) ?_
        refine x_A k231_1216 (fun _ => rfl) ?_
        refine x_A k231_1217 (fun _ => rfl) ?_
        refine x_iadd k231_1218 ?_
        refine x_top (fun z521 e_z521 => ?_)
        refine x_scr k231_1219 hN ⟨by omega, by omega⟩ (fun z522 g_z522 e_z522 => ?_)
        unfold in32 at g_z522
        refine x_A k231_1220 (fun _ => rfl) ?_
        refine x_A k231_1221 (fun _ => rfl) ?_
        refine x_A k231_1222 (fun _ => rfl) ?_
        refine x_iadd k231_1223 ?_
        refine x_top (fun z523 e_z523 => ?_)
        refine x_scr k231_1224 hN ⟨by omega, by omega⟩ (fun z524 g_z524 e_z524 => ?_)
        unfold in32 at g_z524
        refine x_callV k231_1225 (y := 119) (n := 4) (w0 := 0) (w1 := 4) (as := [vi z518, vi z520, vi z522, vi z524]) (rest := []) (by decide +kernel) (q := 0) (nq := 12) (kq := 3) ⟨by decide, rfl⟩ rfl rfl rfl rfl (xe_mono (V_X10_of_0 s hG i_J z518 ⟨by omega, by omega⟩ z520 ⟨by omega, by omega⟩ z522 ⟨by omega, by omega⟩ z524 ⟨by omega, by omega⟩ i_R1 i_VCj i_VCl) ?_)
        rintro s526 v ⟨hG_s526, t_s526, z525, rfl, g_z525, VCj_s526, VCl_s526⟩
        have J_s526 : J s526 := J.fl i_J t_s526 (by decide)
        have TR_s526 : TR s526 := TR.fl i_TR (hG 256 1).2 t_s526 (by decide)
        have X1_s526 : X1 s526 := X1.fl i_X1 t_s526 (by decide)
        have R1_s526 : R1 s526 := R1.fl i_R1 t_s526 (by decide)
        have G1_s526 : G1 s526 := G1.fl i_G1 t_s526 (by decide)
        have G3_s526 : G3 s526 := G3.fl i_G3 t_s526 (by decide)
        have Y1_s526 : Y1 s526 := Y1.fl i_Y1 t_s526 (by decide)
        have W1_s526 : W1 s526 := W1.fl i_W1 t_s526 (by decide)
        have Q1_s526 : Q1 s526 := Q1.fl i_Q1 t_s526 (by decide)
        show xe (some (N, xs)) 231 1228 [(0, .ref 2000), (1, .ref 0), (2, .ref 256), (3, vi x3)] [vi z525] s526 295 10442 _
        refine x_A k231_1228 (fun _ => rfl) ?_
        refine x_A k231_1229 (fun _ => rfl) ?_
        refine x_A k231_1230 (fun _ => rfl) ?_
        refine x_A k231_1231 (fun _ => rfl) ?_
        refine x_A k231_1232 (fun _ => rfl) ?_
        refine x_iadd k231_1233 ?_
        refine x_top (fun z527 e_z527 => ?_)
        refine x_scr k231_1234 hN ⟨by omega, by omega⟩ (fun z528 g_z528 e_z528 => ?_)
        unfold in32 at g_z528
        have q_z528 : z528 = z518 := by rw [e_z528, e_z518, show z527 = z517 by omega]
        refine x_A k231_1235 (fun _ => rfl) ?_
        refine x_A k231_1236 (fun _ => rfl) ?_
        refine x_A k231_1237 (fun _ => rfl) ?_
        refine x_iadd k231_1238 ?_
        refine x_top (fun z529 e_z529 => ?_)
        refine x_scr k231_1239 hN ⟨by omega, by omega⟩ (fun z530 g_z530 e_z530 => ?_)
        unfold in32 at g_z530
        have q_z530 : z530 = z520 := by rw [e_z530, e_z520, show z529 = z519 by omega]
        refine x_A k231_1240 (fun _ => rfl) ?_
        refine x_A k231_1241 (fun _ => rfl) ?_
        refine x_A k231_1242 (fun _ => rfl) ?_
        refine x_iadd k231_1243 ?_
        refine x_top (fun z531 e_z531 => ?_)
        refine x_scr k231_1244 hN ⟨by omega, by omega⟩ (fun z532 g_z532 e_z532 => ?_)
        unfold in32 at g_z532
        have q_z532 : z532 = z522 := by rw [e_z532, e_z522, show z531 = z521 by omega]
        refine x_A k231_1245 (fun _ => rfl) ?_
        refine x_A k231_1246 (fun _ => rfl) ?_
        refine x_A k231_1247 (fun _ => rfl) ?_
        refine x_iadd k231_1248 ?_
        refine x_top (fun z533 e_z533 => ?_)
        refine x_scr k231_1249 hN ⟨by omega, by omega⟩ (fun z534 g_z534 e_z534 => ?_)
        unfold in32 at g_z534
        have q_z534 : z534 = z524 := by rw [e_z534, e_z524, show z533 = z523 by omega]
        refine x_callV k231_1250 (y := 217) (n := 4) (w0 := 0) (w1 := 4) (as := [vi z528, vi z530, vi z532, vi z534]) (rest := []) (by decide +kernel) (q := 256) (nq := 62) (kq := 15) ⟨by decide, rfl⟩ rfl rfl rfl rfl (xe_mono (C_X11_of_256 s526 hG_s526 J_s526 z528 ⟨by omega, by omega⟩ z530 ⟨by omega, by omega⟩ z532 ⟨by omega, by omega⟩ z534 ⟨by omega, by omega⟩) ?_)
        rintro s536 v ⟨hG_s536, t_s536, z535, rfl, g_z535⟩
        have J_s536 : J s536 := J.fl J_s526 t_s536 (by decide)
        have TR_s536 : TR s536 := TR.fl TR_s526 (hG_s526 256 1).2 t_s536 (by decide)
        have X1_s536 : X1 s536 := X1.fl X1_s526 t_s536 (by decide)
        have R1_s536 : R1 s536 := R1.fl R1_s526 t_s536 (by decide)
        have G1_s536 : G1 s536 := G1.fl G1_s526 t_s536 (by decide)
        have G3_s536 : G3 s536 := G3.fl G3_s526 t_s536 (by decide)
        have Y1_s536 : Y1 s536 := Y1.fl Y1_s526 t_s536 (by decide)
        have W1_s536 : W1 s536 := W1.fl W1_s526 t_s536 (by decide)
        have Q1_s536 : Q1 s536 := Q1.fl Q1_s526 t_s536 (by decide)
        have VCj_s536 : VCj s536 := VCj.fl VCj_s526 hG_s526 t_s536 (by decide)
        have VCl_s536 : VCl s536 := VCl.fl VCl_s526 hG_s526 t_s536 (by decide)
        show xe (some (N, xs)) 231 1253 [(0, .ref 2000), (1, .ref 0), (2, .ref 256), (3, vi x3)] [vi z535] s536 295 10442 _
        refine x_A k231_1253 (fun _ => rfl) ?_
        refine x_goto k231_1254 (t := 1300) rfl ?_
        refine x_iinc k231_1300 (ls' := [(3, vi (x3 + 7)), (0, .ref 2000), (1, .ref 0), (2, .ref 256)]) rfl (by decide) rfl ?_
        refine x_goto k231_1303 (t := 18) rfl ?_
        refine x_ls (l := [(0, .ref 2000), (1, .ref 0), (2, .ref 256), (3, vi (x3 + 7))]) (show ([0, 1, 2, 3] : List Nat).Nodup from by decide) ⟨rfl, rfl, rfl, rfl, trivial⟩ ?_
        exact ih s536 (x3 + 7) hG_s536 trivial ⟨by omega, by omega⟩ J_s536 TR_s536 X1_s536 R1_s536 G1_s536 G3_s536 Y1_s536 W1_s536 Q1_s536 VCj_s536 VCl_s536  (by omega)
      · rw [c5]
        refine x_B k231_33 rfl (fun _ => rfl) (fun _ => rfl) (fun _ _ => rfl) ?_
        show xe (some (N, xs)) 231 1257 [(0, .ref 2000), (1, .ref 0), (2, .ref 256), (3, vi x3)] [] s 295 10442 _
        refine x_A k231_1257 (fun _ => rfl) ?_
        refine x_A k231_1258 (fun _ => rfl) ?_
        refine x_A k231_1259 (fun _ => rfl) ?_
        refine x_A k231_1260 (fun _ => rfl) ?_
        refine x_iadd k231_1261 ?_
        refine x_top (fun z537 e_z537 => ?_)
        refine x_scr k231_1262 hN ⟨by omega, by omega⟩ (fun z538 g_z538 e_z538 => ?_)
        unfold in32 at g_z538
        refine x_A k231_1263 (fun _ => rfl) ?_
        refine x_A k231_1264 (fun _ => rfl) ?_
        refine x_A k231_1265 (fun _ => rfl) ?_
        refine x_iadd k231_1266 ?_
        refine x_top (fun z539 e_z539 => ?_)
        refine x_scr k231_1267 hN ⟨by omega, by omega⟩ (fun z540 g_z540 e_z540 => ?_)
        unfold in32 at g_z540
        refine x_A k231_1268 (fun _ => rfl) ?_
        refine x_A k231_1269 (fun _ => rfl) ?_
        refine x_A k231_1270 (fun _ => rfl) ?_
        refine x_iadd k231_1271 ?_
        refine x_top (fun z541 e_z541 => ?_)
        refine x_scr k231_1272 hN ⟨by omega, by omega⟩ (fun z542 g_z542 e_z542 => ?_)
        unfold in32 at g_z542
        refine x_callV k231_1273 (y := 120) (n := 3) (w0 := 0) (w1 := 3) (as := [vi z538, vi z540, vi z542]) (rest := []) (by decide +kernel) (q := 0) (nq := 12) (kq := 3) ⟨by decide, rfl⟩ rfl rfl rfl rfl (xe_mono (V_X10_split_0 s hG i_J z538 ⟨by omega, by omega⟩ z540 ⟨by omega, by omega⟩ z542 ⟨by omega, by omega⟩ i_R1 i_VCj i_VCl) ?_)
        rintro s544 v ⟨hG_s544, t_s544, z543, rfl, g_z543, VCj_s544, VCl_s544⟩
        have J_s544 : J s544 := J.fl i_J t_s544 (by decide)
        have TR_s544 : TR s544 := TR.fl i_TR (hG 256 1).2 t_s544 (by decide)
        have X1_s544 : X1 s544 := X1.fl i_X1 t_s544 (by decide)
        have R1_s544 : R1 s544 := R1.fl i_R1 t_s544 (by decide)
        have G1_s544 : G1 s544 := G1.fl i_G1 t_s544 (by decide)
        have G3_s544 : G3 s544 := G3.fl i_G3 t_s544 (by decide)
        have Y1_s544 : Y1 s544 := Y1.fl i_Y1 t_s544 (by decide)
        have W1_s544 : W1 s544 := W1.fl i_W1 t_s544 (by decide)
        have Q1_s544 : Q1 s544 := Q1.fl i_Q1 t_s544 (by decide)
        show xe (some (N, xs)) 231 1276 [(0, .ref 2000), (1, .ref 0), (2, .ref 256), (3, vi x3)] [vi z543] s544 295 10442 _
        refine x_A k231_1276 (fun _ => rfl) ?_
        refine x_A k231_1277 (fun _ => rfl) ?_
        refine x_A k231_1278 (fun _ => rfl) ?_
        refine x_A k231_1279 (fun _ => rfl) ?_
        refine x_A k231_1280 (fun _ => rfl) ?_
        refine x_iadd k231_1281 ?_
        refine x_top (fun z545 e_z545 => ?_)
        refine x_scr k231_1282 hN ⟨by omega, by omega⟩ (fun z546 g_z546 e_z546 => ?_)
        unfold in32 at g_z546
        have q_z546 : z546 = z538 := by rw [e_z546, e_z538, show z545 = z537 by omega]
        refine x_A k231_1283 (fun _ => rfl) ?_
        refine x_A k231_1284 (fun _ => rfl) ?_
        refine x_A k231_1285 (fun _ => rfl) ?_
        refine x_iadd k231_1286 ?_
        refine x_top (fun z547 e_z547 => ?_)
        refine x_scr k231_1287 hN ⟨by omega, by omega⟩ (fun z548 g_z548 e_z548 => ?_)
        unfold in32 at g_z548
        have q_z548 : z548 = z540 := by rw [e_z548, e_z540, show z547 = z539 by omega]
        refine x_A k231_1288 (fun _ => rfl) ?_
        refine x_A k231_1289 (fun _ => rfl) ?_
        refine x_A k231_1290 (fun _ => rfl) ?_
        refine x_iadd k231_1291 ?_
        refine x_top (fun z549 e_z549 => ?_)
        refine x_scr k231_1292 hN ⟨by omega, by omega⟩ (fun z550 g_z550 e_z550 => ?_)
        unfold in32 at g_z550
        have q_z550 : z550 = z542 := by rw [e_z550, e_z542, show z549 = z541 by omega]
        refine x_callV k231_1293 (y := 218) (n := 3) (w0 := 0) (w1 := 3) (as := [vi z546, vi z548, vi z550]) (rest := []) (by decide +kernel) (q := 256) (nq := 62) (kq := 15) ⟨by decide, rfl⟩ rfl rfl rfl rfl (xe_mono (C_X11_split_256 s544 hG_s544 J_s544 z546 ⟨by omega, by omega⟩ z548 ⟨by omega, by omega⟩ z550 ⟨by omega, by omega⟩) ?_)
        rintro s552 v ⟨hG_s552, t_s552, z551, rfl, g_z551⟩
        have J_s552 : J s552 := J.fl J_s544 t_s552 (by decide)
        have TR_s552 : TR s552 := TR.fl TR_s544 (hG_s544 256 1).2 t_s552 (by decide)
        have X1_s552 : X1 s552 := X1.fl X1_s544 t_s552 (by decide)
        have R1_s552 : R1 s552 := R1.fl R1_s544 t_s552 (by decide)
        have G1_s552 : G1 s552 := G1.fl G1_s544 t_s552 (by decide)
        have G3_s552 : G3 s552 := G3.fl G3_s544 t_s552 (by decide)
        have Y1_s552 : Y1 s552 := Y1.fl Y1_s544 t_s552 (by decide)
        have W1_s552 : W1 s552 := W1.fl W1_s544 t_s552 (by decide)
        have Q1_s552 : Q1 s552 := Q1.fl Q1_s544 t_s552 (by decide)
        have VCj_s552 : VCj s552 := VCj.fl VCj_s544 hG_s544 t_s552 (by decide)
        have VCl_s552 : VCl s552 := VCl.fl VCl_s544 hG_s544 t_s552 (by decide)
        show xe (some (N, xs)) 231 1296 [(0, .ref 2000), (1, .ref 0), (2, .ref 256), (3, vi x3)] [vi z551] s552 295 10442 _
        refine x_A k231_1296 (fun _ => rfl) ?_
        refine x_goto k231_1297 (t := 1300) rfl ?_
        refine x_iinc k231_1300 (ls' := [(3, vi (x3 + 7)), (0, .ref 2000), (1, .ref 0), (2, .ref 256)]) rfl (by decide) rfl ?_
        refine x_goto k231_1303 (t := 18) rfl ?_
        refine x_ls (l := [(0, .ref 2000), (1, .ref 0), (2, .ref 256), (3, vi (x3 + 7))]) (show ([0, 1, 2, 3] : List Nat).Nodup from by decide) ⟨rfl, rfl, rfl, rfl, trivial⟩ ?_
        exact ih s552 (x3 + 7) hG_s552 trivial ⟨by omega, by omega⟩ J_s552 TR_s552 X1_s552 R1_s552 G1_s552 G3_s552 Y1_s552 W1_s552 Q1_s552 VCj_s552 VCl_s552  (by omega)
      · refine x_tabD k231_33 ⟨by omega, by omega⟩ c5 (t0 := 1300) rfl ?_
        refine x_iinc k231_1300 (ls' := [(3, vi (x3 + 7)), (0, .ref 2000), (1, .ref 0), (2, .ref 256)]) rfl (by decide) rfl ?_
        refine x_goto k231_1303 (t := 18) rfl ?_
        refine x_ls (l := [(0, .ref 2000), (1, .ref 0), (2, .ref 256), (3, vi (x3 + 7))]) (show ([0, 1, 2, 3] : List Nat).Nodup from by decide) ⟨rfl, rfl, rfl, rfl, trivial⟩ ?_
        exact ih s (x3 + 7) hG f ⟨by omega, by omega⟩ i_J i_TR i_X1 i_R1 i_G1 i_G3 i_Y1 i_W1 i_Q1 i_VCj i_VCl  (by omega)
