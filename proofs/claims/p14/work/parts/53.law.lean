set_option maxHeartbeats 8000000 in
theorem law_loop (N : Nat) (xs : Nat → Int32) (hN : N ≤ 3584)  : ∀ (n : Nat) (s : xS) (x3 : Int) (x1000 : Int) (x1001 : Int) (hG : GI s) (f : True) (b_x3 : 0 ≤ x3 ∧ x3 ≤ 3584) (b_x1000 : 0 ≤ x1000 ∧ x1000 ≤ 4) (b_x1001 : 0 ≤ x1001 ∧ x1001 ≤ 4) (w_0 : x1000 = x1001) (e_x1000 : x1000 = s 231 3) (e_x1001 : x1001 = s 256 58) (i_J : J s) (i_TR : TR s) (i_X1 : X1 s) (i_R1 : R1 s) (i_G1 : G1 s) (i_G3 : G3 s) (i_W1 : W1 s) (i_VCj : VCj s) (i_VCl : VCl s)  (hm : (3584 - x3) < (n : Int)), xe (some (N, xs)) 231 18 [(0, .ref 2000), (1, .ref 0), (2, .ref 256), (3, vi x3)] [] s 295 10442 (fun _ v => v = some (vi 1)) := by
  intro n
  induction n with
  | zero => intro s x3 x1000 x1001 hG f b_x3 b_x1000 b_x1001 w_0 e_x1000 e_x1001 i_J i_TR i_X1 i_R1 i_G1 i_G3 i_W1 i_VCj i_VCl  hm; exfalso; omega
  | succ n ih =>
    intro s x3 x1000 x1001 hG f b_x3 b_x1000 b_x1001 w_0 e_x1000 e_x1001 i_J i_TR i_X1 i_R1 i_G1 i_G3 i_W1 i_VCj i_VCl  hm
    refine x_A k231_18 (fun _ => rfl) ?_
    refine x_A k231_19 (fun _ => rfl) ?_
    refine x_slen k231_20 ?_
    refine x_bipush k231_21 (by decide +kernel) ?_
    refine x_isub k231_23 ?_
    refine x_top (fun z1 e_z1 => ?_)
    refine x_ic_gt k231_24 (t := 1306) rfl (by first | exact x_rb b_x3 rfl rfl | exact ⟨by omega, by omega⟩) (by first | exact x_rbe e_z1 g_z1 rfl rfl | exact x_rb g_z1 rfl rfl | exact ⟨by omega, by omega⟩) (fun c2 => ?_) (fun c2 => ?_)
    · skip
      refine x_A k231_1306 (fun _ => rfl) ?_
      exact x_zret k231_1307 rfl ⟨by omega, by omega⟩ rfl
    · skip
      refine x_A k231_27 (fun _ => rfl) ?_
      refine x_A k231_28 (fun _ => rfl) ?_
      refine x_scr k231_29 hN ⟨by omega, by omega⟩ (fun z3 g_z3 e_z3 => ?_)
      unfold in32 at g_z3
      refine x_bipush k231_30 (by decide +kernel) ?_
      refine x_and_mask k231_32 ⟨by omega, by omega⟩ (fun z4 g_z4 => ?_)
      have c5 : z4 = 0 ∨ z4 = 1 ∨ z4 = 2 ∨ z4 = 3 ∨ z4 = 4 ∨ z4 = 5 ∨ z4 = 6 ∨ z4 = 7 ∨ z4 = 8 ∨ z4 = 9 ∨ z4 = 10 ∨ z4 = 11 ∨ z4 = 12 ∨ z4 = 13 ∨ z4 = 14 ∨ z4 = 15 ∨ z4 = 16 ∨ z4 = 17 ∨ z4 = 18 ∨ z4 = 19 ∨ z4 = 20 ∨ z4 = 21 ∨ z4 = 22 ∨ z4 = 23 ∨ z4 = 24 ∨ z4 = 25 ∨ z4 = 26 ∨ z4 = 27 ∨ z4 = 28 ∨ z4 = 29 ∨ ¬ (0 ≤ z4 ∧ z4 ≤ 29) := by omega
      rcases c5 with c5 | c5 | c5 | c5 | c5 | c5 | c5 | c5 | c5 | c5 | c5 | c5 | c5 | c5 | c5 | c5 | c5 | c5 | c5 | c5 | c5 | c5 | c5 | c5 | c5 | c5 | c5 | c5 | c5 | c5 | c5
      · rw [c5]
        refine x_B k231_33 rfl (fun _ => rfl) (fun _ => rfl) (fun _ _ => rfl) ?_
        show xe (some (N, xs)) 231 168 [(0, .ref 2000), (1, .ref 0), (2, .ref 256), (3, vi x3)] [] s 295 10442 _
        refine x_A k231_168 (fun _ => rfl) ?_
        refine x_callV k231_169 (y := 91) (n := 0) (w0 := 0) (w1 := 0) (as := []) (rest := []) (by decide +kernel) (q := 0) (nq := 12) (kq := 3) ⟨by decide, rfl⟩ rfl rfl rfl rfl (xe_mono (C_X10_edition_0 s hG) ?_)
        rintro s7 v ⟨hG_s7, t_s7, z6, rfl, g_z6, xp_z6⟩
        have q8 : s7 231 3 = x1000 := (t_s7 231 3 (show 2884 ∉ [11] from by decide +kernel)).trans e_x1000.symm
        have q9 : s7 256 58 = x1001 := (t_s7 256 58 (show 4155 ∉ [11] from by decide +kernel)).trans e_x1001.symm
        have J_s7 : J s7 := J.fl i_J t_s7 (by decide +kernel)
        have X1_s7 : X1 s7 := X1.fl i_X1 t_s7 (by decide +kernel)
        have R1_s7 : R1 s7 := R1.fl i_R1 t_s7 (by decide +kernel)
        have G1_s7 : G1 s7 := G1.fl i_G1 t_s7 (by decide +kernel)
        have W1_s7 : W1 s7 := W1.fl i_W1 t_s7 (by decide +kernel)
        have VCj_s7 : VCj s7 := VCj.fl i_VCj hG t_s7 (by decide)
        have VCl_s7 : VCl s7 := VCl.fl i_VCl hG t_s7 (by decide)
        obtain ⟨z10, e_z10⟩ : ∃ z, z = s7 0 10 := ⟨_, rfl⟩
        have g_z10 : (0 : Int) ≤ s7 0 10 ∧ s7 0 10 ≤ 9 := hG_s7 0 10
        show xe (some (N, xs)) 231 172 [(0, .ref 2000), (1, .ref 0), (2, .ref 256), (3, vi x3)] [vi z6] s7 295 10442 _
        refine x_A k231_172 (fun _ => rfl) ?_
        refine x_A k231_173 (fun _ => rfl) ?_
        refine x_callV k231_174 (y := 145) (n := 0) (w0 := 0) (w1 := 0) (as := []) (rest := []) (by decide +kernel) (q := 256) (nq := 62) (kq := 15) ⟨by decide, rfl⟩ rfl rfl rfl rfl (xe_mono (D_X11_edition_256 s7 hG_s7 J_s7) ?_)
        rintro s12 v ⟨hG_s12, t_s12, z11, rfl, g_z11, xp_z11, J_s12⟩
        have q13 : s12 231 3 = x1000 := (t_s12 231 3 (show 2884 ∉ [4097] from by decide +kernel)).trans q8
        have q14 : s12 256 58 = x1001 := (t_s12 256 58 (show 4155 ∉ [4097] from by decide +kernel)).trans q9
        have q15 : s12 0 10 = z10 := (t_s12 0 10 (show 11 ∉ [4097] from by decide +kernel)).trans e_z10.symm
        have X1_s12 : X1 s12 := X1.fl X1_s7 t_s12 (by decide +kernel)
        have R1_s12 : R1 s12 := R1.fl R1_s7 t_s12 (by decide +kernel)
        have G1_s12 : G1 s12 := G1.fl G1_s7 t_s12 (by decide +kernel)
        have W1_s12 : W1 s12 := W1.fl W1_s7 t_s12 (by decide +kernel)
        have VCj_s12 : VCj s12 := VCj.fl VCj_s7 hG_s7 t_s12 (by decide)
        have VCl_s12 : VCl s12 := VCl.fl VCl_s7 hG_s7 t_s12 (by decide)
        obtain ⟨z16, e_z16⟩ : ∃ z, z = s12 256 0 := ⟨_, rfl⟩
        have g_z16 : (0 : Int) ≤ s12 256 0 ∧ s12 256 0 ≤ 9 := hG_s12 256 0
        show xe (some (N, xs)) 231 177 [(0, .ref 2000), (1, .ref 0), (2, .ref 256), (3, vi x3)] [vi z11] s12 295 10442 _
        obtain ⟨ez_s12, TR_s12⟩ := TR.ed i_TR hG t_s7 t_s12 (by decide) (by decide) xp_z6 xp_z11
        have G3_s12 := G3.ed i_G3 t_s7 t_s12 (by decide) (by decide) xp_z6
        refine x_A k231_177 (fun _ => rfl) ?_
        refine x_goto k231_178 (t := 1300) rfl ?_
        refine x_iinc k231_1300 (ls' := [(3, vi (x3 + 7)), (0, .ref 2000), (1, .ref 0), (2, .ref 256)]) rfl (by decide) rfl ?_
        refine x_goto k231_1303 (t := 18) rfl ?_
        refine x_ls (l := [(0, .ref 2000), (1, .ref 0), (2, .ref 256), (3, vi (x3 + 7))]) (show ([0, 1, 2, 3] : List Nat).Nodup from by decide +kernel) ⟨rfl, rfl, rfl, rfl, trivial⟩ ?_
        exact ih s12 (x3 + 7) x1000 x1001 hG_s12 trivial ⟨by omega, by omega⟩ (by first | exact x_rb b_x1000 rfl rfl | exact ⟨by omega, by omega⟩) (by first | exact x_rb b_x1001 rfl rfl | exact ⟨by omega, by omega⟩) (by omega) (q13).symm (q14).symm J_s12 TR_s12 X1_s12 R1_s12 G1_s12 G3_s12 W1_s12 VCj_s12 VCl_s12  (by omega)
      · rw [c5]
        refine x_B k231_33 rfl (fun _ => rfl) (fun _ => rfl) (fun _ _ => rfl) ?_
        show xe (some (N, xs)) 231 181 [(0, .ref 2000), (1, .ref 0), (2, .ref 256), (3, vi x3)] [] s 295 10442 _
        refine x_A k231_181 (fun _ => rfl) ?_
        refine x_A k231_182 (fun _ => rfl) ?_
        refine x_A k231_183 (fun _ => rfl) ?_
        refine x_A k231_184 (fun _ => rfl) ?_
        refine x_iadd k231_185 ?_
        refine x_top (fun z17 e_z17 => ?_)
        refine x_scr k231_186 hN ⟨by omega, by omega⟩ (fun z18 g_z18 e_z18 => ?_)
        unfold in32 at g_z18
        obtain ⟨z19, e_z19⟩ : ∃ z, z = s 1 4 := ⟨_, rfl⟩
        have g_z19 : (1 : Int) ≤ s 1 4 ∧ s 1 4 ≤ 40 := hG 1 4
        obtain ⟨z20, e_z20⟩ : ∃ z, z = s 0 10 := ⟨_, rfl⟩
        have g_z20 : (0 : Int) ≤ s 0 10 ∧ s 0 10 ≤ 9 := hG 0 10
        refine x_callV k231_187 (y := 92) (n := 1) (w0 := 0) (w1 := 1) (as := [vi z18]) (rest := []) (by decide +kernel) (q := 0) (nq := 12) (kq := 3) ⟨by decide, rfl⟩ rfl rfl rfl rfl (xe_mono (V_X10_mark_0 s hG z18 (by first | exact x_rbe e_z18 g_z18 rfl rfl | exact x_rb g_z18 rfl rfl | exact ⟨by omega, by omega⟩) ⟨by omega, by omega⟩ ⟨by omega, by omega⟩ i_VCj i_VCl) ?_)
        rintro s22 v ⟨hG_s22, t_s22, z21, rfl, g_z21, xp_z21, VCj_s22, VCl_s22⟩
        have q23 : s22 231 3 = x1000 := (t_s22 231 3 (show 2884 ∉ [69, 128, 384, 3276, 3277] from by decide +kernel)).trans e_x1000.symm
        have q24 : s22 256 58 = x1001 := (t_s22 256 58 (show 4155 ∉ [69, 128, 384, 3276, 3277] from by decide +kernel)).trans e_x1001.symm
        have q25 : s22 0 10 = z20 := (t_s22 0 10 (show 11 ∉ [69, 128, 384, 3276, 3277] from by decide +kernel)).trans e_z20.symm
        have J_s22 : J s22 := J.fl i_J t_s22 (by decide +kernel)
        have X1_s22 : X1 s22 := X1.fl i_X1 t_s22 (by decide +kernel)
        have R1_s22 : R1 s22 := R1.fl i_R1 t_s22 (by decide +kernel)
        have G1_s22 : G1 s22 := G1.fl i_G1 t_s22 (by decide +kernel)
        have W1_s22 : W1 s22 := W1.fl i_W1 t_s22 (by decide +kernel)
        obtain ⟨z26, e_z26⟩ : ∃ z, z = s22 1 4 := ⟨_, rfl⟩
        have g_z26 : (1 : Int) ≤ s22 1 4 ∧ s22 1 4 ≤ 40 := hG_s22 1 4
        show xe (some (N, xs)) 231 190 [(0, .ref 2000), (1, .ref 0), (2, .ref 256), (3, vi x3)] [vi z21] s22 295 10442 _
        refine x_A k231_190 (fun _ => rfl) ?_
        refine x_A k231_191 (fun _ => rfl) ?_
        refine x_A k231_192 (fun _ => rfl) ?_
        refine x_A k231_193 (fun _ => rfl) ?_
        refine x_A k231_194 (fun _ => rfl) ?_
        refine x_iadd k231_195 ?_
        refine x_top (fun z27 e_z27 => ?_)
        refine x_scr k231_196 hN ⟨by omega, by omega⟩ (fun z28 g_z28 e_z28 => ?_)
        unfold in32 at g_z28
        have q_z28 : z28 = z18 := by rw [e_z28, e_z18, show z27 = z17 by omega]
        obtain ⟨z29, e_z29⟩ : ∃ z, z = s22 256 1 := ⟨_, rfl⟩
        have g_z29 : (1 : Int) ≤ s22 256 1 ∧ s22 256 1 ≤ 40 := hG_s22 256 1
        obtain ⟨z30, e_z30⟩ : ∃ z, z = s22 256 0 := ⟨_, rfl⟩
        have g_z30 : (0 : Int) ≤ s22 256 0 ∧ s22 256 0 ≤ 9 := hG_s22 256 0
        refine x_callV k231_197 (y := 146) (n := 1) (w0 := 0) (w1 := 1) (as := [vi z28]) (rest := []) (by decide +kernel) (q := 256) (nq := 62) (kq := 15) ⟨by decide, rfl⟩ rfl rfl rfl rfl (xe_mono (V_X11_mark_256 s22 hG_s22 z28 (by first | exact x_rbe e_z28 g_z28 rfl rfl | exact x_rb g_z28 rfl rfl | exact ⟨by omega, by omega⟩) ⟨by omega, by omega⟩ ⟨by omega, by omega⟩ J_s22) ?_)
        rintro s32 v ⟨hG_s32, t_s32, z31, rfl, g_z31, xp_z31, J_s32⟩
        have q33 : s32 231 3 = x1000 := (t_s32 231 3 (show 2884 ∉ [4098, 4160, 4224, 4288, 4352] from by decide +kernel)).trans q23
        have q34 : s32 256 58 = x1001 := (t_s32 256 58 (show 4155 ∉ [4098, 4160, 4224, 4288, 4352] from by decide +kernel)).trans q24
        have q35 : s32 0 10 = z20 := (t_s32 0 10 (show 11 ∉ [4098, 4160, 4224, 4288, 4352] from by decide +kernel)).trans q25
        have q36 : s32 1 4 = z26 := (t_s32 1 4 (show 69 ∉ [4098, 4160, 4224, 4288, 4352] from by decide +kernel)).trans e_z26.symm
        have q37 : s32 256 0 = z30 := (t_s32 256 0 (show 4097 ∉ [4098, 4160, 4224, 4288, 4352] from by decide +kernel)).trans e_z30.symm
        have X1_s32 : X1 s32 := X1.fl X1_s22 t_s32 (by decide +kernel)
        have R1_s32 : R1 s32 := R1.fl R1_s22 t_s32 (by decide +kernel)
        have G1_s32 : G1 s32 := G1.fl G1_s22 t_s32 (by decide +kernel)
        have W1_s32 : W1 s32 := W1.fl W1_s22 t_s32 (by decide +kernel)
        have VCj_s32 : VCj s32 := VCj.fl VCj_s22 hG_s22 t_s32 (by decide)
        have VCl_s32 : VCl s32 := VCl.fl VCl_s22 hG_s22 t_s32 (by decide)
        obtain ⟨z38, e_z38⟩ : ∃ z, z = s32 256 1 := ⟨_, rfl⟩
        have g_z38 : (1 : Int) ≤ s32 256 1 ∧ s32 256 1 ≤ 40 := hG_s32 256 1
        show xe (some (N, xs)) 231 200 [(0, .ref 2000), (1, .ref 0), (2, .ref 256), (3, vi x3)] [vi z31] s32 295 10442 _
        obtain ⟨ez_s32, TR_s32⟩ := TR.mark i_TR hG t_s22 t_s32 (by decide) (by decide) xp_z21 (by rw [← q_z28]; exact xp_z31)
        have G3_s32 := G3.mark i_G3 hG t_s22 t_s32 (by decide) (by decide) xp_z21.1
        refine x_A k231_200 (fun _ => rfl) ?_
        refine x_goto k231_201 (t := 1300) rfl ?_
        refine x_iinc k231_1300 (ls' := [(3, vi (x3 + 7)), (0, .ref 2000), (1, .ref 0), (2, .ref 256)]) rfl (by decide) rfl ?_
        refine x_goto k231_1303 (t := 18) rfl ?_
        refine x_ls (l := [(0, .ref 2000), (1, .ref 0), (2, .ref 256), (3, vi (x3 + 7))]) (show ([0, 1, 2, 3] : List Nat).Nodup from by decide +kernel) ⟨rfl, rfl, rfl, rfl, trivial⟩ ?_
        exact ih s32 (x3 + 7) x1000 x1001 hG_s32 trivial ⟨by omega, by omega⟩ (by first | exact x_rb b_x1000 rfl rfl | exact ⟨by omega, by omega⟩) (by first | exact x_rb b_x1001 rfl rfl | exact ⟨by omega, by omega⟩) (by omega) (q33).symm (q34).symm J_s32 TR_s32 X1_s32 R1_s32 G1_s32 G3_s32 W1_s32 VCj_s32 VCl_s32  (by omega)
      · rw [c5]
        refine x_B k231_33 rfl (fun _ => rfl) (fun _ => rfl) (fun _ _ => rfl) ?_
        show xe (some (N, xs)) 231 204 [(0, .ref 2000), (1, .ref 0), (2, .ref 256), (3, vi x3)] [] s 295 10442 _
        refine x_A k231_204 (fun _ => rfl) ?_
        refine x_A k231_205 (fun _ => rfl) ?_
        refine x_A k231_206 (fun _ => rfl) ?_
        refine x_A k231_207 (fun _ => rfl) ?_
        refine x_iadd k231_208 ?_
        refine x_top (fun z39 e_z39 => ?_)
        refine x_scr k231_209 hN ⟨by omega, by omega⟩ (fun z40 g_z40 e_z40 => ?_)
        unfold in32 at g_z40
        refine x_A k231_210 (fun _ => rfl) ?_
        refine x_A k231_211 (fun _ => rfl) ?_
        refine x_A k231_212 (fun _ => rfl) ?_
        refine x_iadd k231_213 ?_
        refine x_top (fun z41 e_z41 => ?_)
        refine x_scr k231_214 hN ⟨by omega, by omega⟩ (fun z42 g_z42 e_z42 => ?_)
        unfold in32 at g_z42
        obtain ⟨z43, e_z43⟩ : ∃ z, z = s 1 4 := ⟨_, rfl⟩
        have g_z43 : (1 : Int) ≤ s 1 4 ∧ s 1 4 ≤ 40 := hG 1 4
        obtain ⟨z44, e_z44⟩ : ∃ z, z = s 0 10 := ⟨_, rfl⟩
        have g_z44 : (0 : Int) ≤ s 0 10 ∧ s 0 10 ≤ 9 := hG 0 10
        refine x_callV k231_215 (y := 93) (n := 2) (w0 := 0) (w1 := 2) (as := [vi z40, vi z42]) (rest := []) (by decide +kernel) (q := 0) (nq := 12) (kq := 3) ⟨by decide, rfl⟩ rfl rfl rfl rfl (xe_mono (V_X10_move_0 s hG z40 (by first | exact x_rbe e_z40 g_z40 rfl rfl | exact x_rb g_z40 rfl rfl | exact ⟨by omega, by omega⟩) z42 (by first | exact x_rbe e_z42 g_z42 rfl rfl | exact x_rb g_z42 rfl rfl | exact ⟨by omega, by omega⟩) ⟨by omega, by omega⟩ ⟨by omega, by omega⟩ i_VCj i_VCl) ?_)
        rintro s46 v ⟨hG_s46, t_s46, z45, rfl, g_z45, xp_z45, VCj_s46, VCl_s46⟩
        have q47 : s46 231 3 = x1000 := (t_s46 231 3 (show 2884 ∉ [384, 3276, 3277] from by decide +kernel)).trans e_x1000.symm
        have q48 : s46 256 58 = x1001 := (t_s46 256 58 (show 4155 ∉ [384, 3276, 3277] from by decide +kernel)).trans e_x1001.symm
        have q49 : s46 1 4 = z43 := (t_s46 1 4 (show 69 ∉ [384, 3276, 3277] from by decide +kernel)).trans e_z43.symm
        have q50 : s46 0 10 = z44 := (t_s46 0 10 (show 11 ∉ [384, 3276, 3277] from by decide +kernel)).trans e_z44.symm
        have J_s46 : J s46 := J.fl i_J t_s46 (by decide +kernel)
        have X1_s46 : X1 s46 := X1.fl i_X1 t_s46 (by decide +kernel)
        have R1_s46 : R1 s46 := R1.fl i_R1 t_s46 (by decide +kernel)
        have G1_s46 : G1 s46 := G1.fl i_G1 t_s46 (by decide +kernel)
        have G3_s46 : G3 s46 := G3.fl i_G3 t_s46 (by decide +kernel)
        have W1_s46 : W1 s46 := W1.fl i_W1 t_s46 (by decide +kernel)
        show xe (some (N, xs)) 231 218 [(0, .ref 2000), (1, .ref 0), (2, .ref 256), (3, vi x3)] [vi z45] s46 295 10442 _
        refine x_A k231_218 (fun _ => rfl) ?_
        refine x_A k231_219 (fun _ => rfl) ?_
        refine x_A k231_220 (fun _ => rfl) ?_
        refine x_A k231_221 (fun _ => rfl) ?_
        refine x_A k231_222 (fun _ => rfl) ?_
        refine x_iadd k231_223 ?_
        refine x_top (fun z51 e_z51 => ?_)
        refine x_scr k231_224 hN ⟨by omega, by omega⟩ (fun z52 g_z52 e_z52 => ?_)
        unfold in32 at g_z52
        have q_z52 : z52 = z40 := by rw [e_z52, e_z40, show z51 = z39 by omega]
        refine x_A k231_225 (fun _ => rfl) ?_
        refine x_A k231_226 (fun _ => rfl) ?_
        refine x_A k231_227 (fun _ => rfl) ?_
        refine x_iadd k231_228 ?_
        refine x_top (fun z53 e_z53 => ?_)
        refine x_scr k231_229 hN ⟨by omega, by omega⟩ (fun z54 g_z54 e_z54 => ?_)
        unfold in32 at g_z54
        have q_z54 : z54 = z42 := by rw [e_z54, e_z42, show z53 = z41 by omega]
        obtain ⟨z55, e_z55⟩ : ∃ z, z = s46 256 1 := ⟨_, rfl⟩
        have g_z55 : (1 : Int) ≤ s46 256 1 ∧ s46 256 1 ≤ 40 := hG_s46 256 1
        obtain ⟨z56, e_z56⟩ : ∃ z, z = s46 256 0 := ⟨_, rfl⟩
        have g_z56 : (0 : Int) ≤ s46 256 0 ∧ s46 256 0 ≤ 9 := hG_s46 256 0
        refine x_callV k231_230 (y := 147) (n := 2) (w0 := 0) (w1 := 2) (as := [vi z52, vi z54]) (rest := []) (by decide +kernel) (q := 256) (nq := 62) (kq := 15) ⟨by decide, rfl⟩ rfl rfl rfl rfl (xe_mono (E_X11_move_256 s46 hG_s46 z52 (by first | exact x_rbe e_z52 g_z52 rfl rfl | exact x_rb g_z52 rfl rfl | exact ⟨by omega, by omega⟩) z54 (by first | exact x_rbe e_z54 g_z54 rfl rfl | exact x_rb g_z54 rfl rfl | exact ⟨by omega, by omega⟩) ⟨by omega, by omega⟩ ⟨by omega, by omega⟩ J_s46) ?_)
        rintro s58 v ⟨hG_s58, t_s58, z57, rfl, g_z57, xp_z57, J_s58⟩
        have q59 : s58 231 3 = x1000 := (t_s58 231 3 (show 2884 ∉ [4352] from by decide +kernel)).trans q47
        have q60 : s58 256 58 = x1001 := (t_s58 256 58 (show 4155 ∉ [4352] from by decide +kernel)).trans q48
        have q61 : s58 1 4 = z43 := (t_s58 1 4 (show 69 ∉ [4352] from by decide +kernel)).trans q49
        have q62 : s58 0 10 = z44 := (t_s58 0 10 (show 11 ∉ [4352] from by decide +kernel)).trans q50
        have q63 : s58 256 1 = z55 := (t_s58 256 1 (show 4098 ∉ [4352] from by decide +kernel)).trans e_z55.symm
        have q64 : s58 256 0 = z56 := (t_s58 256 0 (show 4097 ∉ [4352] from by decide +kernel)).trans e_z56.symm
        have X1_s58 : X1 s58 := X1.fl X1_s46 t_s58 (by decide +kernel)
        have R1_s58 : R1 s58 := R1.fl R1_s46 t_s58 (by decide +kernel)
        have G1_s58 : G1 s58 := G1.fl G1_s46 t_s58 (by decide +kernel)
        have G3_s58 : G3 s58 := G3.fl G3_s46 t_s58 (by decide +kernel)
        have W1_s58 : W1 s58 := W1.fl W1_s46 t_s58 (by decide +kernel)
        have VCj_s58 : VCj s58 := VCj.fl VCj_s46 hG_s46 t_s58 (by decide)
        have VCl_s58 : VCl s58 := VCl.fl VCl_s46 hG_s46 t_s58 (by decide)
        show xe (some (N, xs)) 231 233 [(0, .ref 2000), (1, .ref 0), (2, .ref 256), (3, vi x3)] [vi z57] s58 295 10442 _
        obtain ⟨ez_s58, TR_s58⟩ := TR.move i_TR i_J hG t_s46 t_s58 (by decide) (by decide) xp_z45 (by rw [← q_z52, ← q_z54]; exact xp_z57)
        refine x_A k231_233 (fun _ => rfl) ?_
        refine x_goto k231_234 (t := 1300) rfl ?_
        refine x_iinc k231_1300 (ls' := [(3, vi (x3 + 7)), (0, .ref 2000), (1, .ref 0), (2, .ref 256)]) rfl (by decide) rfl ?_
        refine x_goto k231_1303 (t := 18) rfl ?_
        refine x_ls (l := [(0, .ref 2000), (1, .ref 0), (2, .ref 256), (3, vi (x3 + 7))]) (show ([0, 1, 2, 3] : List Nat).Nodup from by decide +kernel) ⟨rfl, rfl, rfl, rfl, trivial⟩ ?_
        exact ih s58 (x3 + 7) x1000 x1001 hG_s58 trivial ⟨by omega, by omega⟩ (by first | exact x_rb b_x1000 rfl rfl | exact ⟨by omega, by omega⟩) (by first | exact x_rb b_x1001 rfl rfl | exact ⟨by omega, by omega⟩) (by omega) (q59).symm (q60).symm J_s58 TR_s58 X1_s58 R1_s58 G1_s58 G3_s58 W1_s58 VCj_s58 VCl_s58  (by omega)
      · rw [c5]
        refine x_B k231_33 rfl (fun _ => rfl) (fun _ => rfl) (fun _ _ => rfl) ?_
        show xe (some (N, xs)) 231 237 [(0, .ref 2000), (1, .ref 0), (2, .ref 256), (3, vi x3)] [] s 295 10442 _
        refine x_A k231_237 (fun _ => rfl) ?_
        refine x_A k231_238 (fun _ => rfl) ?_
        refine x_A k231_239 (fun _ => rfl) ?_
        refine x_A k231_240 (fun _ => rfl) ?_
        refine x_iadd k231_241 ?_
        refine x_top (fun z65 e_z65 => ?_)
        refine x_scr k231_242 hN ⟨by omega, by omega⟩ (fun z66 g_z66 e_z66 => ?_)
        unfold in32 at g_z66
        refine x_A k231_243 (fun _ => rfl) ?_
        refine x_A k231_244 (fun _ => rfl) ?_
        refine x_A k231_245 (fun _ => rfl) ?_
        refine x_iadd k231_246 ?_
        refine x_top (fun z67 e_z67 => ?_)
        refine x_scr k231_247 hN ⟨by omega, by omega⟩ (fun z68 g_z68 e_z68 => ?_)
        unfold in32 at g_z68
        obtain ⟨z69, e_z69⟩ : ∃ z, z = s 1 4 := ⟨_, rfl⟩
        have g_z69 : (1 : Int) ≤ s 1 4 ∧ s 1 4 ≤ 40 := hG 1 4
        obtain ⟨z70, e_z70⟩ : ∃ z, z = s 0 10 := ⟨_, rfl⟩
        have g_z70 : (0 : Int) ≤ s 0 10 ∧ s 0 10 ≤ 9 := hG 0 10
        refine x_callV k231_248 (y := 94) (n := 2) (w0 := 0) (w1 := 2) (as := [vi z66, vi z68]) (rest := []) (by decide +kernel) (q := 0) (nq := 12) (kq := 3) ⟨by decide, rfl⟩ rfl rfl rfl rfl (xe_mono (V_X10_end_0 s hG z66 (by first | exact x_rbe e_z66 g_z66 rfl rfl | exact x_rb g_z66 rfl rfl | exact ⟨by omega, by omega⟩) z68 (by first | exact x_rbe e_z68 g_z68 rfl rfl | exact x_rb g_z68 rfl rfl | exact ⟨by omega, by omega⟩) ⟨by omega, by omega⟩ ⟨by omega, by omega⟩ i_VCj i_VCl) ?_)
        rintro s72 v ⟨hG_s72, t_s72, z71, rfl, g_z71, xp_z71, VCj_s72, VCl_s72⟩
        have q73 : s72 231 3 = x1000 := (t_s72 231 3 (show 2884 ∉ [192, 256, 3276, 3277] from by decide +kernel)).trans e_x1000.symm
        have q74 : s72 256 58 = x1001 := (t_s72 256 58 (show 4155 ∉ [192, 256, 3276, 3277] from by decide +kernel)).trans e_x1001.symm
        have q75 : s72 1 4 = z69 := (t_s72 1 4 (show 69 ∉ [192, 256, 3276, 3277] from by decide +kernel)).trans e_z69.symm
        have q76 : s72 0 10 = z70 := (t_s72 0 10 (show 11 ∉ [192, 256, 3276, 3277] from by decide +kernel)).trans e_z70.symm
        have J_s72 : J s72 := J.fl i_J t_s72 (by decide +kernel)
        have X1_s72 : X1 s72 := X1.fl i_X1 t_s72 (by decide +kernel)
        have R1_s72 : R1 s72 := R1.fl i_R1 t_s72 (by decide +kernel)
        have G1_s72 : G1 s72 := G1.fl i_G1 t_s72 (by decide +kernel)
        have G3_s72 : G3 s72 := G3.fl i_G3 t_s72 (by decide +kernel)
        have W1_s72 : W1 s72 := W1.fl i_W1 t_s72 (by decide +kernel)
        show xe (some (N, xs)) 231 251 [(0, .ref 2000), (1, .ref 0), (2, .ref 256), (3, vi x3)] [vi z71] s72 295 10442 _
        refine x_A k231_251 (fun _ => rfl) ?_
        refine x_A k231_252 (fun _ => rfl) ?_
        refine x_A k231_253 (fun _ => rfl) ?_
        refine x_A k231_254 (fun _ => rfl) ?_
        refine x_A k231_255 (fun _ => rfl) ?_
        refine x_iadd k231_256 ?_
        refine x_top (fun z77 e_z77 => ?_)
        refine x_scr k231_257 hN ⟨by omega, by omega⟩ (fun z78 g_z78 e_z78 => ?_)
        unfold in32 at g_z78
        have q_z78 : z78 = z66 := by rw [e_z78, e_z66, show z77 = z65 by omega]
        refine x_A k231_258 (fun _ => rfl) ?_
        refine x_A k231_259 (fun _ => rfl) ?_
        refine x_A k231_260 (fun _ => rfl) ?_
        refine x_iadd k231_261 ?_
        refine x_top (fun z79 e_z79 => ?_)
        refine x_scr k231_262 hN ⟨by omega, by omega⟩ (fun z80 g_z80 e_z80 => ?_)
        unfold in32 at g_z80
        have q_z80 : z80 = z68 := by rw [e_z80, e_z68, show z79 = z67 by omega]
        obtain ⟨z81, e_z81⟩ : ∃ z, z = s72 256 1 := ⟨_, rfl⟩
        have g_z81 : (1 : Int) ≤ s72 256 1 ∧ s72 256 1 ≤ 40 := hG_s72 256 1
        obtain ⟨z82, e_z82⟩ : ∃ z, z = s72 256 0 := ⟨_, rfl⟩
        have g_z82 : (0 : Int) ≤ s72 256 0 ∧ s72 256 0 ≤ 9 := hG_s72 256 0
        refine x_callV k231_263 (y := 148) (n := 2) (w0 := 0) (w1 := 2) (as := [vi z78, vi z80]) (rest := []) (by decide +kernel) (q := 256) (nq := 62) (kq := 15) ⟨by decide, rfl⟩ rfl rfl rfl rfl (xe_mono (V_X11_end_256 s72 hG_s72 z78 (by first | exact x_rbe e_z78 g_z78 rfl rfl | exact x_rb g_z78 rfl rfl | exact ⟨by omega, by omega⟩) z80 (by first | exact x_rbe e_z80 g_z80 rfl rfl | exact x_rb g_z80 rfl rfl | exact ⟨by omega, by omega⟩) ⟨by omega, by omega⟩ ⟨by omega, by omega⟩ J_s72) ?_)
        rintro s84 v ⟨hG_s84, t_s84, z83, rfl, g_z83, xp_z83, J_s84⟩
        have q85 : s84 231 3 = x1000 := (t_s84 231 3 (show 2884 ∉ [4224, 4288] from by decide +kernel)).trans q73
        have q86 : s84 256 58 = x1001 := (t_s84 256 58 (show 4155 ∉ [4224, 4288] from by decide +kernel)).trans q74
        have q87 : s84 1 4 = z69 := (t_s84 1 4 (show 69 ∉ [4224, 4288] from by decide +kernel)).trans q75
        have q88 : s84 0 10 = z70 := (t_s84 0 10 (show 11 ∉ [4224, 4288] from by decide +kernel)).trans q76
        have q89 : s84 256 1 = z81 := (t_s84 256 1 (show 4098 ∉ [4224, 4288] from by decide +kernel)).trans e_z81.symm
        have q90 : s84 256 0 = z82 := (t_s84 256 0 (show 4097 ∉ [4224, 4288] from by decide +kernel)).trans e_z82.symm
        have X1_s84 : X1 s84 := X1.fl X1_s72 t_s84 (by decide +kernel)
        have R1_s84 : R1 s84 := R1.fl R1_s72 t_s84 (by decide +kernel)
        have G1_s84 : G1 s84 := G1.fl G1_s72 t_s84 (by decide +kernel)
        have G3_s84 : G3 s84 := G3.fl G3_s72 t_s84 (by decide +kernel)
        have W1_s84 : W1 s84 := W1.fl W1_s72 t_s84 (by decide +kernel)
        have VCj_s84 : VCj s84 := VCj.fl VCj_s72 hG_s72 t_s84 (by decide)
        have VCl_s84 : VCl s84 := VCl.fl VCl_s72 hG_s72 t_s84 (by decide)
        show xe (some (N, xs)) 231 266 [(0, .ref 2000), (1, .ref 0), (2, .ref 256), (3, vi x3)] [vi z83] s84 295 10442 _
        have TR_s84 := TR.end i_TR hG t_s72 t_s84 (by decide) (by decide) xp_z71 (by rw [← q_z78, ← q_z80]; exact xp_z83)
        refine x_A k231_266 (fun _ => rfl) ?_
        refine x_goto k231_267 (t := 1300) rfl ?_
        refine x_iinc k231_1300 (ls' := [(3, vi (x3 + 7)), (0, .ref 2000), (1, .ref 0), (2, .ref 256)]) rfl (by decide) rfl ?_
        refine x_goto k231_1303 (t := 18) rfl ?_
        refine x_ls (l := [(0, .ref 2000), (1, .ref 0), (2, .ref 256), (3, vi (x3 + 7))]) (show ([0, 1, 2, 3] : List Nat).Nodup from by decide +kernel) ⟨rfl, rfl, rfl, rfl, trivial⟩ ?_
        exact ih s84 (x3 + 7) x1000 x1001 hG_s84 trivial ⟨by omega, by omega⟩ (by first | exact x_rb b_x1000 rfl rfl | exact ⟨by omega, by omega⟩) (by first | exact x_rb b_x1001 rfl rfl | exact ⟨by omega, by omega⟩) (by omega) (q85).symm (q86).symm J_s84 TR_s84 X1_s84 R1_s84 G1_s84 G3_s84 W1_s84 VCj_s84 VCl_s84  (by omega)
      · rw [c5]
        refine x_B k231_33 rfl (fun _ => rfl) (fun _ => rfl) (fun _ _ => rfl) ?_
        show xe (some (N, xs)) 231 270 [(0, .ref 2000), (1, .ref 0), (2, .ref 256), (3, vi x3)] [] s 295 10442 _
        refine x_A k231_270 (fun _ => rfl) ?_
        refine x_A k231_271 (fun _ => rfl) ?_
        refine x_A k231_272 (fun _ => rfl) ?_
        refine x_A k231_273 (fun _ => rfl) ?_
        refine x_iadd k231_274 ?_
        refine x_top (fun z91 e_z91 => ?_)
        refine x_scr k231_275 hN ⟨by omega, by omega⟩ (fun z92 g_z92 e_z92 => ?_)
        unfold in32 at g_z92
        refine x_A k231_276 (fun _ => rfl) ?_
        refine x_A k231_277 (fun _ => rfl) ?_
        refine x_A k231_278 (fun _ => rfl) ?_
        refine x_iadd k231_279 ?_
        refine x_top (fun z93 e_z93 => ?_)
        refine x_scr k231_280 hN ⟨by omega, by omega⟩ (fun z94 g_z94 e_z94 => ?_)
        unfold in32 at g_z94
        refine x_A k231_281 (fun _ => rfl) ?_
        refine x_A k231_282 (fun _ => rfl) ?_
        refine x_A k231_283 (fun _ => rfl) ?_
        refine x_iadd k231_284 ?_
        refine x_top (fun z95 e_z95 => ?_)
        refine x_scr k231_285 hN ⟨by omega, by omega⟩ (fun z96 g_z96 e_z96 => ?_)
        unfold in32 at g_z96
        refine x_callV k231_286 (y := 95) (n := 3) (w0 := 0) (w1 := 3) (as := [vi z92, vi z94, vi z96]) (rest := []) (by decide +kernel) (q := 0) (nq := 12) (kq := 3) ⟨by decide, rfl⟩ rfl rfl rfl rfl (xe_mono (V_X10_tree_0 s hG i_J z92 (by first | exact x_rbe e_z92 g_z92 rfl rfl | exact x_rb g_z92 rfl rfl | exact ⟨by omega, by omega⟩) z94 (by first | exact x_rbe e_z94 g_z94 rfl rfl | exact x_rb g_z94 rfl rfl | exact ⟨by omega, by omega⟩) z96 (by first | exact x_rbe e_z96 g_z96 rfl rfl | exact x_rb g_z96 rfl rfl | exact ⟨by omega, by omega⟩) i_R1 i_VCj i_VCl) ?_)
        rintro s98 v ⟨hG_s98, t_s98, z97, rfl, g_z97, VCj_s98, VCl_s98⟩
        have q99 : s98 231 3 = x1000 := (t_s98 231 3 (show 2884 ∉ [3329, 3334, 3335, 3336, 3392, 3456, 3520, 3584, 3276, 3648, 3712, 3776, 3840, 3904, 3968, 3277, 4032] from by decide +kernel)).trans e_x1000.symm
        have q100 : s98 256 58 = x1001 := (t_s98 256 58 (show 4155 ∉ [3329, 3334, 3335, 3336, 3392, 3456, 3520, 3584, 3276, 3648, 3712, 3776, 3840, 3904, 3968, 3277, 4032] from by decide +kernel)).trans e_x1001.symm
        have J_s98 : J s98 := J.fl i_J t_s98 (by decide +kernel)
        have TR_s98 : TR s98 := TR.fl i_TR (hG 256 1).2 t_s98 (by decide)
        have X1_s98 : X1 s98 := X1.fl i_X1 t_s98 (by decide +kernel)
        have R1_s98 : R1 s98 := R1.fl i_R1 t_s98 (by decide +kernel)
        have G1_s98 : G1 s98 := G1.fl i_G1 t_s98 (by decide +kernel)
        have G3_s98 : G3 s98 := G3.fl i_G3 t_s98 (by decide +kernel)
        have W1_s98 : W1 s98 := W1.fl i_W1 t_s98 (by decide +kernel)
        show xe (some (N, xs)) 231 289 [(0, .ref 2000), (1, .ref 0), (2, .ref 256), (3, vi x3)] [vi z97] s98 295 10442 _
        refine x_A k231_289 (fun _ => rfl) ?_
        refine x_A k231_290 (fun _ => rfl) ?_
        refine x_A k231_291 (fun _ => rfl) ?_
        refine x_A k231_292 (fun _ => rfl) ?_
        refine x_A k231_293 (fun _ => rfl) ?_
        refine x_iadd k231_294 ?_
        refine x_top (fun z101 e_z101 => ?_)
        refine x_scr k231_295 hN ⟨by omega, by omega⟩ (fun z102 g_z102 e_z102 => ?_)
        unfold in32 at g_z102
        have q_z102 : z102 = z92 := by rw [e_z102, e_z92, show z101 = z91 by omega]
        refine x_A k231_296 (fun _ => rfl) ?_
        refine x_A k231_297 (fun _ => rfl) ?_
        refine x_A k231_298 (fun _ => rfl) ?_
        refine x_iadd k231_299 ?_
        refine x_top (fun z103 e_z103 => ?_)
        refine x_scr k231_300 hN ⟨by omega, by omega⟩ (fun z104 g_z104 e_z104 => ?_)
        unfold in32 at g_z104
        have q_z104 : z104 = z94 := by rw [e_z104, e_z94, show z103 = z93 by omega]
        refine x_A k231_301 (fun _ => rfl) ?_
        refine x_A k231_302 (fun _ => rfl) ?_
        refine x_A k231_303 (fun _ => rfl) ?_
        refine x_iadd k231_304 ?_
        refine x_top (fun z105 e_z105 => ?_)
        refine x_scr k231_305 hN ⟨by omega, by omega⟩ (fun z106 g_z106 e_z106 => ?_)
        unfold in32 at g_z106
        have q_z106 : z106 = z96 := by rw [e_z106, e_z96, show z105 = z95 by omega]
        refine x_callV k231_306 (y := 149) (n := 3) (w0 := 0) (w1 := 3) (as := [vi z102, vi z104, vi z106]) (rest := []) (by decide +kernel) (q := 256) (nq := 62) (kq := 15) ⟨by decide, rfl⟩ rfl rfl rfl rfl (xe_mono (C_X11_tree_256 s98 hG_s98 J_s98 z102 (by first | exact x_rbe e_z102 g_z102 rfl rfl | exact x_rb g_z102 rfl rfl | exact ⟨by omega, by omega⟩) z104 (by first | exact x_rbe e_z104 g_z104 rfl rfl | exact x_rb g_z104 rfl rfl | exact ⟨by omega, by omega⟩) z106 (by first | exact x_rbe e_z106 g_z106 rfl rfl | exact x_rb g_z106 rfl rfl | exact ⟨by omega, by omega⟩)) ?_)
        rintro s108 v ⟨hG_s108, t_s108, z107, rfl, g_z107⟩
        have q109 : s108 231 3 = x1000 := (t_s108 231 3 (show 2884 ∉ [5312, 5376, 4123, 5440, 5504, 5568, 5632, 5696, 5760] from by decide +kernel)).trans q99
        have q110 : s108 256 58 = x1001 := (t_s108 256 58 (show 4155 ∉ [5312, 5376, 4123, 5440, 5504, 5568, 5632, 5696, 5760] from by decide +kernel)).trans q100
        have J_s108 : J s108 := J.fl J_s98 t_s108 (by decide +kernel)
        have TR_s108 : TR s108 := TR.fl TR_s98 (hG_s98 256 1).2 t_s108 (by decide)
        have X1_s108 : X1 s108 := X1.fl X1_s98 t_s108 (by decide +kernel)
        have R1_s108 : R1 s108 := R1.fl R1_s98 t_s108 (by decide +kernel)
        have G1_s108 : G1 s108 := G1.fl G1_s98 t_s108 (by decide +kernel)
        have G3_s108 : G3 s108 := G3.fl G3_s98 t_s108 (by decide +kernel)
        have W1_s108 : W1 s108 := W1.fl W1_s98 t_s108 (by decide +kernel)
        have VCj_s108 : VCj s108 := VCj.fl VCj_s98 hG_s98 t_s108 (by decide)
        have VCl_s108 : VCl s108 := VCl.fl VCl_s98 hG_s98 t_s108 (by decide)
        show xe (some (N, xs)) 231 309 [(0, .ref 2000), (1, .ref 0), (2, .ref 256), (3, vi x3)] [vi z107] s108 295 10442 _
        refine x_A k231_309 (fun _ => rfl) ?_
        refine x_goto k231_310 (t := 1300) rfl ?_
        refine x_iinc k231_1300 (ls' := [(3, vi (x3 + 7)), (0, .ref 2000), (1, .ref 0), (2, .ref 256)]) rfl (by decide) rfl ?_
        refine x_goto k231_1303 (t := 18) rfl ?_
        refine x_ls (l := [(0, .ref 2000), (1, .ref 0), (2, .ref 256), (3, vi (x3 + 7))]) (show ([0, 1, 2, 3] : List Nat).Nodup from by decide +kernel) ⟨rfl, rfl, rfl, rfl, trivial⟩ ?_
        exact ih s108 (x3 + 7) x1000 x1001 hG_s108 trivial ⟨by omega, by omega⟩ (by first | exact x_rb b_x1000 rfl rfl | exact ⟨by omega, by omega⟩) (by first | exact x_rb b_x1001 rfl rfl | exact ⟨by omega, by omega⟩) (by omega) (q109).symm (q110).symm J_s108 TR_s108 X1_s108 R1_s108 G1_s108 G3_s108 W1_s108 VCj_s108 VCl_s108  (by omega)
      · rw [c5]
        refine x_B k231_33 rfl (fun _ => rfl) (fun _ => rfl) (fun _ _ => rfl) ?_
        show xe (some (N, xs)) 231 313 [(0, .ref 2000), (1, .ref 0), (2, .ref 256), (3, vi x3)] [] s 295 10442 _
        refine x_A k231_313 (fun _ => rfl) ?_
        refine x_A k231_314 (fun _ => rfl) ?_
        refine x_A k231_315 (fun _ => rfl) ?_
        refine x_A k231_316 (fun _ => rfl) ?_
        refine x_iadd k231_317 ?_
        refine x_top (fun z111 e_z111 => ?_)
        refine x_scr k231_318 hN ⟨by omega, by omega⟩ (fun z112 g_z112 e_z112 => ?_)
        unfold in32 at g_z112
        refine x_A k231_319 (fun _ => rfl) ?_
        refine x_A k231_320 (fun _ => rfl) ?_
        refine x_A k231_321 (fun _ => rfl) ?_
        refine x_iadd k231_322 ?_
        refine x_top (fun z113 e_z113 => ?_)
        refine x_scr k231_323 hN ⟨by omega, by omega⟩ (fun z114 g_z114 e_z114 => ?_)
        unfold in32 at g_z114
        refine x_A k231_324 (fun _ => rfl) ?_
        refine x_A k231_325 (fun _ => rfl) ?_
        refine x_A k231_326 (fun _ => rfl) ?_
        refine x_iadd k231_327 ?_
        refine x_top (fun z115 e_z115 => ?_)
        refine x_scr k231_328 hN ⟨by omega, by omega⟩ (fun z116 g_z116 e_z116 => ?_)
        unfold in32 at g_z116
        refine x_callV k231_329 (y := 96) (n := 3) (w0 := 0) (w1 := 3) (as := [vi z112, vi z114, vi z116]) (rest := []) (by decide +kernel) (q := 0) (nq := 12) (kq := 3) ⟨by decide, rfl⟩ rfl rfl rfl rfl (xe_mono (C_X10_below_0 s hG z112 (by first | exact x_rbe e_z112 g_z112 rfl rfl | exact x_rb g_z112 rfl rfl | exact ⟨by omega, by omega⟩) z114 (by first | exact x_rbe e_z114 g_z114 rfl rfl | exact x_rb g_z114 rfl rfl | exact ⟨by omega, by omega⟩) z116 (by first | exact x_rbe e_z116 g_z116 rfl rfl | exact x_rb g_z116 rfl rfl | exact ⟨by omega, by omega⟩)) ?_)
        rintro s118 v ⟨-, t_s118, z117, rfl, g_z117⟩
        rw [t_s118.nil]
        show xe (some (N, xs)) 231 332 [(0, .ref 2000), (1, .ref 0), (2, .ref 256), (3, vi x3)] [vi z117] s 295 10442 _
        refine x_A k231_332 (fun _ => rfl) ?_
        refine x_A k231_333 (fun _ => rfl) ?_
        refine x_A k231_334 (fun _ => rfl) ?_
        refine x_A k231_335 (fun _ => rfl) ?_
        refine x_A k231_336 (fun _ => rfl) ?_
        refine x_iadd k231_337 ?_
        refine x_top (fun z119 e_z119 => ?_)
        refine x_scr k231_338 hN ⟨by omega, by omega⟩ (fun z120 g_z120 e_z120 => ?_)
        unfold in32 at g_z120
        have q_z120 : z120 = z112 := by rw [e_z120, e_z112, show z119 = z111 by omega]
        refine x_A k231_339 (fun _ => rfl) ?_
        refine x_A k231_340 (fun _ => rfl) ?_
        refine x_A k231_341 (fun _ => rfl) ?_
        refine x_iadd k231_342 ?_
        refine x_top (fun z121 e_z121 => ?_)
        refine x_scr k231_343 hN ⟨by omega, by omega⟩ (fun z122 g_z122 e_z122 => ?_)
        unfold in32 at g_z122
        have q_z122 : z122 = z114 := by rw [e_z122, e_z114, show z121 = z113 by omega]
        refine x_A k231_344 (fun _ => rfl) ?_
        refine x_A k231_345 (fun _ => rfl) ?_
        refine x_A k231_346 (fun _ => rfl) ?_
        refine x_iadd k231_347 ?_
        refine x_top (fun z123 e_z123 => ?_)
        refine x_scr k231_348 hN ⟨by omega, by omega⟩ (fun z124 g_z124 e_z124 => ?_)
        unfold in32 at g_z124
        have q_z124 : z124 = z116 := by rw [e_z124, e_z116, show z123 = z115 by omega]
        refine x_callV k231_349 (y := 150) (n := 3) (w0 := 0) (w1 := 3) (as := [vi z120, vi z122, vi z124]) (rest := []) (by decide +kernel) (q := 256) (nq := 62) (kq := 15) ⟨by decide, rfl⟩ rfl rfl rfl rfl (xe_mono (C_X11_below_256 s hG i_J z120 (by first | exact x_rbe e_z120 g_z120 rfl rfl | exact x_rb g_z120 rfl rfl | exact ⟨by omega, by omega⟩) z122 (by first | exact x_rbe e_z122 g_z122 rfl rfl | exact x_rb g_z122 rfl rfl | exact ⟨by omega, by omega⟩) z124 (by first | exact x_rbe e_z124 g_z124 rfl rfl | exact x_rb g_z124 rfl rfl | exact ⟨by omega, by omega⟩)) ?_)
        rintro s126 v ⟨-, t_s126, z125, rfl, g_z125⟩
        rw [t_s126.nil]
        show xe (some (N, xs)) 231 352 [(0, .ref 2000), (1, .ref 0), (2, .ref 256), (3, vi x3)] [vi z125] s 295 10442 _
        refine x_A k231_352 (fun _ => rfl) ?_
        refine x_goto k231_353 (t := 1300) rfl ?_
        refine x_iinc k231_1300 (ls' := [(3, vi (x3 + 7)), (0, .ref 2000), (1, .ref 0), (2, .ref 256)]) rfl (by decide) rfl ?_
        refine x_goto k231_1303 (t := 18) rfl ?_
        refine x_ls (l := [(0, .ref 2000), (1, .ref 0), (2, .ref 256), (3, vi (x3 + 7))]) (show ([0, 1, 2, 3] : List Nat).Nodup from by decide +kernel) ⟨rfl, rfl, rfl, rfl, trivial⟩ ?_
        exact ih s (x3 + 7) x1000 x1001 hG f ⟨by omega, by omega⟩ (by first | exact x_rb b_x1000 rfl rfl | exact ⟨by omega, by omega⟩) (by first | exact x_rb b_x1001 rfl rfl | exact ⟨by omega, by omega⟩) (by omega) (e_x1000.symm).symm (e_x1001.symm).symm i_J i_TR i_X1 i_R1 i_G1 i_G3 i_W1 i_VCj i_VCl  (by omega)
      · rw [c5]
        refine x_B k231_33 rfl (fun _ => rfl) (fun _ => rfl) (fun _ _ => rfl) ?_
        show xe (some (N, xs)) 231 356 [(0, .ref 2000), (1, .ref 0), (2, .ref 256), (3, vi x3)] [] s 295 10442 _
        refine x_A k231_356 (fun _ => rfl) ?_
        refine x_A k231_357 (fun _ => rfl) ?_
        refine x_A k231_358 (fun _ => rfl) ?_
        refine x_A k231_359 (fun _ => rfl) ?_
        refine x_iadd k231_360 ?_
        refine x_top (fun z127 e_z127 => ?_)
        refine x_scr k231_361 hN ⟨by omega, by omega⟩ (fun z128 g_z128 e_z128 => ?_)
        unfold in32 at g_z128
        refine x_A k231_362 (fun _ => rfl) ?_
        refine x_A k231_363 (fun _ => rfl) ?_
        refine x_A k231_364 (fun _ => rfl) ?_
        refine x_iadd k231_365 ?_
        refine x_top (fun z129 e_z129 => ?_)
        refine x_scr k231_366 hN ⟨by omega, by omega⟩ (fun z130 g_z130 e_z130 => ?_)
        unfold in32 at g_z130
        refine x_A k231_367 (fun _ => rfl) ?_
        refine x_A k231_368 (fun _ => rfl) ?_
        refine x_A k231_369 (fun _ => rfl) ?_
        refine x_iadd k231_370 ?_
        refine x_top (fun z131 e_z131 => ?_)
        refine x_scr k231_371 hN ⟨by omega, by omega⟩ (fun z132 g_z132 e_z132 => ?_)
        unfold in32 at g_z132
        obtain ⟨z133, e_z133⟩ : ∃ z, z = s 46 3 := ⟨_, rfl⟩
        have g_z133 : (0 : Int) ≤ s 46 3 ∧ s 46 3 ≤ 40 := hG 46 3
        refine x_callV k231_372 (y := 97) (n := 3) (w0 := 0) (w1 := 3) (as := [vi z128, vi z130, vi z132]) (rest := []) (by decide +kernel) (q := 0) (nq := 12) (kq := 3) ⟨by decide, rfl⟩ rfl rfl rfl rfl (xe_mono (E_X10_picture_0 s hG z128 (by first | exact x_rbe e_z128 g_z128 rfl rfl | exact x_rb g_z128 rfl rfl | exact ⟨by omega, by omega⟩) z130 (by first | exact x_rbe e_z130 g_z130 rfl rfl | exact x_rb g_z130 rfl rfl | exact ⟨by omega, by omega⟩) z132 (by first | exact x_rbe e_z132 g_z132 rfl rfl | exact x_rb g_z132 rfl rfl | exact ⟨by omega, by omega⟩) ⟨by omega, by omega⟩) ?_)
        rintro s135 v ⟨hG_s135, t_s135, z134, rfl, g_z134, xp_z134⟩
        have q136 : s135 231 3 = x1000 := (t_s135 231 3 (show 2884 ∉ [452, 512, 576, 640] from by decide +kernel)).trans e_x1000.symm
        have q137 : s135 256 58 = x1001 := (t_s135 256 58 (show 4155 ∉ [452, 512, 576, 640] from by decide +kernel)).trans e_x1001.symm
        have J_s135 : J s135 := J.fl i_J t_s135 (by decide +kernel)
        have TR_s135 : TR s135 := TR.fl i_TR (hG 256 1).2 t_s135 (by decide)
        have X1_s135 : X1 s135 := X1.fl i_X1 t_s135 (by decide +kernel)
        have R1_s135 : R1 s135 := R1.fl i_R1 t_s135 (by decide +kernel)
        have G1_s135 : G1 s135 := G1.fl i_G1 t_s135 (by decide +kernel)
        have W1_s135 : W1 s135 := W1.fl i_W1 t_s135 (by decide +kernel)
        have VCj_s135 : VCj s135 := VCj.fl i_VCj hG t_s135 (by decide)
        have VCl_s135 : VCl s135 := VCl.fl i_VCl hG t_s135 (by decide)
        obtain ⟨z138, e_z138⟩ : ∃ z, z = s135 46 3 := ⟨_, rfl⟩
        have g_z138 : (0 : Int) ≤ s135 46 3 ∧ s135 46 3 ≤ 40 := hG_s135 46 3
        show xe (some (N, xs)) 231 375 [(0, .ref 2000), (1, .ref 0), (2, .ref 256), (3, vi x3)] [vi z134] s135 295 10442 _
        refine x_A k231_375 (fun _ => rfl) ?_
        refine x_A k231_376 (fun _ => rfl) ?_
        refine x_A k231_377 (fun _ => rfl) ?_
        refine x_A k231_378 (fun _ => rfl) ?_
        refine x_A k231_379 (fun _ => rfl) ?_
        refine x_iadd k231_380 ?_
        refine x_top (fun z139 e_z139 => ?_)
        refine x_scr k231_381 hN ⟨by omega, by omega⟩ (fun z140 g_z140 e_z140 => ?_)
        unfold in32 at g_z140
        have q_z140 : z140 = z128 := by rw [e_z140, e_z128, show z139 = z127 by omega]
        refine x_A k231_382 (fun _ => rfl) ?_
        refine x_A k231_383 (fun _ => rfl) ?_
        refine x_A k231_384 (fun _ => rfl) ?_
        refine x_iadd k231_385 ?_
        refine x_top (fun z141 e_z141 => ?_)
        refine x_scr k231_386 hN ⟨by omega, by omega⟩ (fun z142 g_z142 e_z142 => ?_)
        unfold in32 at g_z142
        have q_z142 : z142 = z130 := by rw [e_z142, e_z130, show z141 = z129 by omega]
        refine x_A k231_387 (fun _ => rfl) ?_
        refine x_A k231_388 (fun _ => rfl) ?_
        refine x_A k231_389 (fun _ => rfl) ?_
        refine x_iadd k231_390 ?_
        refine x_top (fun z143 e_z143 => ?_)
        refine x_scr k231_391 hN ⟨by omega, by omega⟩ (fun z144 g_z144 e_z144 => ?_)
        unfold in32 at g_z144
        have q_z144 : z144 = z132 := by rw [e_z144, e_z132, show z143 = z131 by omega]
        obtain ⟨z145, e_z145⟩ : ∃ z, z = s135 256 6 := ⟨_, rfl⟩
        have g_z145 : (0 : Int) ≤ s135 256 6 ∧ s135 256 6 ≤ 40 := hG_s135 256 6
        refine x_callV k231_392 (y := 154) (n := 3) (w0 := 0) (w1 := 3) (as := [vi z140, vi z142, vi z144]) (rest := []) (by decide +kernel) (q := 256) (nq := 62) (kq := 15) ⟨by decide, rfl⟩ rfl rfl rfl rfl (xe_mono (E_X11_picture_256 s135 hG_s135 z140 (by first | exact x_rbe e_z140 g_z140 rfl rfl | exact x_rb g_z140 rfl rfl | exact ⟨by omega, by omega⟩) z142 (by first | exact x_rbe e_z142 g_z142 rfl rfl | exact x_rb g_z142 rfl rfl | exact ⟨by omega, by omega⟩) z144 (by first | exact x_rbe e_z144 g_z144 rfl rfl | exact x_rb g_z144 rfl rfl | exact ⟨by omega, by omega⟩) ⟨by omega, by omega⟩ J_s135) ?_)
        rintro s147 v ⟨hG_s147, t_s147, z146, rfl, g_z146, xp_z146, J_s147⟩
        have q148 : s147 231 3 = x1000 := (t_s147 231 3 (show 2884 ∉ [4103, 4416, 4480, 4544] from by decide +kernel)).trans q136
        have q149 : s147 256 58 = x1001 := (t_s147 256 58 (show 4155 ∉ [4103, 4416, 4480, 4544] from by decide +kernel)).trans q137
        have q150 : s147 46 3 = z138 := (t_s147 46 3 (show 452 ∉ [4103, 4416, 4480, 4544] from by decide +kernel)).trans e_z138.symm
        have TR_s147 : TR s147 := TR.fl TR_s135 (hG_s135 256 1).2 t_s147 (by decide)
        have X1_s147 : X1 s147 := X1.fl X1_s135 t_s147 (by decide +kernel)
        have R1_s147 : R1 s147 := R1.fl R1_s135 t_s147 (by decide +kernel)
        have G1_s147 : G1 s147 := G1.fl G1_s135 t_s147 (by decide +kernel)
        have W1_s147 : W1 s147 := W1.fl W1_s135 t_s147 (by decide +kernel)
        have VCj_s147 : VCj s147 := VCj.fl VCj_s135 hG_s135 t_s147 (by decide)
        have VCl_s147 : VCl s147 := VCl.fl VCl_s135 hG_s135 t_s147 (by decide)
        obtain ⟨z151, e_z151⟩ : ∃ z, z = s147 256 6 := ⟨_, rfl⟩
        have g_z151 : (0 : Int) ≤ s147 256 6 ∧ s147 256 6 ≤ 40 := hG_s147 256 6
        show xe (some (N, xs)) 231 395 [(0, .ref 2000), (1, .ref 0), (2, .ref 256), (3, vi x3)] [vi z146] s147 295 10442 _
        have g46_s147 := i_G3.1
        have e46_s147 : s147 46 3 = s135 46 3 := t_s147 46 3 (by decide)
        have e256_s147 : s135 256 6 = s 256 6 := t_s135 256 6 (by decide)
        have G3_s147 := G3.pic i_G3 t_s135 t_s147 (by decide) (by decide) (by omega) (by omega)
        refine x_A k231_395 (fun _ => rfl) ?_
        refine x_goto k231_396 (t := 1300) rfl ?_
        refine x_iinc k231_1300 (ls' := [(3, vi (x3 + 7)), (0, .ref 2000), (1, .ref 0), (2, .ref 256)]) rfl (by decide) rfl ?_
        refine x_goto k231_1303 (t := 18) rfl ?_
        refine x_ls (l := [(0, .ref 2000), (1, .ref 0), (2, .ref 256), (3, vi (x3 + 7))]) (show ([0, 1, 2, 3] : List Nat).Nodup from by decide +kernel) ⟨rfl, rfl, rfl, rfl, trivial⟩ ?_
        exact ih s147 (x3 + 7) x1000 x1001 hG_s147 trivial ⟨by omega, by omega⟩ (by first | exact x_rb b_x1000 rfl rfl | exact ⟨by omega, by omega⟩) (by first | exact x_rb b_x1001 rfl rfl | exact ⟨by omega, by omega⟩) (by omega) (q148).symm (q149).symm J_s147 TR_s147 X1_s147 R1_s147 G1_s147 G3_s147 W1_s147 VCj_s147 VCl_s147  (by omega)
      · rw [c5]
        refine x_B k231_33 rfl (fun _ => rfl) (fun _ => rfl) (fun _ _ => rfl) ?_
        show xe (some (N, xs)) 231 399 [(0, .ref 2000), (1, .ref 0), (2, .ref 256), (3, vi x3)] [] s 295 10442 _
        refine x_A k231_399 (fun _ => rfl) ?_
        refine x_A k231_400 (fun _ => rfl) ?_
        refine x_A k231_401 (fun _ => rfl) ?_
        refine x_A k231_402 (fun _ => rfl) ?_
        refine x_iadd k231_403 ?_
        refine x_top (fun z152 e_z152 => ?_)
        refine x_scr k231_404 hN ⟨by omega, by omega⟩ (fun z153 g_z153 e_z153 => ?_)
        unfold in32 at g_z153
        refine x_A k231_405 (fun _ => rfl) ?_
        refine x_A k231_406 (fun _ => rfl) ?_
        refine x_A k231_407 (fun _ => rfl) ?_
        refine x_iadd k231_408 ?_
        refine x_top (fun z154 e_z154 => ?_)
        refine x_scr k231_409 hN ⟨by omega, by omega⟩ (fun z155 g_z155 e_z155 => ?_)
        unfold in32 at g_z155
        refine x_A k231_410 (fun _ => rfl) ?_
        refine x_A k231_411 (fun _ => rfl) ?_
        refine x_A k231_412 (fun _ => rfl) ?_
        refine x_iadd k231_413 ?_
        refine x_top (fun z156 e_z156 => ?_)
        refine x_scr k231_414 hN ⟨by omega, by omega⟩ (fun z157 g_z157 e_z157 => ?_)
        unfold in32 at g_z157
        refine x_A k231_415 (fun _ => rfl) ?_
        refine x_A k231_416 (fun _ => rfl) ?_
        refine x_A k231_417 (fun _ => rfl) ?_
        refine x_iadd k231_418 ?_
        refine x_top (fun z158 e_z158 => ?_)
        refine x_scr k231_419 hN ⟨by omega, by omega⟩ (fun z159 g_z159 e_z159 => ?_)
        unfold in32 at g_z159
        obtain ⟨z160, e_z160⟩ : ∃ z, z = s 50 6 := ⟨_, rfl⟩
        have g_z160 : (0 : Int) ≤ s 50 6 ∧ s 50 6 ≤ 120 := hG 50 6
        obtain ⟨z161, e_z161⟩ : ∃ z, z = s 46 3 := ⟨_, rfl⟩
        have g_z161 : (0 : Int) ≤ s 46 3 ∧ s 46 3 ≤ 40 := hG 46 3
        obtain ⟨z162, e_z162⟩ : ∃ z, z = s 1 4 := ⟨_, rfl⟩
        have g_z162 : (1 : Int) ≤ s 1 4 ∧ s 1 4 ≤ 40 := hG 1 4
        obtain ⟨z163, e_z163⟩ : ∃ z, z = s 0 10 := ⟨_, rfl⟩
        have g_z163 : (0 : Int) ≤ s 0 10 ∧ s 0 10 ≤ 9 := hG 0 10
        refine x_callV k231_420 (y := 98) (n := 4) (w0 := 0) (w1 := 4) (as := [vi z153, vi z155, vi z157, vi z159]) (rest := []) (by decide +kernel) (q := 0) (nq := 12) (kq := 3) ⟨by decide, rfl⟩ rfl rfl rfl rfl (xe_mono (V_X10_give_0 s hG z153 (by first | exact x_rbe e_z153 g_z153 rfl rfl | exact x_rb g_z153 rfl rfl | exact ⟨by omega, by omega⟩) z155 (by first | exact x_rbe e_z155 g_z155 rfl rfl | exact x_rb g_z155 rfl rfl | exact ⟨by omega, by omega⟩) z157 (by first | exact x_rbe e_z157 g_z157 rfl rfl | exact x_rb g_z157 rfl rfl | exact ⟨by omega, by omega⟩) z159 (by first | exact x_rbe e_z159 g_z159 rfl rfl | exact x_rb g_z159 rfl rfl | exact ⟨by omega, by omega⟩) ⟨by omega, by omega⟩ ⟨by omega, by omega⟩ ⟨by omega, by omega⟩ ⟨by omega, by omega⟩ i_VCj i_VCl) ?_)
        rintro s165 v ⟨hG_s165, t_s165, z164, rfl, g_z164, xp_z164, VCj_s165, VCl_s165⟩
        have q166 : s165 231 3 = x1000 := (t_s165 231 3 (show 2884 ∉ [711, 768, 832, 896, 960, 1024, 1152, 3276, 3277] from by decide +kernel)).trans e_x1000.symm
        have q167 : s165 256 58 = x1001 := (t_s165 256 58 (show 4155 ∉ [711, 768, 832, 896, 960, 1024, 1152, 3276, 3277] from by decide +kernel)).trans e_x1001.symm
        have q168 : s165 46 3 = z161 := (t_s165 46 3 (show 452 ∉ [711, 768, 832, 896, 960, 1024, 1152, 3276, 3277] from by decide +kernel)).trans e_z161.symm
        have q169 : s165 1 4 = z162 := (t_s165 1 4 (show 69 ∉ [711, 768, 832, 896, 960, 1024, 1152, 3276, 3277] from by decide +kernel)).trans e_z162.symm
        have q170 : s165 0 10 = z163 := (t_s165 0 10 (show 11 ∉ [711, 768, 832, 896, 960, 1024, 1152, 3276, 3277] from by decide +kernel)).trans e_z163.symm
        have J_s165 : J s165 := J.fl i_J t_s165 (by decide +kernel)
        have TR_s165 : TR s165 := TR.fl i_TR (hG 256 1).2 t_s165 (by decide)
        have X1_s165 : X1 s165 := X1.fl i_X1 t_s165 (by decide +kernel)
        have R1_s165 : R1 s165 := R1.fl i_R1 t_s165 (by decide +kernel)
        have W1_s165 : W1 s165 := W1.fl i_W1 t_s165 (by decide +kernel)
        obtain ⟨z171, e_z171⟩ : ∃ z, z = s165 50 6 := ⟨_, rfl⟩
        have g_z171 : (0 : Int) ≤ s165 50 6 ∧ s165 50 6 ≤ 120 := hG_s165 50 6
        show xe (some (N, xs)) 231 423 [(0, .ref 2000), (1, .ref 0), (2, .ref 256), (3, vi x3)] [vi z164] s165 295 10442 _
        refine x_A k231_423 (fun _ => rfl) ?_
        refine x_A k231_424 (fun _ => rfl) ?_
        refine x_A k231_425 (fun _ => rfl) ?_
        refine x_A k231_426 (fun _ => rfl) ?_
        refine x_A k231_427 (fun _ => rfl) ?_
        refine x_iadd k231_428 ?_
        refine x_top (fun z172 e_z172 => ?_)
        refine x_scr k231_429 hN ⟨by omega, by omega⟩ (fun z173 g_z173 e_z173 => ?_)
        unfold in32 at g_z173
        have q_z173 : z173 = z153 := by rw [e_z173, e_z153, show z172 = z152 by omega]
        refine x_A k231_430 (fun _ => rfl) ?_
        refine x_A k231_431 (fun _ => rfl) ?_
        refine x_A k231_432 (fun _ => rfl) ?_
        refine x_iadd k231_433 ?_
        refine x_top (fun z174 e_z174 => ?_)
        refine x_scr k231_434 hN ⟨by omega, by omega⟩ (fun z175 g_z175 e_z175 => ?_)
        unfold in32 at g_z175
        have q_z175 : z175 = z155 := by rw [e_z175, e_z155, show z174 = z154 by omega]
        refine x_A k231_435 (fun _ => rfl) ?_
        refine x_A k231_436 (fun _ => rfl) ?_
        refine x_A k231_437 (fun _ => rfl) ?_
        refine x_iadd k231_438 ?_
        refine x_top (fun z176 e_z176 => ?_)
        refine x_scr k231_439 hN ⟨by omega, by omega⟩ (fun z177 g_z177 e_z177 => ?_)
        unfold in32 at g_z177
        have q_z177 : z177 = z157 := by rw [e_z177, e_z157, show z176 = z156 by omega]
        refine x_A k231_440 (fun _ => rfl) ?_
        refine x_A k231_441 (fun _ => rfl) ?_
        refine x_A k231_442 (fun _ => rfl) ?_
        refine x_iadd k231_443 ?_
        refine x_top (fun z178 e_z178 => ?_)
        refine x_scr k231_444 hN ⟨by omega, by omega⟩ (fun z179 g_z179 e_z179 => ?_)
        unfold in32 at g_z179
        have q_z179 : z179 = z159 := by rw [e_z179, e_z159, show z178 = z158 by omega]
        obtain ⟨z180, e_z180⟩ : ∃ z, z = s165 256 10 := ⟨_, rfl⟩
        have g_z180 : (0 : Int) ≤ s165 256 10 ∧ s165 256 10 ≤ 120 := hG_s165 256 10
        obtain ⟨z181, e_z181⟩ : ∃ z, z = s165 256 6 := ⟨_, rfl⟩
        have g_z181 : (0 : Int) ≤ s165 256 6 ∧ s165 256 6 ≤ 40 := hG_s165 256 6
        obtain ⟨z182, e_z182⟩ : ∃ z, z = s165 256 1 := ⟨_, rfl⟩
        have g_z182 : (1 : Int) ≤ s165 256 1 ∧ s165 256 1 ≤ 40 := hG_s165 256 1
        obtain ⟨z183, e_z183⟩ : ∃ z, z = s165 256 0 := ⟨_, rfl⟩
        have g_z183 : (0 : Int) ≤ s165 256 0 ∧ s165 256 0 ≤ 9 := hG_s165 256 0
        refine x_callV k231_445 (y := 155) (n := 4) (w0 := 0) (w1 := 4) (as := [vi z173, vi z175, vi z177, vi z179]) (rest := []) (by decide +kernel) (q := 256) (nq := 62) (kq := 15) ⟨by decide, rfl⟩ rfl rfl rfl rfl (xe_mono (V_X11_give_256 s165 hG_s165 z173 (by first | exact x_rbe e_z173 g_z173 rfl rfl | exact x_rb g_z173 rfl rfl | exact ⟨by omega, by omega⟩) z175 (by first | exact x_rbe e_z175 g_z175 rfl rfl | exact x_rb g_z175 rfl rfl | exact ⟨by omega, by omega⟩) z177 (by first | exact x_rbe e_z177 g_z177 rfl rfl | exact x_rb g_z177 rfl rfl | exact ⟨by omega, by omega⟩) z179 (by first | exact x_rbe e_z179 g_z179 rfl rfl | exact x_rb g_z179 rfl rfl | exact ⟨by omega, by omega⟩) ⟨by omega, by omega⟩ ⟨by omega, by omega⟩ ⟨by omega, by omega⟩ ⟨by omega, by omega⟩) ?_)
        rintro s185 v ⟨hG_s185, t_s185, z184, rfl, g_z184, xp_z184⟩
        have q186 : s185 231 3 = x1000 := (t_s185 231 3 (show 2884 ∉ [4107, 4608, 4672, 4736, 4800, 4864, 4928] from by decide +kernel)).trans q166
        have q187 : s185 256 58 = x1001 := (t_s185 256 58 (show 4155 ∉ [4107, 4608, 4672, 4736, 4800, 4864, 4928] from by decide +kernel)).trans q167
        have q188 : s185 46 3 = z161 := (t_s185 46 3 (show 452 ∉ [4107, 4608, 4672, 4736, 4800, 4864, 4928] from by decide +kernel)).trans q168
        have q189 : s185 1 4 = z162 := (t_s185 1 4 (show 69 ∉ [4107, 4608, 4672, 4736, 4800, 4864, 4928] from by decide +kernel)).trans q169
        have q190 : s185 0 10 = z163 := (t_s185 0 10 (show 11 ∉ [4107, 4608, 4672, 4736, 4800, 4864, 4928] from by decide +kernel)).trans q170
        have q191 : s185 50 6 = z171 := (t_s185 50 6 (show 711 ∉ [4107, 4608, 4672, 4736, 4800, 4864, 4928] from by decide +kernel)).trans e_z171.symm
        have q192 : s185 256 6 = z181 := (t_s185 256 6 (show 4103 ∉ [4107, 4608, 4672, 4736, 4800, 4864, 4928] from by decide +kernel)).trans e_z181.symm
        have q193 : s185 256 1 = z182 := (t_s185 256 1 (show 4098 ∉ [4107, 4608, 4672, 4736, 4800, 4864, 4928] from by decide +kernel)).trans e_z182.symm
        have q194 : s185 256 0 = z183 := (t_s185 256 0 (show 4097 ∉ [4107, 4608, 4672, 4736, 4800, 4864, 4928] from by decide +kernel)).trans e_z183.symm
        have J_s185 : J s185 := J.fl J_s165 t_s185 (by decide +kernel)
        have TR_s185 : TR s185 := TR.fl TR_s165 (hG_s165 256 1).2 t_s185 (by decide)
        have X1_s185 : X1 s185 := X1.fl X1_s165 t_s185 (by decide +kernel)
        have R1_s185 : R1 s185 := R1.fl R1_s165 t_s185 (by decide +kernel)
        have W1_s185 : W1 s185 := W1.fl W1_s165 t_s185 (by decide +kernel)
        have VCj_s185 : VCj s185 := VCj.fl VCj_s165 hG_s165 t_s185 (by decide)
        have VCl_s185 : VCl s185 := VCl.fl VCl_s165 hG_s165 t_s185 (by decide)
        obtain ⟨z195, e_z195⟩ : ∃ z, z = s185 256 10 := ⟨_, rfl⟩
        have g_z195 : (0 : Int) ≤ s185 256 10 ∧ s185 256 10 ≤ 120 := hG_s185 256 10
        show xe (some (N, xs)) 231 448 [(0, .ref 2000), (1, .ref 0), (2, .ref 256), (3, vi x3)] [vi z184] s185 295 10442 _
        obtain ⟨ez_s185, G1_s185⟩ := G1.give i_G1 i_TR.1.2.1 i_G3.1 hG t_s165 t_s185 (by decide) (by decide) xp_z164.1 (by rw [← q_z173, ← q_z175, ← q_z177, ← q_z179]; exact xp_z184.1)
        have G3_s185 := G3.give i_G3 i_G1 i_TR.1 i_TR.2.1 hG t_s165 t_s185 (by decide) (by decide) ez_s185 xp_z164.1 xp_z164.2 (by have w_ := xp_z184.2; (try rw [q_z173] at w_); (try rw [q_z175] at w_); (try rw [q_z177] at w_); (try rw [q_z179] at w_); exact w_)
        refine x_A k231_448 (fun _ => rfl) ?_
        refine x_goto k231_449 (t := 1300) rfl ?_
        refine x_iinc k231_1300 (ls' := [(3, vi (x3 + 7)), (0, .ref 2000), (1, .ref 0), (2, .ref 256)]) rfl (by decide) rfl ?_
        refine x_goto k231_1303 (t := 18) rfl ?_
        refine x_ls (l := [(0, .ref 2000), (1, .ref 0), (2, .ref 256), (3, vi (x3 + 7))]) (show ([0, 1, 2, 3] : List Nat).Nodup from by decide +kernel) ⟨rfl, rfl, rfl, rfl, trivial⟩ ?_
        exact ih s185 (x3 + 7) x1000 x1001 hG_s185 trivial ⟨by omega, by omega⟩ (by first | exact x_rb b_x1000 rfl rfl | exact ⟨by omega, by omega⟩) (by first | exact x_rb b_x1001 rfl rfl | exact ⟨by omega, by omega⟩) (by omega) (q186).symm (q187).symm J_s185 TR_s185 X1_s185 R1_s185 G1_s185 G3_s185 W1_s185 VCj_s185 VCl_s185  (by omega)
      · rw [c5]
        refine x_B k231_33 rfl (fun _ => rfl) (fun _ => rfl) (fun _ _ => rfl) ?_
        show xe (some (N, xs)) 231 452 [(0, .ref 2000), (1, .ref 0), (2, .ref 256), (3, vi x3)] [] s 295 10442 _
        refine x_A k231_452 (fun _ => rfl) ?_
        refine x_A k231_453 (fun _ => rfl) ?_
        refine x_A k231_454 (fun _ => rfl) ?_
        refine x_A k231_455 (fun _ => rfl) ?_
        refine x_iadd k231_456 ?_
        refine x_top (fun z196 e_z196 => ?_)
        refine x_scr k231_457 hN ⟨by omega, by omega⟩ (fun z197 g_z197 e_z197 => ?_)
        unfold in32 at g_z197
        refine x_A k231_458 (fun _ => rfl) ?_
        refine x_A k231_459 (fun _ => rfl) ?_
        refine x_A k231_460 (fun _ => rfl) ?_
        refine x_iadd k231_461 ?_
        refine x_top (fun z198 e_z198 => ?_)
        refine x_scr k231_462 hN ⟨by omega, by omega⟩ (fun z199 g_z199 e_z199 => ?_)
        unfold in32 at g_z199
        obtain ⟨z200, e_z200⟩ : ∃ z, z = s 50 6 := ⟨_, rfl⟩
        have g_z200 : (0 : Int) ≤ s 50 6 ∧ s 50 6 ≤ 120 := hG 50 6
        obtain ⟨z201, e_z201⟩ : ∃ z, z = s 0 10 := ⟨_, rfl⟩
        have g_z201 : (0 : Int) ≤ s 0 10 ∧ s 0 10 ≤ 9 := hG 0 10
        refine x_callV k231_463 (y := 99) (n := 2) (w0 := 0) (w1 := 2) (as := [vi z197, vi z199]) (rest := []) (by decide +kernel) (q := 0) (nq := 12) (kq := 3) ⟨by decide, rfl⟩ rfl rfl rfl rfl (xe_mono (V_X10_doubt_0 s hG z197 (by first | exact x_rbe e_z197 g_z197 rfl rfl | exact x_rb g_z197 rfl rfl | exact ⟨by omega, by omega⟩) z199 (by first | exact x_rbe e_z199 g_z199 rfl rfl | exact x_rb g_z199 rfl rfl | exact ⟨by omega, by omega⟩) ⟨by omega, by omega⟩ ⟨by omega, by omega⟩ i_VCj i_VCl) ?_)
        rintro s203 v ⟨hG_s203, t_s203, z202, rfl, g_z202, xp_z202, VCj_s203, VCl_s203⟩
        have q204 : s203 231 3 = x1000 := (t_s203 231 3 (show 2884 ∉ [1152, 3276, 3277] from by decide +kernel)).trans e_x1000.symm
        have q205 : s203 256 58 = x1001 := (t_s203 256 58 (show 4155 ∉ [1152, 3276, 3277] from by decide +kernel)).trans e_x1001.symm
        have q206 : s203 50 6 = z200 := (t_s203 50 6 (show 711 ∉ [1152, 3276, 3277] from by decide +kernel)).trans e_z200.symm
        have q207 : s203 0 10 = z201 := (t_s203 0 10 (show 11 ∉ [1152, 3276, 3277] from by decide +kernel)).trans e_z201.symm
        have J_s203 : J s203 := J.fl i_J t_s203 (by decide +kernel)
        have TR_s203 : TR s203 := TR.fl i_TR (hG 256 1).2 t_s203 (by decide)
        have X1_s203 : X1 s203 := X1.fl i_X1 t_s203 (by decide +kernel)
        have R1_s203 : R1 s203 := R1.fl i_R1 t_s203 (by decide +kernel)
        have G3_s203 : G3 s203 := G3.fl i_G3 t_s203 (by decide +kernel)
        have W1_s203 : W1 s203 := W1.fl i_W1 t_s203 (by decide +kernel)
        show xe (some (N, xs)) 231 466 [(0, .ref 2000), (1, .ref 0), (2, .ref 256), (3, vi x3)] [vi z202] s203 295 10442 _
        refine x_A k231_466 (fun _ => rfl) ?_
        refine x_A k231_467 (fun _ => rfl) ?_
        refine x_A k231_468 (fun _ => rfl) ?_
        refine x_A k231_469 (fun _ => rfl) ?_
        refine x_A k231_470 (fun _ => rfl) ?_
        refine x_iadd k231_471 ?_
        refine x_top (fun z208 e_z208 => ?_)
        refine x_scr k231_472 hN ⟨by omega, by omega⟩ (fun z209 g_z209 e_z209 => ?_)
        unfold in32 at g_z209
        have q_z209 : z209 = z197 := by rw [e_z209, e_z197, show z208 = z196 by omega]
        refine x_A k231_473 (fun _ => rfl) ?_
        refine x_A k231_474 (fun _ => rfl) ?_
        refine x_A k231_475 (fun _ => rfl) ?_
        refine x_iadd k231_476 ?_
        refine x_top (fun z210 e_z210 => ?_)
        refine x_scr k231_477 hN ⟨by omega, by omega⟩ (fun z211 g_z211 e_z211 => ?_)
        unfold in32 at g_z211
        have q_z211 : z211 = z199 := by rw [e_z211, e_z199, show z210 = z198 by omega]
        obtain ⟨z212, e_z212⟩ : ∃ z, z = s203 256 10 := ⟨_, rfl⟩
        have g_z212 : (0 : Int) ≤ s203 256 10 ∧ s203 256 10 ≤ 120 := hG_s203 256 10
        obtain ⟨z213, e_z213⟩ : ∃ z, z = s203 256 0 := ⟨_, rfl⟩
        have g_z213 : (0 : Int) ≤ s203 256 0 ∧ s203 256 0 ≤ 9 := hG_s203 256 0
        refine x_callV k231_478 (y := 157) (n := 2) (w0 := 0) (w1 := 2) (as := [vi z209, vi z211]) (rest := []) (by decide +kernel) (q := 256) (nq := 62) (kq := 15) ⟨by decide, rfl⟩ rfl rfl rfl rfl (xe_mono (E_X11_doubt_256 s203 hG_s203 z209 (by first | exact x_rbe e_z209 g_z209 rfl rfl | exact x_rb g_z209 rfl rfl | exact ⟨by omega, by omega⟩) z211 (by first | exact x_rbe e_z211 g_z211 rfl rfl | exact x_rb g_z211 rfl rfl | exact ⟨by omega, by omega⟩) ⟨by omega, by omega⟩ ⟨by omega, by omega⟩) ?_)
        rintro s215 v ⟨hG_s215, t_s215, z214, rfl, g_z214, xp_z214⟩
        have q216 : s215 231 3 = x1000 := (t_s215 231 3 (show 2884 ∉ [4928] from by decide +kernel)).trans q204
        have q217 : s215 256 58 = x1001 := (t_s215 256 58 (show 4155 ∉ [4928] from by decide +kernel)).trans q205
        have q218 : s215 50 6 = z200 := (t_s215 50 6 (show 711 ∉ [4928] from by decide +kernel)).trans q206
        have q219 : s215 0 10 = z201 := (t_s215 0 10 (show 11 ∉ [4928] from by decide +kernel)).trans q207
        have q220 : s215 256 10 = z212 := (t_s215 256 10 (show 4107 ∉ [4928] from by decide +kernel)).trans e_z212.symm
        have q221 : s215 256 0 = z213 := (t_s215 256 0 (show 4097 ∉ [4928] from by decide +kernel)).trans e_z213.symm
        have J_s215 : J s215 := J.fl J_s203 t_s215 (by decide +kernel)
        have TR_s215 : TR s215 := TR.fl TR_s203 (hG_s203 256 1).2 t_s215 (by decide)
        have X1_s215 : X1 s215 := X1.fl X1_s203 t_s215 (by decide +kernel)
        have R1_s215 : R1 s215 := R1.fl R1_s203 t_s215 (by decide +kernel)
        have G3_s215 : G3 s215 := G3.fl G3_s203 t_s215 (by decide +kernel)
        have W1_s215 : W1 s215 := W1.fl W1_s203 t_s215 (by decide +kernel)
        have VCj_s215 : VCj s215 := VCj.fl VCj_s203 hG_s203 t_s215 (by decide)
        have VCl_s215 : VCl s215 := VCl.fl VCl_s203 hG_s203 t_s215 (by decide)
        show xe (some (N, xs)) 231 481 [(0, .ref 2000), (1, .ref 0), (2, .ref 256), (3, vi x3)] [vi z214] s215 295 10442 _
        obtain ⟨ez_s215, G1_s215⟩ := G1.doubt i_G1 i_TR.1.1 hG t_s203 t_s215 (by decide) (by decide) xp_z202 (by rw [← q_z209, ← q_z211]; exact xp_z214)
        refine x_A k231_481 (fun _ => rfl) ?_
        refine x_goto k231_482 (t := 1300) rfl ?_
        refine x_iinc k231_1300 (ls' := [(3, vi (x3 + 7)), (0, .ref 2000), (1, .ref 0), (2, .ref 256)]) rfl (by decide) rfl ?_
        refine x_goto k231_1303 (t := 18) rfl ?_
        refine x_ls (l := [(0, .ref 2000), (1, .ref 0), (2, .ref 256), (3, vi (x3 + 7))]) (show ([0, 1, 2, 3] : List Nat).Nodup from by decide +kernel) ⟨rfl, rfl, rfl, rfl, trivial⟩ ?_
        exact ih s215 (x3 + 7) x1000 x1001 hG_s215 trivial ⟨by omega, by omega⟩ (by first | exact x_rb b_x1000 rfl rfl | exact ⟨by omega, by omega⟩) (by first | exact x_rb b_x1001 rfl rfl | exact ⟨by omega, by omega⟩) (by omega) (q216).symm (q217).symm J_s215 TR_s215 X1_s215 R1_s215 G1_s215 G3_s215 W1_s215 VCj_s215 VCl_s215  (by omega)
      · rw [c5]
        refine x_B k231_33 rfl (fun _ => rfl) (fun _ => rfl) (fun _ _ => rfl) ?_
        show xe (some (N, xs)) 231 485 [(0, .ref 2000), (1, .ref 0), (2, .ref 256), (3, vi x3)] [] s 295 10442 _
        refine x_A k231_485 (fun _ => rfl) ?_
        refine x_A k231_486 (fun _ => rfl) ?_
        refine x_A k231_487 (fun _ => rfl) ?_
        refine x_A k231_488 (fun _ => rfl) ?_
        refine x_iadd k231_489 ?_
        refine x_top (fun z222 e_z222 => ?_)
        refine x_scr k231_490 hN ⟨by omega, by omega⟩ (fun z223 g_z223 e_z223 => ?_)
        unfold in32 at g_z223
        refine x_A k231_491 (fun _ => rfl) ?_
        refine x_A k231_492 (fun _ => rfl) ?_
        refine x_A k231_493 (fun _ => rfl) ?_
        refine x_iadd k231_494 ?_
        refine x_top (fun z224 e_z224 => ?_)
        refine x_scr k231_495 hN ⟨by omega, by omega⟩ (fun z225 g_z225 e_z225 => ?_)
        unfold in32 at g_z225
        obtain ⟨z226, e_z226⟩ : ∃ z, z = s 50 6 := ⟨_, rfl⟩
        have g_z226 : (0 : Int) ≤ s 50 6 ∧ s 50 6 ≤ 120 := hG 50 6
        obtain ⟨z227, e_z227⟩ : ∃ z, z = s 0 10 := ⟨_, rfl⟩
        have g_z227 : (0 : Int) ≤ s 0 10 ∧ s 0 10 ≤ 9 := hG 0 10
        refine x_callV k231_496 (y := 100) (n := 2) (w0 := 0) (w1 := 2) (as := [vi z223, vi z225]) (rest := []) (by decide +kernel) (q := 0) (nq := 12) (kq := 3) ⟨by decide, rfl⟩ rfl rfl rfl rfl (xe_mono (W_X10_told_0 s hG i_J z223 (by first | exact x_rbe e_z223 g_z223 rfl rfl | exact x_rb g_z223 rfl rfl | exact ⟨by omega, by omega⟩) z225 (by first | exact x_rbe e_z225 g_z225 rfl rfl | exact x_rb g_z225 rfl rfl | exact ⟨by omega, by omega⟩) ⟨by omega, by omega⟩ ⟨by omega, by omega⟩ i_R1 i_VCj i_VCl) ?_)
        rintro s229 v ⟨hG_s229, t_s229, z228, rfl, g_z228, xp_z228, VCj_s229, VCl_s229⟩
        have q230 : s229 231 3 = x1000 := (t_s229 231 3 (show 2884 ∉ [3329, 3334, 3335, 3336, 3392, 3456, 3520, 3584, 3276, 3648, 3712, 3776, 3840, 3904, 3968, 3277, 4032] from by decide +kernel)).trans e_x1000.symm
        have q231 : s229 256 58 = x1001 := (t_s229 256 58 (show 4155 ∉ [3329, 3334, 3335, 3336, 3392, 3456, 3520, 3584, 3276, 3648, 3712, 3776, 3840, 3904, 3968, 3277, 4032] from by decide +kernel)).trans e_x1001.symm
        have q232 : s229 50 6 = z226 := (t_s229 50 6 (show 711 ∉ [3329, 3334, 3335, 3336, 3392, 3456, 3520, 3584, 3276, 3648, 3712, 3776, 3840, 3904, 3968, 3277, 4032] from by decide +kernel)).trans e_z226.symm
        have q233 : s229 0 10 = z227 := (t_s229 0 10 (show 11 ∉ [3329, 3334, 3335, 3336, 3392, 3456, 3520, 3584, 3276, 3648, 3712, 3776, 3840, 3904, 3968, 3277, 4032] from by decide +kernel)).trans e_z227.symm
        have J_s229 : J s229 := J.fl i_J t_s229 (by decide +kernel)
        have TR_s229 : TR s229 := TR.fl i_TR (hG 256 1).2 t_s229 (by decide)
        have X1_s229 : X1 s229 := X1.fl i_X1 t_s229 (by decide +kernel)
        have R1_s229 : R1 s229 := R1.fl i_R1 t_s229 (by decide +kernel)
        have G1_s229 : G1 s229 := G1.fl i_G1 t_s229 (by decide +kernel)
        have G3_s229 : G3 s229 := G3.fl i_G3 t_s229 (by decide +kernel)
        have W1_s229 : W1 s229 := W1.fl i_W1 t_s229 (by decide +kernel)
        show xe (some (N, xs)) 231 499 [(0, .ref 2000), (1, .ref 0), (2, .ref 256), (3, vi x3)] [vi z228] s229 295 10442 _
        refine x_A k231_499 (fun _ => rfl) ?_
        refine x_A k231_500 (fun _ => rfl) ?_
        refine x_A k231_501 (fun _ => rfl) ?_
        refine x_A k231_502 (fun _ => rfl) ?_
        refine x_A k231_503 (fun _ => rfl) ?_
        refine x_iadd k231_504 ?_
        refine x_top (fun z234 e_z234 => ?_)
        refine x_scr k231_505 hN ⟨by omega, by omega⟩ (fun z235 g_z235 e_z235 => ?_)
        unfold in32 at g_z235
        have q_z235 : z235 = z223 := by rw [e_z235, e_z223, show z234 = z222 by omega]
        refine x_A k231_506 (fun _ => rfl) ?_
        refine x_A k231_507 (fun _ => rfl) ?_
        refine x_A k231_508 (fun _ => rfl) ?_
        refine x_iadd k231_509 ?_
        refine x_top (fun z236 e_z236 => ?_)
        refine x_scr k231_510 hN ⟨by omega, by omega⟩ (fun z237 g_z237 e_z237 => ?_)
        unfold in32 at g_z237
        have q_z237 : z237 = z225 := by rw [e_z237, e_z225, show z236 = z224 by omega]
        refine x_callV k231_511 (y := 158) (n := 2) (w0 := 0) (w1 := 2) (as := [vi z235, vi z237]) (rest := []) (by decide +kernel) (q := 256) (nq := 62) (kq := 15) ⟨by decide, rfl⟩ rfl rfl rfl rfl (xe_mono (E_X11_told_256 s229 hG_s229 J_s229 z235 (by first | exact x_rbe e_z235 g_z235 rfl rfl | exact x_rb g_z235 rfl rfl | exact ⟨by omega, by omega⟩) z237 (by first | exact x_rbe e_z237 g_z237 rfl rfl | exact x_rb g_z237 rfl rfl | exact ⟨by omega, by omega⟩) R1_s229 TR_s229 G1_s229 G3_s229) ?_)
        rintro s239 v ⟨hG_s239, t_s239, z238, rfl, g_z238, xp_z238⟩
        have q240 : s239 231 3 = x1000 := (t_s239 231 3 (show 2884 ∉ [5312, 5376, 4123, 5440, 5504, 5568] from by decide +kernel)).trans q230
        have q241 : s239 256 58 = x1001 := (t_s239 256 58 (show 4155 ∉ [5312, 5376, 4123, 5440, 5504, 5568] from by decide +kernel)).trans q231
        have q242 : s239 50 6 = z226 := (t_s239 50 6 (show 711 ∉ [5312, 5376, 4123, 5440, 5504, 5568] from by decide +kernel)).trans q232
        have q243 : s239 0 10 = z227 := (t_s239 0 10 (show 11 ∉ [5312, 5376, 4123, 5440, 5504, 5568] from by decide +kernel)).trans q233
        have J_s239 : J s239 := J.fl J_s229 t_s239 (by decide +kernel)
        have TR_s239 : TR s239 := TR.fl TR_s229 (hG_s229 256 1).2 t_s239 (by decide)
        have X1_s239 : X1 s239 := X1.fl X1_s229 t_s239 (by decide +kernel)
        have R1_s239 : R1 s239 := R1.fl R1_s229 t_s239 (by decide +kernel)
        have G1_s239 : G1 s239 := G1.fl G1_s229 t_s239 (by decide +kernel)
        have G3_s239 : G3 s239 := G3.fl G3_s229 t_s239 (by decide +kernel)
        have W1_s239 : W1 s239 := W1.fl W1_s229 t_s239 (by decide +kernel)
        have VCj_s239 : VCj s239 := VCj.fl VCj_s229 hG_s229 t_s239 (by decide)
        have VCl_s239 : VCl s239 := VCl.fl VCl_s229 hG_s229 t_s239 (by decide)
        show xe (some (N, xs)) 231 514 [(0, .ref 2000), (1, .ref 0), (2, .ref 256), (3, vi x3)] [vi z238] s239 295 10442 _
        refine x_A k231_514 (fun _ => rfl) ?_
        refine x_goto k231_515 (t := 1300) rfl ?_
        refine x_iinc k231_1300 (ls' := [(3, vi (x3 + 7)), (0, .ref 2000), (1, .ref 0), (2, .ref 256)]) rfl (by decide) rfl ?_
        refine x_goto k231_1303 (t := 18) rfl ?_
        refine x_ls (l := [(0, .ref 2000), (1, .ref 0), (2, .ref 256), (3, vi (x3 + 7))]) (show ([0, 1, 2, 3] : List Nat).Nodup from by decide +kernel) ⟨rfl, rfl, rfl, rfl, trivial⟩ ?_
        exact ih s239 (x3 + 7) x1000 x1001 hG_s239 trivial ⟨by omega, by omega⟩ (by first | exact x_rb b_x1000 rfl rfl | exact ⟨by omega, by omega⟩) (by first | exact x_rb b_x1001 rfl rfl | exact ⟨by omega, by omega⟩) (by omega) (q240).symm (q241).symm J_s239 TR_s239 X1_s239 R1_s239 G1_s239 G3_s239 W1_s239 VCj_s239 VCl_s239  (by omega)
      · rw [c5]
        refine x_B k231_33 rfl (fun _ => rfl) (fun _ => rfl) (fun _ _ => rfl) ?_
        show xe (some (N, xs)) 231 518 [(0, .ref 2000), (1, .ref 0), (2, .ref 256), (3, vi x3)] [] s 295 10442 _
        refine x_A k231_518 (fun _ => rfl) ?_
        refine x_A k231_519 (fun _ => rfl) ?_
        refine x_A k231_520 (fun _ => rfl) ?_
        refine x_A k231_521 (fun _ => rfl) ?_
        refine x_iadd k231_522 ?_
        refine x_top (fun z244 e_z244 => ?_)
        refine x_scr k231_523 hN ⟨by omega, by omega⟩ (fun z245 g_z245 e_z245 => ?_)
        unfold in32 at g_z245
        refine x_A k231_524 (fun _ => rfl) ?_
        refine x_A k231_525 (fun _ => rfl) ?_
        refine x_A k231_526 (fun _ => rfl) ?_
        refine x_iadd k231_527 ?_
        refine x_top (fun z246 e_z246 => ?_)
        refine x_scr k231_528 hN ⟨by omega, by omega⟩ (fun z247 g_z247 e_z247 => ?_)
        unfold in32 at g_z247
        refine x_A k231_529 (fun _ => rfl) ?_
        refine x_A k231_530 (fun _ => rfl) ?_
        refine x_A k231_531 (fun _ => rfl) ?_
        refine x_iadd k231_532 ?_
        refine x_top (fun z248 e_z248 => ?_)
        refine x_scr k231_533 hN ⟨by omega, by omega⟩ (fun z249 g_z249 e_z249 => ?_)
        unfold in32 at g_z249
        refine x_callV k231_534 (y := 101) (n := 3) (w0 := 0) (w1 := 3) (as := [vi z245, vi z247, vi z249]) (rest := []) (by decide +kernel) (q := 0) (nq := 12) (kq := 3) ⟨by decide, rfl⟩ rfl rfl rfl rfl (xe_mono (V_X10_means_0 s hG i_J z245 (by first | exact x_rbe e_z245 g_z245 rfl rfl | exact x_rb g_z245 rfl rfl | exact ⟨by omega, by omega⟩) z247 (by first | exact x_rbe e_z247 g_z247 rfl rfl | exact x_rb g_z247 rfl rfl | exact ⟨by omega, by omega⟩) z249 (by first | exact x_rbe e_z249 g_z249 rfl rfl | exact x_rb g_z249 rfl rfl | exact ⟨by omega, by omega⟩) i_R1 i_VCj i_VCl) ?_)
        rintro s251 v ⟨hG_s251, t_s251, z250, rfl, g_z250, VCj_s251, VCl_s251⟩
        have q252 : s251 231 3 = x1000 := (t_s251 231 3 (show 2884 ∉ [3329, 3334, 3335, 3336, 3392, 3456, 3520, 3584, 3276, 3648, 3712, 3776, 3840, 3904, 3968, 3277, 4032, 1921, 1926, 1927, 1928, 1984, 2048, 2112, 2176] from by decide +kernel)).trans e_x1000.symm
        have q253 : s251 256 58 = x1001 := (t_s251 256 58 (show 4155 ∉ [3329, 3334, 3335, 3336, 3392, 3456, 3520, 3584, 3276, 3648, 3712, 3776, 3840, 3904, 3968, 3277, 4032, 1921, 1926, 1927, 1928, 1984, 2048, 2112, 2176] from by decide +kernel)).trans e_x1001.symm
        have J_s251 : J s251 := J.fl i_J t_s251 (by decide +kernel)
        have TR_s251 : TR s251 := TR.fl i_TR (hG 256 1).2 t_s251 (by decide)
        have X1_s251 : X1 s251 := X1.fl i_X1 t_s251 (by decide +kernel)
        have R1_s251 : R1 s251 := R1.fl i_R1 t_s251 (by decide +kernel)
        have G1_s251 : G1 s251 := G1.fl i_G1 t_s251 (by decide +kernel)
        have G3_s251 : G3 s251 := G3.fl i_G3 t_s251 (by decide +kernel)
        have W1_s251 : W1 s251 := W1.fl i_W1 t_s251 (by decide +kernel)
        show xe (some (N, xs)) 231 537 [(0, .ref 2000), (1, .ref 0), (2, .ref 256), (3, vi x3)] [vi z250] s251 295 10442 _
        refine x_A k231_537 (fun _ => rfl) ?_
        refine x_A k231_538 (fun _ => rfl) ?_
        refine x_A k231_539 (fun _ => rfl) ?_
        refine x_A k231_540 (fun _ => rfl) ?_
        refine x_A k231_541 (fun _ => rfl) ?_
        refine x_iadd k231_542 ?_
        refine x_top (fun z254 e_z254 => ?_)
        refine x_scr k231_543 hN ⟨by omega, by omega⟩ (fun z255 g_z255 e_z255 => ?_)
        unfold in32 at g_z255
        have q_z255 : z255 = z245 := by rw [e_z255, e_z245, show z254 = z244 by omega]
        refine x_A k231_544 (fun _ => rfl) ?_
        refine x_A k231_545 (fun _ => rfl) ?_
        refine x_A k231_546 (fun _ => rfl) ?_
        refine x_iadd k231_547 ?_
        refine x_top (fun z256 e_z256 => ?_)
        refine x_scr k231_548 hN ⟨by omega, by omega⟩ (fun z257 g_z257 e_z257 => ?_)
        unfold in32 at g_z257
        have q_z257 : z257 = z247 := by rw [e_z257, e_z247, show z256 = z246 by omega]
        refine x_A k231_549 (fun _ => rfl) ?_
        refine x_A k231_550 (fun _ => rfl) ?_
        refine x_A k231_551 (fun _ => rfl) ?_
        refine x_iadd k231_552 ?_
        refine x_top (fun z258 e_z258 => ?_)
        refine x_scr k231_553 hN ⟨by omega, by omega⟩ (fun z259 g_z259 e_z259 => ?_)
        unfold in32 at g_z259
        have q_z259 : z259 = z249 := by rw [e_z259, e_z249, show z258 = z248 by omega]
        refine x_callV k231_554 (y := 172) (n := 3) (w0 := 0) (w1 := 3) (as := [vi z255, vi z257, vi z259]) (rest := []) (by decide +kernel) (q := 256) (nq := 62) (kq := 15) ⟨by decide, rfl⟩ rfl rfl rfl rfl (xe_mono (C_X11_means_256 s251 hG_s251 J_s251 z255 (by first | exact x_rbe e_z255 g_z255 rfl rfl | exact x_rb g_z255 rfl rfl | exact ⟨by omega, by omega⟩) z257 (by first | exact x_rbe e_z257 g_z257 rfl rfl | exact x_rb g_z257 rfl rfl | exact ⟨by omega, by omega⟩) z259 (by first | exact x_rbe e_z259 g_z259 rfl rfl | exact x_rb g_z259 rfl rfl | exact ⟨by omega, by omega⟩)) ?_)
        rintro s261 v ⟨hG_s261, t_s261, z260, rfl, g_z260⟩
        have q262 : s261 231 3 = x1000 := (t_s261 231 3 (show 2884 ∉ [5312, 5376, 4123, 5440, 5504, 5568, 5632, 5696, 5760] from by decide +kernel)).trans q252
        have q263 : s261 256 58 = x1001 := (t_s261 256 58 (show 4155 ∉ [5312, 5376, 4123, 5440, 5504, 5568, 5632, 5696, 5760] from by decide +kernel)).trans q253
        have J_s261 : J s261 := J.fl J_s251 t_s261 (by decide +kernel)
        have TR_s261 : TR s261 := TR.fl TR_s251 (hG_s251 256 1).2 t_s261 (by decide)
        have X1_s261 : X1 s261 := X1.fl X1_s251 t_s261 (by decide +kernel)
        have R1_s261 : R1 s261 := R1.fl R1_s251 t_s261 (by decide +kernel)
        have G1_s261 : G1 s261 := G1.fl G1_s251 t_s261 (by decide +kernel)
        have G3_s261 : G3 s261 := G3.fl G3_s251 t_s261 (by decide +kernel)
        have W1_s261 : W1 s261 := W1.fl W1_s251 t_s261 (by decide +kernel)
        have VCj_s261 : VCj s261 := VCj.fl VCj_s251 hG_s251 t_s261 (by decide)
        have VCl_s261 : VCl s261 := VCl.fl VCl_s251 hG_s251 t_s261 (by decide)
        show xe (some (N, xs)) 231 557 [(0, .ref 2000), (1, .ref 0), (2, .ref 256), (3, vi x3)] [vi z260] s261 295 10442 _
        refine x_A k231_557 (fun _ => rfl) ?_
        refine x_goto k231_558 (t := 1300) rfl ?_
        refine x_iinc k231_1300 (ls' := [(3, vi (x3 + 7)), (0, .ref 2000), (1, .ref 0), (2, .ref 256)]) rfl (by decide) rfl ?_
        refine x_goto k231_1303 (t := 18) rfl ?_
        refine x_ls (l := [(0, .ref 2000), (1, .ref 0), (2, .ref 256), (3, vi (x3 + 7))]) (show ([0, 1, 2, 3] : List Nat).Nodup from by decide +kernel) ⟨rfl, rfl, rfl, rfl, trivial⟩ ?_
        exact ih s261 (x3 + 7) x1000 x1001 hG_s261 trivial ⟨by omega, by omega⟩ (by first | exact x_rb b_x1000 rfl rfl | exact ⟨by omega, by omega⟩) (by first | exact x_rb b_x1001 rfl rfl | exact ⟨by omega, by omega⟩) (by omega) (q262).symm (q263).symm J_s261 TR_s261 X1_s261 R1_s261 G1_s261 G3_s261 W1_s261 VCj_s261 VCl_s261  (by omega)
      · rw [c5]
        refine x_B k231_33 rfl (fun _ => rfl) (fun _ => rfl) (fun _ _ => rfl) ?_
        show xe (some (N, xs)) 231 561 [(0, .ref 2000), (1, .ref 0), (2, .ref 256), (3, vi x3)] [] s 295 10442 _
        refine x_A k231_561 (fun _ => rfl) ?_
        refine x_A k231_562 (fun _ => rfl) ?_
        refine x_A k231_563 (fun _ => rfl) ?_
        refine x_A k231_564 (fun _ => rfl) ?_
        refine x_iadd k231_565 ?_
        refine x_top (fun z264 e_z264 => ?_)
        refine x_scr k231_566 hN ⟨by omega, by omega⟩ (fun z265 g_z265 e_z265 => ?_)
        unfold in32 at g_z265
        refine x_A k231_567 (fun _ => rfl) ?_
        refine x_A k231_568 (fun _ => rfl) ?_
        refine x_A k231_569 (fun _ => rfl) ?_
        refine x_iadd k231_570 ?_
        refine x_top (fun z266 e_z266 => ?_)
        refine x_scr k231_571 hN ⟨by omega, by omega⟩ (fun z267 g_z267 e_z267 => ?_)
        unfold in32 at g_z267
        refine x_A k231_572 (fun _ => rfl) ?_
        refine x_A k231_573 (fun _ => rfl) ?_
        refine x_A k231_574 (fun _ => rfl) ?_
        refine x_iadd k231_575 ?_
        refine x_top (fun z268 e_z268 => ?_)
        refine x_scr k231_576 hN ⟨by omega, by omega⟩ (fun z269 g_z269 e_z269 => ?_)
        unfold in32 at g_z269
        refine x_callV k231_577 (y := 102) (n := 3) (w0 := 0) (w1 := 3) (as := [vi z265, vi z267, vi z269]) (rest := []) (by decide +kernel) (q := 0) (nq := 12) (kq := 3) ⟨by decide, rfl⟩ rfl rfl rfl rfl (xe_mono (V_X10_led_0 s hG i_J z265 (by first | exact x_rbe e_z265 g_z265 rfl rfl | exact x_rb g_z265 rfl rfl | exact ⟨by omega, by omega⟩) z267 (by first | exact x_rbe e_z267 g_z267 rfl rfl | exact x_rb g_z267 rfl rfl | exact ⟨by omega, by omega⟩) z269 (by first | exact x_rbe e_z269 g_z269 rfl rfl | exact x_rb g_z269 rfl rfl | exact ⟨by omega, by omega⟩) i_R1 i_VCj i_VCl) ?_)
        rintro s271 v ⟨hG_s271, t_s271, z270, rfl, g_z270, VCj_s271, VCl_s271⟩
        have q272 : s271 231 3 = x1000 := (t_s271 231 3 (show 2884 ∉ [3329, 3334, 3335, 3336, 3392, 3456, 3520, 3584, 3276, 3648, 3712, 3776, 3840, 3904, 3968, 3277, 4032] from by decide +kernel)).trans e_x1000.symm
        have q273 : s271 256 58 = x1001 := (t_s271 256 58 (show 4155 ∉ [3329, 3334, 3335, 3336, 3392, 3456, 3520, 3584, 3276, 3648, 3712, 3776, 3840, 3904, 3968, 3277, 4032] from by decide +kernel)).trans e_x1001.symm
        have J_s271 : J s271 := J.fl i_J t_s271 (by decide +kernel)
        have TR_s271 : TR s271 := TR.fl i_TR (hG 256 1).2 t_s271 (by decide)
        have X1_s271 : X1 s271 := X1.fl i_X1 t_s271 (by decide +kernel)
        have R1_s271 : R1 s271 := R1.fl i_R1 t_s271 (by decide +kernel)
        have G1_s271 : G1 s271 := G1.fl i_G1 t_s271 (by decide +kernel)
        have G3_s271 : G3 s271 := G3.fl i_G3 t_s271 (by decide +kernel)
        have W1_s271 : W1 s271 := W1.fl i_W1 t_s271 (by decide +kernel)
        show xe (some (N, xs)) 231 580 [(0, .ref 2000), (1, .ref 0), (2, .ref 256), (3, vi x3)] [vi z270] s271 295 10442 _
        refine x_A k231_580 (fun _ => rfl) ?_
        refine x_A k231_581 (fun _ => rfl) ?_
        refine x_A k231_582 (fun _ => rfl) ?_
        refine x_A k231_583 (fun _ => rfl) ?_
        refine x_A k231_584 (fun _ => rfl) ?_
        refine x_iadd k231_585 ?_
        refine x_top (fun z274 e_z274 => ?_)
        refine x_scr k231_586 hN ⟨by omega, by omega⟩ (fun z275 g_z275 e_z275 => ?_)
        unfold in32 at g_z275
        have q_z275 : z275 = z265 := by rw [e_z275, e_z265, show z274 = z264 by omega]
        refine x_A k231_587 (fun _ => rfl) ?_
        refine x_A k231_588 (fun _ => rfl) ?_
        refine x_A k231_589 (fun _ => rfl) ?_
        refine x_iadd k231_590 ?_
        refine x_top (fun z276 e_z276 => ?_)
        refine x_scr k231_591 hN ⟨by omega, by omega⟩ (fun z277 g_z277 e_z277 => ?_)
        unfold in32 at g_z277
        have q_z277 : z277 = z267 := by rw [e_z277, e_z267, show z276 = z266 by omega]
        refine x_A k231_592 (fun _ => rfl) ?_
        refine x_A k231_593 (fun _ => rfl) ?_
        refine x_A k231_594 (fun _ => rfl) ?_
        refine x_iadd k231_595 ?_
        refine x_top (fun z278 e_z278 => ?_)
        refine x_scr k231_596 hN ⟨by omega, by omega⟩ (fun z279 g_z279 e_z279 => ?_)
        unfold in32 at g_z279
        have q_z279 : z279 = z269 := by rw [e_z279, e_z269, show z278 = z268 by omega]
        refine x_callV k231_597 (y := 173) (n := 3) (w0 := 0) (w1 := 3) (as := [vi z275, vi z277, vi z279]) (rest := []) (by decide +kernel) (q := 256) (nq := 62) (kq := 15) ⟨by decide, rfl⟩ rfl rfl rfl rfl (xe_mono (C_X11_led_256 s271 hG_s271 J_s271 z275 (by first | exact x_rbe e_z275 g_z275 rfl rfl | exact x_rb g_z275 rfl rfl | exact ⟨by omega, by omega⟩) z277 (by first | exact x_rbe e_z277 g_z277 rfl rfl | exact x_rb g_z277 rfl rfl | exact ⟨by omega, by omega⟩) z279 (by first | exact x_rbe e_z279 g_z279 rfl rfl | exact x_rb g_z279 rfl rfl | exact ⟨by omega, by omega⟩)) ?_)
        rintro s281 v ⟨hG_s281, t_s281, z280, rfl, g_z280⟩
        have q282 : s281 231 3 = x1000 := (t_s281 231 3 (show 2884 ∉ [5312, 5376, 4123, 5440, 5504, 5568, 5632, 5696, 5760] from by decide +kernel)).trans q272
        have q283 : s281 256 58 = x1001 := (t_s281 256 58 (show 4155 ∉ [5312, 5376, 4123, 5440, 5504, 5568, 5632, 5696, 5760] from by decide +kernel)).trans q273
        have J_s281 : J s281 := J.fl J_s271 t_s281 (by decide +kernel)
        have TR_s281 : TR s281 := TR.fl TR_s271 (hG_s271 256 1).2 t_s281 (by decide)
        have X1_s281 : X1 s281 := X1.fl X1_s271 t_s281 (by decide +kernel)
        have R1_s281 : R1 s281 := R1.fl R1_s271 t_s281 (by decide +kernel)
        have G1_s281 : G1 s281 := G1.fl G1_s271 t_s281 (by decide +kernel)
        have G3_s281 : G3 s281 := G3.fl G3_s271 t_s281 (by decide +kernel)
        have W1_s281 : W1 s281 := W1.fl W1_s271 t_s281 (by decide +kernel)
        have VCj_s281 : VCj s281 := VCj.fl VCj_s271 hG_s271 t_s281 (by decide)
        have VCl_s281 : VCl s281 := VCl.fl VCl_s271 hG_s271 t_s281 (by decide)
        show xe (some (N, xs)) 231 600 [(0, .ref 2000), (1, .ref 0), (2, .ref 256), (3, vi x3)] [vi z280] s281 295 10442 _
        refine x_A k231_600 (fun _ => rfl) ?_
        refine x_goto k231_601 (t := 1300) rfl ?_
        refine x_iinc k231_1300 (ls' := [(3, vi (x3 + 7)), (0, .ref 2000), (1, .ref 0), (2, .ref 256)]) rfl (by decide) rfl ?_
        refine x_goto k231_1303 (t := 18) rfl ?_
        refine x_ls (l := [(0, .ref 2000), (1, .ref 0), (2, .ref 256), (3, vi (x3 + 7))]) (show ([0, 1, 2, 3] : List Nat).Nodup from by decide +kernel) ⟨rfl, rfl, rfl, rfl, trivial⟩ ?_
        exact ih s281 (x3 + 7) x1000 x1001 hG_s281 trivial ⟨by omega, by omega⟩ (by first | exact x_rb b_x1000 rfl rfl | exact ⟨by omega, by omega⟩) (by first | exact x_rb b_x1001 rfl rfl | exact ⟨by omega, by omega⟩) (by omega) (q282).symm (q283).symm J_s281 TR_s281 X1_s281 R1_s281 G1_s281 G3_s281 W1_s281 VCj_s281 VCl_s281  (by omega)
      · rw [c5]
        refine x_B k231_33 rfl (fun _ => rfl) (fun _ => rfl) (fun _ _ => rfl) ?_
        show xe (some (N, xs)) 231 604 [(0, .ref 2000), (1, .ref 0), (2, .ref 256), (3, vi x3)] [] s 295 10442 _
        refine x_A k231_604 (fun _ => rfl) ?_
        refine x_A k231_605 (fun _ => rfl) ?_
        refine x_A k231_606 (fun _ => rfl) ?_
        refine x_A k231_607 (fun _ => rfl) ?_
        refine x_iadd k231_608 ?_
        refine x_top (fun z284 e_z284 => ?_)
        refine x_scr k231_609 hN ⟨by omega, by omega⟩ (fun z285 g_z285 e_z285 => ?_)
        unfold in32 at g_z285
        obtain ⟨z286, e_z286⟩ : ∃ z, z = s 0 10 := ⟨_, rfl⟩
        have g_z286 : (0 : Int) ≤ s 0 10 ∧ s 0 10 ≤ 9 := hG 0 10
        refine x_callV k231_610 (y := 103) (n := 1) (w0 := 0) (w1 := 1) (as := [vi z285]) (rest := []) (by decide +kernel) (q := 0) (nq := 12) (kq := 3) ⟨by decide, rfl⟩ rfl rfl rfl rfl (xe_mono (W_X10_count_0 s hG i_J z285 (by first | exact x_rbe e_z285 g_z285 rfl rfl | exact x_rb g_z285 rfl rfl | exact ⟨by omega, by omega⟩) ⟨by omega, by omega⟩ i_R1 (fun g g0 g1 => (i_G3.2 g g0 (by have gg : (0 : Int) ≤ s 50 6 ∧ s 50 6 ≤ 120 := hG 50 6; omega) g1).2.2.2) i_VCj i_VCl) ?_)
        rintro s288 v ⟨hG_s288, t_s288, z287, rfl, g_z287, xp_z287, VCj_s288, VCl_s288⟩
        have q289 : s288 231 3 = x1000 := (t_s288 231 3 (show 2884 ∉ [3329, 3334, 3335, 3336, 3392, 3456, 3520, 3584, 3276, 3648, 3712, 3776, 3840, 3904, 3968, 3277, 4032, 1921, 1926, 1927, 1928, 1984, 2048, 2112, 2176] from by decide +kernel)).trans e_x1000.symm
        have q290 : s288 256 58 = x1001 := (t_s288 256 58 (show 4155 ∉ [3329, 3334, 3335, 3336, 3392, 3456, 3520, 3584, 3276, 3648, 3712, 3776, 3840, 3904, 3968, 3277, 4032, 1921, 1926, 1927, 1928, 1984, 2048, 2112, 2176] from by decide +kernel)).trans e_x1001.symm
        have q291 : s288 0 10 = z286 := (t_s288 0 10 (show 11 ∉ [3329, 3334, 3335, 3336, 3392, 3456, 3520, 3584, 3276, 3648, 3712, 3776, 3840, 3904, 3968, 3277, 4032, 1921, 1926, 1927, 1928, 1984, 2048, 2112, 2176] from by decide +kernel)).trans e_z286.symm
        have J_s288 : J s288 := J.fl i_J t_s288 (by decide +kernel)
        have TR_s288 : TR s288 := TR.fl i_TR (hG 256 1).2 t_s288 (by decide)
        have X1_s288 : X1 s288 := X1.fl i_X1 t_s288 (by decide +kernel)
        have R1_s288 : R1 s288 := R1.fl i_R1 t_s288 (by decide +kernel)
        have G1_s288 : G1 s288 := G1.fl i_G1 t_s288 (by decide +kernel)
        have G3_s288 : G3 s288 := G3.fl i_G3 t_s288 (by decide +kernel)
        have W1_s288 : W1 s288 := W1.fl i_W1 t_s288 (by decide +kernel)
        show xe (some (N, xs)) 231 613 [(0, .ref 2000), (1, .ref 0), (2, .ref 256), (3, vi x3)] [vi z287] s288 295 10442 _
        refine x_A k231_613 (fun _ => rfl) ?_
        refine x_A k231_614 (fun _ => rfl) ?_
        refine x_A k231_615 (fun _ => rfl) ?_
        refine x_A k231_616 (fun _ => rfl) ?_
        refine x_iadd k231_617 ?_
        refine x_top (fun z292 e_z292 => ?_)
        refine x_scr k231_618 hN ⟨by omega, by omega⟩ (fun z293 g_z293 e_z293 => ?_)
        unfold in32 at g_z293
        have q_z293 : z293 = z285 := by rw [e_z293, e_z285, show z292 = z284 by omega]
        obtain ⟨z294, e_z294⟩ : ∃ z, z = s288 256 0 := ⟨_, rfl⟩
        have g_z294 : (0 : Int) ≤ s288 256 0 ∧ s288 256 0 ≤ 9 := hG_s288 256 0
        refine x_callV k231_619 (y := 174) (n := 1) (w0 := 1) (w1 := 1) (as := [vi z293]) (rest := [vi z287]) (by decide +kernel) (q := 256) (nq := 62) (kq := 15) ⟨by decide, rfl⟩ rfl rfl rfl rfl (xe_mono (W_X11_count_256 s288 hG_s288 J_s288 z293 (by first | exact x_rbe e_z293 g_z293 rfl rfl | exact x_rb g_z293 rfl rfl | exact ⟨by omega, by omega⟩) ⟨by omega, by omega⟩ R1_s288 TR_s288 G1_s288 G3_s288 X1_s288 W1_s288 (by omega)) ?_)
        rintro s296 v ⟨hG_s296, t_s296, z295, rfl, g_z295, xp_z295⟩
        have q297 : s296 231 3 = x1000 := (t_s296 231 3 (show 2884 ∉ [5312, 5376, 4123, 5440, 5504, 5568, 5632, 5696, 5760] from by decide +kernel)).trans q289
        have q298 : s296 256 58 = x1001 := (t_s296 256 58 (show 4155 ∉ [5312, 5376, 4123, 5440, 5504, 5568, 5632, 5696, 5760] from by decide +kernel)).trans q290
        have q299 : s296 0 10 = z286 := (t_s296 0 10 (show 11 ∉ [5312, 5376, 4123, 5440, 5504, 5568, 5632, 5696, 5760] from by decide +kernel)).trans q291
        have q300 : s296 256 0 = z294 := (t_s296 256 0 (show 4097 ∉ [5312, 5376, 4123, 5440, 5504, 5568, 5632, 5696, 5760] from by decide +kernel)).trans e_z294.symm
        have J_s296 : J s296 := J.fl J_s288 t_s296 (by decide +kernel)
        have TR_s296 : TR s296 := TR.fl TR_s288 (hG_s288 256 1).2 t_s296 (by decide)
        have X1_s296 : X1 s296 := X1.fl X1_s288 t_s296 (by decide +kernel)
        have R1_s296 : R1 s296 := R1.fl R1_s288 t_s296 (by decide +kernel)
        have G1_s296 : G1 s296 := G1.fl G1_s288 t_s296 (by decide +kernel)
        have G3_s296 : G3 s296 := G3.fl G3_s288 t_s296 (by decide +kernel)
        have W1_s296 : W1 s296 := W1.fl W1_s288 t_s296 (by decide +kernel)
        have VCj_s296 : VCj s296 := VCj.fl VCj_s288 hG_s288 t_s296 (by decide)
        have VCl_s296 : VCl s296 := VCl.fl VCl_s288 hG_s288 t_s296 (by decide)
        show xe (some (N, xs)) 231 622 [(0, .ref 2000), (1, .ref 0), (2, .ref 256), (3, vi x3)] [vi z295, vi z287] s296 295 10442 _
        have ez_s296 := CoS.u xp_z287 (CoS.fl (by rw [← q_z293]; exact xp_z295) hG t_s288 (by decide))
        refine x_ic_eq k231_622 (t := 1300) rfl (by first | exact x_rbe e_z287 g_z287 rfl rfl | exact x_rb g_z287 rfl rfl | exact ⟨by omega, by omega⟩) (by first | exact x_rbe e_z295 g_z295 rfl rfl | exact x_rb g_z295 rfl rfl | exact ⟨by omega, by omega⟩) (fun c301 => ?_) (fun c301 => ?_)
        · skip
          refine x_iinc k231_1300 (ls' := [(3, vi (x3 + 7)), (0, .ref 2000), (1, .ref 0), (2, .ref 256)]) rfl (by decide) rfl ?_
          refine x_goto k231_1303 (t := 18) rfl ?_
          refine x_ls (l := [(0, .ref 2000), (1, .ref 0), (2, .ref 256), (3, vi (x3 + 7))]) (show ([0, 1, 2, 3] : List Nat).Nodup from by decide +kernel) ⟨rfl, rfl, rfl, rfl, trivial⟩ ?_
          exact ih s296 (x3 + 7) x1000 x1001 hG_s296 trivial ⟨by omega, by omega⟩ (by first | exact x_rb b_x1000 rfl rfl | exact ⟨by omega, by omega⟩) (by first | exact x_rb b_x1001 rfl rfl | exact ⟨by omega, by omega⟩) (by omega) (q297).symm (q298).symm J_s296 TR_s296 X1_s296 R1_s296 G1_s296 G3_s296 W1_s296 VCj_s296 VCl_s296  (by omega)
        · skip
          refine x_A k231_625 (fun _ => rfl) ?_
          exfalso; omega
      · rw [c5]
        refine x_B k231_33 rfl (fun _ => rfl) (fun _ => rfl) (fun _ _ => rfl) ?_
        show xe (some (N, xs)) 231 627 [(0, .ref 2000), (1, .ref 0), (2, .ref 256), (3, vi x3)] [] s 295 10442 _
        refine x_A k231_627 (fun _ => rfl) ?_
        refine x_A k231_628 (fun _ => rfl) ?_
        refine x_A k231_629 (fun _ => rfl) ?_
        refine x_A k231_630 (fun _ => rfl) ?_
        refine x_iadd k231_631 ?_
        refine x_top (fun z302 e_z302 => ?_)
        refine x_scr k231_632 hN ⟨by omega, by omega⟩ (fun z303 g_z303 e_z303 => ?_)
        unfold in32 at g_z303
        refine x_A k231_633 (fun _ => rfl) ?_
        refine x_A k231_634 (fun _ => rfl) ?_
        refine x_A k231_635 (fun _ => rfl) ?_
        refine x_iadd k231_636 ?_
        refine x_top (fun z304 e_z304 => ?_)
        refine x_scr k231_637 hN ⟨by omega, by omega⟩ (fun z305 g_z305 e_z305 => ?_)
        unfold in32 at g_z305
        refine x_i2l k231_638 (by first | exact x_rbe e_z305 g_z305 rfl rfl | exact x_rb g_z305 rfl rfl | exact ⟨by omega, by omega⟩) ?_
        refine x_bipush k231_639 (by decide +kernel) ?_
        refine x_lshl_f k231_641 (fun z306 b_z306 e_z306 => ?_)
        refine x_A k231_642 (fun _ => rfl) ?_
        refine x_A k231_643 (fun _ => rfl) ?_
        refine x_A k231_644 (fun _ => rfl) ?_
        refine x_iadd k231_645 ?_
        refine x_top (fun z307 e_z307 => ?_)
        refine x_scr k231_646 hN ⟨by omega, by omega⟩ (fun z308 g_z308 e_z308 => ?_)
        unfold in32 at g_z308
        refine x_i2l k231_647 (by first | exact x_rbe e_z308 g_z308 rfl rfl | exact x_rb g_z308 rfl rfl | exact ⟨by omega, by omega⟩) ?_
        refine x_ldc2 k231_648 (z := 4294967295) rfl (by decide +kernel) ?_
        refine x_land_f k231_651 (fun z309 b_z309 e_z309 => ?_)
        refine x_lor_f k231_652 (fun z310 b_z310 e_z310 => ?_)
        refine x_callV k231_653 (y := 104) (n := 2) (w0 := 0) (w1 := 3) (as := [vi z303, vj z310]) (rest := []) (by decide +kernel) (q := 0) (nq := 12) (kq := 3) ⟨by decide, rfl⟩ rfl rfl rfl rfl (xe_mono (E_X10_feed_0 s hG z303 (by first | exact x_rbe e_z303 g_z303 rfl rfl | exact x_rb g_z303 rfl rfl | exact ⟨by omega, by omega⟩) z310 b_z310) ?_)
        rintro s312 v ⟨hG_s312, t_s312, z311, rfl, g_z311, xp_z311⟩
        have q313 : s312 231 3 = x1000 := (t_s312 231 3 (show 2884 ∉ [1218, 1280] from by decide +kernel)).trans e_x1000.symm
        have q314 : s312 256 58 = x1001 := (t_s312 256 58 (show 4155 ∉ [1218, 1280] from by decide +kernel)).trans e_x1001.symm
        have J_s312 : J s312 := J.fl i_J t_s312 (by decide +kernel)
        have TR_s312 : TR s312 := TR.fl i_TR (hG 256 1).2 t_s312 (by decide)
        have R1_s312 : R1 s312 := R1.fl i_R1 t_s312 (by decide +kernel)
        have G1_s312 : G1 s312 := G1.fl i_G1 t_s312 (by decide +kernel)
        have G3_s312 : G3 s312 := G3.fl i_G3 t_s312 (by decide +kernel)
        have W1_s312 : W1 s312 := W1.fl i_W1 t_s312 (by decide +kernel)
        have VCj_s312 : VCj s312 := VCj.fl i_VCj hG t_s312 (by decide)
        have VCl_s312 : VCl s312 := VCl.fl i_VCl hG t_s312 (by decide)
        obtain ⟨z315, e_z315⟩ : ∃ z, z = s312 177 1 := ⟨_, rfl⟩
        have g_z315 : (0 : Int) ≤ s312 177 1 ∧ s312 177 1 ≤ 160 := hG_s312 177 1
        show xe (some (N, xs)) 231 656 [(0, .ref 2000), (1, .ref 0), (2, .ref 256), (3, vi x3)] [vi z311] s312 295 10442 _
        refine x_A k231_656 (fun _ => rfl) ?_
        refine x_A k231_657 (fun _ => rfl) ?_
        refine x_A k231_658 (fun _ => rfl) ?_
        refine x_A k231_659 (fun _ => rfl) ?_
        refine x_A k231_660 (fun _ => rfl) ?_
        refine x_iadd k231_661 ?_
        refine x_top (fun z316 e_z316 => ?_)
        refine x_scr k231_662 hN ⟨by omega, by omega⟩ (fun z317 g_z317 e_z317 => ?_)
        unfold in32 at g_z317
        have q_z317 : z317 = z303 := by rw [e_z317, e_z303, show z316 = z302 by omega]
        refine x_A k231_663 (fun _ => rfl) ?_
        refine x_A k231_664 (fun _ => rfl) ?_
        refine x_A k231_665 (fun _ => rfl) ?_
        refine x_iadd k231_666 ?_
        refine x_top (fun z318 e_z318 => ?_)
        refine x_scr k231_667 hN ⟨by omega, by omega⟩ (fun z319 g_z319 e_z319 => ?_)
        unfold in32 at g_z319
        have q_z319 : z319 = z305 := by rw [e_z319, e_z305, show z318 = z304 by omega]
        refine x_i2l k231_668 (by first | exact x_rbe e_z319 g_z319 rfl rfl | exact x_rb g_z319 rfl rfl | exact ⟨by omega, by omega⟩) ?_
        refine x_bipush k231_669 (by decide +kernel) ?_
        refine x_lshl_f k231_671 (fun z320 b_z320 e_z320 => ?_)
        refine x_A k231_672 (fun _ => rfl) ?_
        refine x_A k231_673 (fun _ => rfl) ?_
        refine x_A k231_674 (fun _ => rfl) ?_
        refine x_iadd k231_675 ?_
        refine x_top (fun z321 e_z321 => ?_)
        refine x_scr k231_676 hN ⟨by omega, by omega⟩ (fun z322 g_z322 e_z322 => ?_)
        unfold in32 at g_z322
        have q_z322 : z322 = z308 := by rw [e_z322, e_z308, show z321 = z307 by omega]
        refine x_i2l k231_677 (by first | exact x_rbe e_z322 g_z322 rfl rfl | exact x_rb g_z322 rfl rfl | exact ⟨by omega, by omega⟩) ?_
        refine x_ldc2 k231_678 (z := 4294967295) rfl (by decide +kernel) ?_
        refine x_land_f k231_681 (fun z323 b_z323 e_z323 => ?_)
        refine x_lor_f k231_682 (fun z324 b_z324 e_z324 => ?_)
        refine x_callV k231_683 (y := 175) (n := 2) (w0 := 0) (w1 := 3) (as := [vi z317, vj z324]) (rest := []) (by decide +kernel) (q := 256) (nq := 62) (kq := 15) ⟨by decide, rfl⟩ rfl rfl rfl rfl (xe_mono (E_X11_feed_256 s312 hG_s312 z317 (by first | exact x_rbe e_z317 g_z317 rfl rfl | exact x_rb g_z317 rfl rfl | exact ⟨by omega, by omega⟩) z324 b_z324) ?_)
        rintro s326 v ⟨hG_s326, t_s326, z325, rfl, g_z325, xp_z325⟩
        have q327 : s326 231 3 = x1000 := (t_s326 231 3 (show 2884 ∉ [4131, 5824] from by decide +kernel)).trans q313
        have q328 : s326 256 58 = x1001 := (t_s326 256 58 (show 4155 ∉ [4131, 5824] from by decide +kernel)).trans q314
        have q329 : s326 177 1 = z315 := (t_s326 177 1 (show 1218 ∉ [4131, 5824] from by decide +kernel)).trans e_z315.symm
        have J_s326 : J s326 := J.fl J_s312 t_s326 (by decide +kernel)
        have TR_s326 : TR s326 := TR.fl TR_s312 (hG_s312 256 1).2 t_s326 (by decide)
        have R1_s326 : R1 s326 := R1.fl R1_s312 t_s326 (by decide +kernel)
        have G1_s326 : G1 s326 := G1.fl G1_s312 t_s326 (by decide +kernel)
        have G3_s326 : G3 s326 := G3.fl G3_s312 t_s326 (by decide +kernel)
        have W1_s326 : W1 s326 := W1.fl W1_s312 t_s326 (by decide +kernel)
        have VCj_s326 : VCj s326 := VCj.fl VCj_s312 hG_s312 t_s326 (by decide)
        have VCl_s326 : VCl s326 := VCl.fl VCl_s312 hG_s312 t_s326 (by decide)
        obtain ⟨z330, e_z330⟩ : ∃ z, z = s326 256 34 := ⟨_, rfl⟩
        have g_z330 : (0 : Int) ≤ s326 256 34 ∧ s326 256 34 ≤ 160 := hG_s326 256 34
        show xe (some (N, xs)) 231 686 [(0, .ref 2000), (1, .ref 0), (2, .ref 256), (3, vi x3)] [vi z325] s326 295 10442 _
        have q_z324 : z324 = z310 := by rw [e_z324, e_z310, e_z320, e_z306, e_z323, e_z309, q_z319, q_z322]
        obtain ⟨ez_s326, X1_s326⟩ := X1.feed i_X1 t_s312 t_s326 (by decide) (by decide) xp_z311 (by rw [← q_z317, ← q_z324]; exact xp_z325)
        refine x_A k231_686 (fun _ => rfl) ?_
        refine x_goto k231_687 (t := 1300) rfl ?_
        refine x_iinc k231_1300 (ls' := [(3, vi (x3 + 7)), (0, .ref 2000), (1, .ref 0), (2, .ref 256)]) rfl (by decide) rfl ?_
        refine x_goto k231_1303 (t := 18) rfl ?_
        refine x_ls (l := [(0, .ref 2000), (1, .ref 0), (2, .ref 256), (3, vi (x3 + 7))]) (show ([0, 1, 2, 3] : List Nat).Nodup from by decide +kernel) ⟨rfl, rfl, rfl, rfl, trivial⟩ ?_
        exact ih s326 (x3 + 7) x1000 x1001 hG_s326 trivial ⟨by omega, by omega⟩ (by first | exact x_rb b_x1000 rfl rfl | exact ⟨by omega, by omega⟩) (by first | exact x_rb b_x1001 rfl rfl | exact ⟨by omega, by omega⟩) (by omega) (q327).symm (q328).symm J_s326 TR_s326 X1_s326 R1_s326 G1_s326 G3_s326 W1_s326 VCj_s326 VCl_s326  (by omega)
      · rw [c5]
        refine x_B k231_33 rfl (fun _ => rfl) (fun _ => rfl) (fun _ _ => rfl) ?_
        show xe (some (N, xs)) 231 690 [(0, .ref 2000), (1, .ref 0), (2, .ref 256), (3, vi x3)] [] s 295 10442 _
        refine x_A k231_690 (fun _ => rfl) ?_
        refine x_A k231_691 (fun _ => rfl) ?_
        refine x_A k231_692 (fun _ => rfl) ?_
        refine x_A k231_693 (fun _ => rfl) ?_
        refine x_iadd k231_694 ?_
        refine x_top (fun z331 e_z331 => ?_)
        refine x_scr k231_695 hN ⟨by omega, by omega⟩ (fun z332 g_z332 e_z332 => ?_)
        unfold in32 at g_z332
        refine x_callV k231_696 (y := 105) (n := 1) (w0 := 0) (w1 := 1) (as := [vi z332]) (rest := []) (by decide +kernel) (q := 0) (nq := 12) (kq := 3) ⟨by decide, rfl⟩ rfl rfl rfl rfl (xe_mono (V_X10_rule_0 s hG z332 (by first | exact x_rbe e_z332 g_z332 rfl rfl | exact x_rb g_z332 rfl rfl | exact ⟨by omega, by omega⟩) i_J i_VCj i_VCl) ?_)
        rintro s334 v ⟨hG_s334, t_s334, z333, rfl, g_z333, xp_z333, J_s334, VCj_s334, VCl_s334⟩
        have q335 : s334 231 3 = x1000 := (t_s334 231 3 (show 2884 ∉ [1219, 1220, 1221, 1222, 1223, 1600, 1728, 1856, 1408, 1472, 1350, 3276, 3277, 12, 1218] from by decide +kernel)).trans e_x1000.symm
        have q336 : s334 256 58 = x1001 := (t_s334 256 58 (show 4155 ∉ [1219, 1220, 1221, 1222, 1223, 1600, 1728, 1856, 1408, 1472, 1350, 3276, 3277, 12, 1218] from by decide +kernel)).trans e_x1001.symm
        have TR_s334 : TR s334 := TR.fl i_TR (hG 256 1).2 t_s334 (by decide)
        have G1_s334 : G1 s334 := G1.fl i_G1 t_s334 (by decide +kernel)
        have G3_s334 : G3 s334 := G3.fl i_G3 t_s334 (by decide +kernel)
        have W1_s334 : W1 s334 := W1.fl i_W1 t_s334 (by decide +kernel)
        obtain ⟨z337, e_z337⟩ : ∃ z, z = s334 177 1 := ⟨_, rfl⟩
        have g_z337 : (0 : Int) ≤ s334 177 1 ∧ s334 177 1 ≤ 160 := hG_s334 177 1
        obtain ⟨z338, e_z338⟩ : ∃ z, z = s334 177 5 := ⟨_, rfl⟩
        have g_z338 : (0 : Int) ≤ s334 177 5 ∧ s334 177 5 ≤ 5 := hG_s334 177 5
        obtain ⟨z339, e_z339⟩ : ∃ z, z = s334 177 6 := ⟨_, rfl⟩
        have g_z339 : (-2147483648) ≤ s334 177 6 ∧ s334 177 6 ≤ 2147483647 := hG_s334 177 6
        obtain ⟨z340, e_z340⟩ : ∃ z, z = s334 0 11 := ⟨_, rfl⟩
        have g_z340 : (-2147483648) ≤ s334 0 11 ∧ s334 0 11 ≤ 2147483647 := hG_s334 0 11
        show xe (some (N, xs)) 231 699 [(0, .ref 2000), (1, .ref 0), (2, .ref 256), (3, vi x3)] [vi z333] s334 295 10442 _
        refine x_A k231_699 (fun _ => rfl) ?_
        refine x_A k231_700 (fun _ => rfl) ?_
        refine x_A k231_701 (fun _ => rfl) ?_
        refine x_A k231_702 (fun _ => rfl) ?_
        refine x_A k231_703 (fun _ => rfl) ?_
        refine x_iadd k231_704 ?_
        refine x_top (fun z341 e_z341 => ?_)
        refine x_scr k231_705 hN ⟨by omega, by omega⟩ (fun z342 g_z342 e_z342 => ?_)
        unfold in32 at g_z342
        have q_z342 : z342 = z332 := by rw [e_z342, e_z332, show z341 = z331 by omega]
        obtain ⟨z343, e_z343⟩ : ∃ z, z = s334 256 20 := ⟨_, rfl⟩
        have g_z343 : (0 : Int) ≤ s334 256 20 ∧ s334 256 20 ≤ 64 := hG_s334 256 20
        obtain ⟨z344, e_z344⟩ : ∃ z, z = s334 256 17 := ⟨_, rfl⟩
        have g_z344 : (0 : Int) ≤ s334 256 17 ∧ s334 256 17 ≤ 8 := hG_s334 256 17
        refine x_callV k231_706 (y := 187) (n := 1) (w0 := 0) (w1 := 1) (as := [vi z342]) (rest := []) (by decide +kernel) (q := 256) (nq := 62) (kq := 15) ⟨by decide, rfl⟩ rfl rfl rfl rfl (xe_mono (E_X11_rule_256 s334 hG_s334 z342 (by first | exact x_rbe e_z342 g_z342 rfl rfl | exact x_rb g_z342 rfl rfl | exact ⟨by omega, by omega⟩) ⟨by omega, by omega⟩ ⟨by omega, by omega⟩ J_s334) ?_)
        rintro s346 v ⟨hG_s346, t_s346, z345, rfl, g_z345, xp_z345, J_s346⟩
        have q347 : s346 231 3 = x1000 := (t_s346 231 3 (show 2884 ∉ [4133, 4136, 4132, 4134, 4135, 5120, 5184, 5248, 4131, 4992, 5056, 4117, 4114] from by decide +kernel)).trans q335
        have q348 : s346 256 58 = x1001 := (t_s346 256 58 (show 4155 ∉ [4133, 4136, 4132, 4134, 4135, 5120, 5184, 5248, 4131, 4992, 5056, 4117, 4114] from by decide +kernel)).trans q336
        have q349 : s346 177 1 = z337 := (t_s346 177 1 (show 1218 ∉ [4133, 4136, 4132, 4134, 4135, 5120, 5184, 5248, 4131, 4992, 5056, 4117, 4114] from by decide +kernel)).trans e_z337.symm
        have q350 : s346 177 5 = z338 := (t_s346 177 5 (show 1222 ∉ [4133, 4136, 4132, 4134, 4135, 5120, 5184, 5248, 4131, 4992, 5056, 4117, 4114] from by decide +kernel)).trans e_z338.symm
        have q351 : s346 177 6 = z339 := (t_s346 177 6 (show 1223 ∉ [4133, 4136, 4132, 4134, 4135, 5120, 5184, 5248, 4131, 4992, 5056, 4117, 4114] from by decide +kernel)).trans e_z339.symm
        have q352 : s346 0 11 = z340 := (t_s346 0 11 (show 12 ∉ [4133, 4136, 4132, 4134, 4135, 5120, 5184, 5248, 4131, 4992, 5056, 4117, 4114] from by decide +kernel)).trans e_z340.symm
        have TR_s346 : TR s346 := TR.fl TR_s334 (hG_s334 256 1).2 t_s346 (by decide)
        have G1_s346 : G1 s346 := G1.fl G1_s334 t_s346 (by decide +kernel)
        have G3_s346 : G3 s346 := G3.fl G3_s334 t_s346 (by decide +kernel)
        have W1_s346 : W1 s346 := W1.fl W1_s334 t_s346 (by decide +kernel)
        have VCj_s346 : VCj s346 := VCj.fl VCj_s334 hG_s334 t_s346 (by decide)
        have VCl_s346 : VCl s346 := VCl.fl VCl_s334 hG_s334 t_s346 (by decide)
        obtain ⟨z353, e_z353⟩ : ∃ z, z = s346 256 35 := ⟨_, rfl⟩
        have g_z353 : (-2147483648) ≤ s346 256 35 ∧ s346 256 35 ≤ 2147483647 := hG_s346 256 35
        obtain ⟨z354, e_z354⟩ : ∃ z, z = s346 256 34 := ⟨_, rfl⟩
        have g_z354 : (0 : Int) ≤ s346 256 34 ∧ s346 256 34 ≤ 160 := hG_s346 256 34
        obtain ⟨z355, e_z355⟩ : ∃ z, z = s346 256 17 := ⟨_, rfl⟩
        have g_z355 : (0 : Int) ≤ s346 256 17 ∧ s346 256 17 ≤ 8 := hG_s346 256 17
        obtain ⟨z356, e_z356⟩ : ∃ z, z = s346 256 20 := ⟨_, rfl⟩
        have g_z356 : (0 : Int) ≤ s346 256 20 ∧ s346 256 20 ≤ 64 := hG_s346 256 20
        show xe (some (N, xs)) 231 709 [(0, .ref 2000), (1, .ref 0), (2, .ref 256), (3, vi x3)] [vi z345] s346 295 10442 _
        have R1_s346 := R1.rule i_R1 i_X1 i_J hG t_s334 t_s346 (by decide) (by decide) xp_z333 (by rw [← q_z342]; exact xp_z345)
        obtain ⟨ez_s346, X1_s346⟩ := X1.rule i_X1 hG t_s334 t_s346 (by decide) (by decide) xp_z333 (by rw [← q_z342]; exact xp_z345)
        refine x_A k231_709 (fun _ => rfl) ?_
        refine x_goto k231_710 (t := 1300) rfl ?_
        refine x_iinc k231_1300 (ls' := [(3, vi (x3 + 7)), (0, .ref 2000), (1, .ref 0), (2, .ref 256)]) rfl (by decide) rfl ?_
        refine x_goto k231_1303 (t := 18) rfl ?_
        refine x_ls (l := [(0, .ref 2000), (1, .ref 0), (2, .ref 256), (3, vi (x3 + 7))]) (show ([0, 1, 2, 3] : List Nat).Nodup from by decide +kernel) ⟨rfl, rfl, rfl, rfl, trivial⟩ ?_
        exact ih s346 (x3 + 7) x1000 x1001 hG_s346 trivial ⟨by omega, by omega⟩ (by first | exact x_rb b_x1000 rfl rfl | exact ⟨by omega, by omega⟩) (by first | exact x_rb b_x1001 rfl rfl | exact ⟨by omega, by omega⟩) (by omega) (q347).symm (q348).symm J_s346 TR_s346 X1_s346 R1_s346 G1_s346 G3_s346 W1_s346 VCj_s346 VCl_s346  (by omega)
      · rw [c5]
        refine x_B k231_33 rfl (fun _ => rfl) (fun _ => rfl) (fun _ _ => rfl) ?_
        show xe (some (N, xs)) 231 713 [(0, .ref 2000), (1, .ref 0), (2, .ref 256), (3, vi x3)] [] s 295 10442 _
        refine x_A k231_713 (fun _ => rfl) ?_
        refine x_callV k231_714 (y := 106) (n := 0) (w0 := 0) (w1 := 0) (as := []) (rest := []) (by decide +kernel) (q := 0) (nq := 12) (kq := 3) ⟨by decide, rfl⟩ rfl rfl rfl rfl (xe_mono (E_X10_fault_0 s hG) ?_)
        rintro s358 v ⟨-, t_s358, z357, rfl, g_z357, xp_z357⟩
        rw [t_s358.nil]
        try rw [t_s358.nil] at xp_z357
        show xe (some (N, xs)) 231 717 [(0, .ref 2000), (1, .ref 0), (2, .ref 256), (3, vi x3)] [vi z357] s 295 10442 _
        refine x_A k231_717 (fun _ => rfl) ?_
        refine x_A k231_718 (fun _ => rfl) ?_
        refine x_callV k231_719 (y := 188) (n := 0) (w0 := 0) (w1 := 0) (as := []) (rest := []) (by decide +kernel) (q := 256) (nq := 62) (kq := 15) ⟨by decide, rfl⟩ rfl rfl rfl rfl (xe_mono (E_X11_fault_256 s hG) ?_)
        rintro s360 v ⟨-, t_s360, z359, rfl, g_z359, xp_z359⟩
        rw [t_s360.nil]
        try rw [t_s360.nil] at xp_z359
        show xe (some (N, xs)) 231 722 [(0, .ref 2000), (1, .ref 0), (2, .ref 256), (3, vi x3)] [vi z359] s 295 10442 _
        refine x_A k231_722 (fun _ => rfl) ?_
        refine x_goto k231_723 (t := 1300) rfl ?_
        refine x_iinc k231_1300 (ls' := [(3, vi (x3 + 7)), (0, .ref 2000), (1, .ref 0), (2, .ref 256)]) rfl (by decide) rfl ?_
        refine x_goto k231_1303 (t := 18) rfl ?_
        refine x_ls (l := [(0, .ref 2000), (1, .ref 0), (2, .ref 256), (3, vi (x3 + 7))]) (show ([0, 1, 2, 3] : List Nat).Nodup from by decide +kernel) ⟨rfl, rfl, rfl, rfl, trivial⟩ ?_
        exact ih s (x3 + 7) x1000 x1001 hG f ⟨by omega, by omega⟩ (by first | exact x_rb b_x1000 rfl rfl | exact ⟨by omega, by omega⟩) (by first | exact x_rb b_x1001 rfl rfl | exact ⟨by omega, by omega⟩) (by omega) (e_x1000.symm).symm (e_x1001.symm).symm i_J i_TR i_X1 i_R1 i_G1 i_G3 i_W1 i_VCj i_VCl  (by omega)
      · rw [c5]
        refine x_B k231_33 rfl (fun _ => rfl) (fun _ => rfl) (fun _ _ => rfl) ?_
        show xe (some (N, xs)) 231 726 [(0, .ref 2000), (1, .ref 0), (2, .ref 256), (3, vi x3)] [] s 295 10442 _
        refine x_A k231_726 (fun _ => rfl) ?_
        refine x_A k231_727 (fun _ => rfl) ?_
        refine x_A k231_728 (fun _ => rfl) ?_
        refine x_A k231_729 (fun _ => rfl) ?_
        refine x_iadd k231_730 ?_
        refine x_top (fun z361 e_z361 => ?_)
        refine x_scr k231_731 hN ⟨by omega, by omega⟩ (fun z362 g_z362 e_z362 => ?_)
        unfold in32 at g_z362
        refine x_A k231_732 (fun _ => rfl) ?_
        refine x_A k231_733 (fun _ => rfl) ?_
        refine x_A k231_734 (fun _ => rfl) ?_
        refine x_iadd k231_735 ?_
        refine x_top (fun z363 e_z363 => ?_)
        refine x_scr k231_736 hN ⟨by omega, by omega⟩ (fun z364 g_z364 e_z364 => ?_)
        unfold in32 at g_z364
        refine x_callV k231_737 (y := 107) (n := 2) (w0 := 0) (w1 := 2) (as := [vi z362, vi z364]) (rest := []) (by decide +kernel) (q := 0) (nq := 12) (kq := 3) ⟨by decide, rfl⟩ rfl rfl rfl rfl (xe_mono (E_X10_force_0 s hG i_J z362 (by first | exact x_rbe e_z362 g_z362 rfl rfl | exact x_rb g_z362 rfl rfl | exact ⟨by omega, by omega⟩) z364 (by first | exact x_rbe e_z364 g_z364 rfl rfl | exact x_rb g_z364 rfl rfl | exact ⟨by omega, by omega⟩) i_R1) ?_)
        rintro s366 v ⟨hG_s366, t_s366, z365, rfl, g_z365, xp_z365⟩
        have q367 : s366 231 3 = x1000 := (t_s366 231 3 (show 2884 ∉ [1921, 1926, 1927, 1928, 1984, 2048, 2112, 2176] from by decide +kernel)).trans e_x1000.symm
        have q368 : s366 256 58 = x1001 := (t_s366 256 58 (show 4155 ∉ [1921, 1926, 1927, 1928, 1984, 2048, 2112, 2176] from by decide +kernel)).trans e_x1001.symm
        have J_s366 : J s366 := J.fl i_J t_s366 (by decide +kernel)
        have TR_s366 : TR s366 := TR.fl i_TR (hG 256 1).2 t_s366 (by decide)
        have X1_s366 : X1 s366 := X1.fl i_X1 t_s366 (by decide +kernel)
        have R1_s366 : R1 s366 := R1.fl i_R1 t_s366 (by decide +kernel)
        have G1_s366 : G1 s366 := G1.fl i_G1 t_s366 (by decide +kernel)
        have G3_s366 : G3 s366 := G3.fl i_G3 t_s366 (by decide +kernel)
        have W1_s366 : W1 s366 := W1.fl i_W1 t_s366 (by decide +kernel)
        have VCj_s366 : VCj s366 := VCj.fl i_VCj hG t_s366 (by decide)
        have VCl_s366 : VCl s366 := VCl.fl i_VCl hG t_s366 (by decide)
        show xe (some (N, xs)) 231 740 [(0, .ref 2000), (1, .ref 0), (2, .ref 256), (3, vi x3)] [vi z365] s366 295 10442 _
        refine x_A k231_740 (fun _ => rfl) ?_
        refine x_A k231_741 (fun _ => rfl) ?_
        refine x_A k231_742 (fun _ => rfl) ?_
        refine x_A k231_743 (fun _ => rfl) ?_
        refine x_A k231_744 (fun _ => rfl) ?_
        refine x_iadd k231_745 ?_
        refine x_top (fun z369 e_z369 => ?_)
        refine x_scr k231_746 hN ⟨by omega, by omega⟩ (fun z370 g_z370 e_z370 => ?_)
        unfold in32 at g_z370
        have q_z370 : z370 = z362 := by rw [e_z370, e_z362, show z369 = z361 by omega]
        refine x_A k231_747 (fun _ => rfl) ?_
        refine x_A k231_748 (fun _ => rfl) ?_
        refine x_A k231_749 (fun _ => rfl) ?_
        refine x_iadd k231_750 ?_
        refine x_top (fun z371 e_z371 => ?_)
        refine x_scr k231_751 hN ⟨by omega, by omega⟩ (fun z372 g_z372 e_z372 => ?_)
        unfold in32 at g_z372
        have q_z372 : z372 = z364 := by rw [e_z372, e_z364, show z371 = z363 by omega]
        refine x_callV k231_752 (y := 189) (n := 2) (w0 := 0) (w1 := 2) (as := [vi z370, vi z372]) (rest := []) (by decide +kernel) (q := 256) (nq := 62) (kq := 15) ⟨by decide, rfl⟩ rfl rfl rfl rfl (xe_mono (E_X11_force_256 s366 hG_s366 J_s366 z370 (by first | exact x_rbe e_z370 g_z370 rfl rfl | exact x_rb g_z370 rfl rfl | exact ⟨by omega, by omega⟩) z372 (by first | exact x_rbe e_z372 g_z372 rfl rfl | exact x_rb g_z372 rfl rfl | exact ⟨by omega, by omega⟩) R1_s366) ?_)
        rintro s374 v ⟨hG_s374, t_s374, z373, rfl, g_z373, xp_z373⟩
        have q375 : s374 231 3 = x1000 := (t_s374 231 3 (show 2884 ∉ [5312, 5376, 4123] from by decide +kernel)).trans q367
        have q376 : s374 256 58 = x1001 := (t_s374 256 58 (show 4155 ∉ [5312, 5376, 4123] from by decide +kernel)).trans q368
        have J_s374 : J s374 := J.fl J_s366 t_s374 (by decide +kernel)
        have TR_s374 : TR s374 := TR.fl TR_s366 (hG_s366 256 1).2 t_s374 (by decide)
        have X1_s374 : X1 s374 := X1.fl X1_s366 t_s374 (by decide +kernel)
        have R1_s374 : R1 s374 := R1.fl R1_s366 t_s374 (by decide +kernel)
        have G1_s374 : G1 s374 := G1.fl G1_s366 t_s374 (by decide +kernel)
        have G3_s374 : G3 s374 := G3.fl G3_s366 t_s374 (by decide +kernel)
        have W1_s374 : W1 s374 := W1.fl W1_s366 t_s374 (by decide +kernel)
        have VCj_s374 : VCj s374 := VCj.fl VCj_s366 hG_s366 t_s374 (by decide)
        have VCl_s374 : VCl s374 := VCl.fl VCl_s366 hG_s366 t_s374 (by decide)
        show xe (some (N, xs)) 231 755 [(0, .ref 2000), (1, .ref 0), (2, .ref 256), (3, vi x3)] [vi z373] s374 295 10442 _
        refine x_A k231_755 (fun _ => rfl) ?_
        refine x_goto k231_756 (t := 1300) rfl ?_
        refine x_iinc k231_1300 (ls' := [(3, vi (x3 + 7)), (0, .ref 2000), (1, .ref 0), (2, .ref 256)]) rfl (by decide) rfl ?_
        refine x_goto k231_1303 (t := 18) rfl ?_
        refine x_ls (l := [(0, .ref 2000), (1, .ref 0), (2, .ref 256), (3, vi (x3 + 7))]) (show ([0, 1, 2, 3] : List Nat).Nodup from by decide +kernel) ⟨rfl, rfl, rfl, rfl, trivial⟩ ?_
        exact ih s374 (x3 + 7) x1000 x1001 hG_s374 trivial ⟨by omega, by omega⟩ (by first | exact x_rb b_x1000 rfl rfl | exact ⟨by omega, by omega⟩) (by first | exact x_rb b_x1001 rfl rfl | exact ⟨by omega, by omega⟩) (by omega) (q375).symm (q376).symm J_s374 TR_s374 X1_s374 R1_s374 G1_s374 G3_s374 W1_s374 VCj_s374 VCl_s374  (by omega)
      · rw [c5]
        refine x_B k231_33 rfl (fun _ => rfl) (fun _ => rfl) (fun _ _ => rfl) ?_
        show xe (some (N, xs)) 231 759 [(0, .ref 2000), (1, .ref 0), (2, .ref 256), (3, vi x3)] [] s 295 10442 _
        refine x_A k231_759 (fun _ => rfl) ?_
        refine x_A k231_760 (fun _ => rfl) ?_
        refine x_A k231_761 (fun _ => rfl) ?_
        refine x_A k231_762 (fun _ => rfl) ?_
        refine x_iadd k231_763 ?_
        refine x_top (fun z377 e_z377 => ?_)
        refine x_scr k231_764 hN ⟨by omega, by omega⟩ (fun z378 g_z378 e_z378 => ?_)
        unfold in32 at g_z378
        refine x_A k231_765 (fun _ => rfl) ?_
        refine x_A k231_766 (fun _ => rfl) ?_
        refine x_A k231_767 (fun _ => rfl) ?_
        refine x_iadd k231_768 ?_
        refine x_top (fun z379 e_z379 => ?_)
        refine x_scr k231_769 hN ⟨by omega, by omega⟩ (fun z380 g_z380 e_z380 => ?_)
        unfold in32 at g_z380
        refine x_A k231_770 (fun _ => rfl) ?_
        refine x_A k231_771 (fun _ => rfl) ?_
        refine x_A k231_772 (fun _ => rfl) ?_
        refine x_iadd k231_773 ?_
        refine x_top (fun z381 e_z381 => ?_)
        refine x_scr k231_774 hN ⟨by omega, by omega⟩ (fun z382 g_z382 e_z382 => ?_)
        unfold in32 at g_z382
        obtain ⟨z383, e_z383⟩ : ∃ z, z = s 1 4 := ⟨_, rfl⟩
        have g_z383 : (1 : Int) ≤ s 1 4 ∧ s 1 4 ≤ 40 := hG 1 4
        refine x_callV k231_775 (y := 108) (n := 3) (w0 := 0) (w1 := 3) (as := [vi z378, vi z380, vi z382]) (rest := []) (by decide +kernel) (q := 0) (nq := 12) (kq := 3) ⟨by decide, rfl⟩ rfl rfl rfl rfl (xe_mono (E_X10_word_0 s hG z378 (by first | exact x_rbe e_z378 g_z378 rfl rfl | exact x_rb g_z378 rfl rfl | exact ⟨by omega, by omega⟩) z380 (by first | exact x_rbe e_z380 g_z380 rfl rfl | exact x_rb g_z380 rfl rfl | exact ⟨by omega, by omega⟩) z382 (by first | exact x_rbe e_z382 g_z382 rfl rfl | exact x_rb g_z382 rfl rfl | exact ⟨by omega, by omega⟩) ⟨by omega, by omega⟩) ?_)
        rintro s385 v ⟨hG_s385, t_s385, z384, rfl, g_z384, xp_z384⟩
        have q386 : s385 231 3 = x1000 := (t_s385 231 3 (show 2884 ∉ [2244, 2304, 2368, 2432] from by decide +kernel)).trans e_x1000.symm
        have q387 : s385 256 58 = x1001 := (t_s385 256 58 (show 4155 ∉ [2244, 2304, 2368, 2432] from by decide +kernel)).trans e_x1001.symm
        have q388 : s385 1 4 = z383 := (t_s385 1 4 (show 69 ∉ [2244, 2304, 2368, 2432] from by decide +kernel)).trans e_z383.symm
        have J_s385 : J s385 := J.fl i_J t_s385 (by decide +kernel)
        have TR_s385 : TR s385 := TR.fl i_TR (hG 256 1).2 t_s385 (by decide)
        have X1_s385 : X1 s385 := X1.fl i_X1 t_s385 (by decide +kernel)
        have R1_s385 : R1 s385 := R1.fl i_R1 t_s385 (by decide +kernel)
        have G1_s385 : G1 s385 := G1.fl i_G1 t_s385 (by decide +kernel)
        have G3_s385 : G3 s385 := G3.fl i_G3 t_s385 (by decide +kernel)
        have VCj_s385 : VCj s385 := VCj.fl i_VCj hG t_s385 (by decide)
        have VCl_s385 : VCl s385 := VCl.fl i_VCl hG t_s385 (by decide)
        show xe (some (N, xs)) 231 778 [(0, .ref 2000), (1, .ref 0), (2, .ref 256), (3, vi x3)] [vi z384] s385 295 10442 _
        refine x_A k231_778 (fun _ => rfl) ?_
        refine x_A k231_779 (fun _ => rfl) ?_
        refine x_A k231_780 (fun _ => rfl) ?_
        refine x_A k231_781 (fun _ => rfl) ?_
        refine x_A k231_782 (fun _ => rfl) ?_
        refine x_iadd k231_783 ?_
        refine x_top (fun z389 e_z389 => ?_)
        refine x_scr k231_784 hN ⟨by omega, by omega⟩ (fun z390 g_z390 e_z390 => ?_)
        unfold in32 at g_z390
        have q_z390 : z390 = z378 := by rw [e_z390, e_z378, show z389 = z377 by omega]
        refine x_A k231_785 (fun _ => rfl) ?_
        refine x_A k231_786 (fun _ => rfl) ?_
        refine x_A k231_787 (fun _ => rfl) ?_
        refine x_iadd k231_788 ?_
        refine x_top (fun z391 e_z391 => ?_)
        refine x_scr k231_789 hN ⟨by omega, by omega⟩ (fun z392 g_z392 e_z392 => ?_)
        unfold in32 at g_z392
        have q_z392 : z392 = z380 := by rw [e_z392, e_z380, show z391 = z379 by omega]
        refine x_A k231_790 (fun _ => rfl) ?_
        refine x_A k231_791 (fun _ => rfl) ?_
        refine x_A k231_792 (fun _ => rfl) ?_
        refine x_iadd k231_793 ?_
        refine x_top (fun z393 e_z393 => ?_)
        refine x_scr k231_794 hN ⟨by omega, by omega⟩ (fun z394 g_z394 e_z394 => ?_)
        unfold in32 at g_z394
        have q_z394 : z394 = z382 := by rw [e_z394, e_z382, show z393 = z381 by omega]
        obtain ⟨z395, e_z395⟩ : ∃ z, z = s385 256 1 := ⟨_, rfl⟩
        have g_z395 : (1 : Int) ≤ s385 256 1 ∧ s385 256 1 ≤ 40 := hG_s385 256 1
        refine x_callV k231_795 (y := 192) (n := 3) (w0 := 0) (w1 := 3) (as := [vi z390, vi z392, vi z394]) (rest := []) (by decide +kernel) (q := 256) (nq := 62) (kq := 15) ⟨by decide, rfl⟩ rfl rfl rfl rfl (xe_mono (E_X11_word_256 s385 hG_s385 z390 (by first | exact x_rbe e_z390 g_z390 rfl rfl | exact x_rb g_z390 rfl rfl | exact ⟨by omega, by omega⟩) z392 (by first | exact x_rbe e_z392 g_z392 rfl rfl | exact x_rb g_z392 rfl rfl | exact ⟨by omega, by omega⟩) z394 (by first | exact x_rbe e_z394 g_z394 rfl rfl | exact x_rb g_z394 rfl rfl | exact ⟨by omega, by omega⟩) ⟨by omega, by omega⟩) ?_)
        rintro s397 v ⟨hG_s397, t_s397, z396, rfl, g_z396, xp_z396⟩
        have q398 : s397 231 3 = x1000 := (t_s397 231 3 (show 2884 ∉ [4137, 5888, 5952] from by decide +kernel)).trans q386
        have q399 : s397 256 58 = x1001 := (t_s397 256 58 (show 4155 ∉ [4137, 5888, 5952] from by decide +kernel)).trans q387
        have q400 : s397 1 4 = z383 := (t_s397 1 4 (show 69 ∉ [4137, 5888, 5952] from by decide +kernel)).trans q388
        have q401 : s397 256 1 = z395 := (t_s397 256 1 (show 4098 ∉ [4137, 5888, 5952] from by decide +kernel)).trans e_z395.symm
        have J_s397 : J s397 := J.fl J_s385 t_s397 (by decide +kernel)
        have TR_s397 : TR s397 := TR.fl TR_s385 (hG_s385 256 1).2 t_s397 (by decide)
        have X1_s397 : X1 s397 := X1.fl X1_s385 t_s397 (by decide +kernel)
        have R1_s397 : R1 s397 := R1.fl R1_s385 t_s397 (by decide +kernel)
        have G1_s397 : G1 s397 := G1.fl G1_s385 t_s397 (by decide +kernel)
        have G3_s397 : G3 s397 := G3.fl G3_s385 t_s397 (by decide +kernel)
        have VCj_s397 : VCj s397 := VCj.fl VCj_s385 hG_s385 t_s397 (by decide)
        have VCl_s397 : VCl s397 := VCl.fl VCl_s385 hG_s385 t_s397 (by decide)
        obtain ⟨z402, e_z402⟩ : ∃ z, z = s397 256 40 := ⟨_, rfl⟩
        have g_z402 : (0 : Int) ≤ s397 256 40 ∧ s397 256 40 ≤ 60 := hG_s397 256 40
        show xe (some (N, xs)) 231 798 [(0, .ref 2000), (1, .ref 0), (2, .ref 256), (3, vi x3)] [vi z396] s397 295 10442 _
        obtain ⟨ez_s397, W1_s397⟩ := W1.word i_W1 i_TR.1.2.1 hG hG_s397 t_s385 t_s397 (by decide) (by decide) xp_z384 (by rw [← q_z390, ← q_z392, ← q_z394]; exact xp_z396)
        refine x_A k231_798 (fun _ => rfl) ?_
        refine x_goto k231_799 (t := 1300) rfl ?_
        refine x_iinc k231_1300 (ls' := [(3, vi (x3 + 7)), (0, .ref 2000), (1, .ref 0), (2, .ref 256)]) rfl (by decide) rfl ?_
        refine x_goto k231_1303 (t := 18) rfl ?_
        refine x_ls (l := [(0, .ref 2000), (1, .ref 0), (2, .ref 256), (3, vi (x3 + 7))]) (show ([0, 1, 2, 3] : List Nat).Nodup from by decide +kernel) ⟨rfl, rfl, rfl, rfl, trivial⟩ ?_
        exact ih s397 (x3 + 7) x1000 x1001 hG_s397 trivial ⟨by omega, by omega⟩ (by first | exact x_rb b_x1000 rfl rfl | exact ⟨by omega, by omega⟩) (by first | exact x_rb b_x1001 rfl rfl | exact ⟨by omega, by omega⟩) (by omega) (q398).symm (q399).symm J_s397 TR_s397 X1_s397 R1_s397 G1_s397 G3_s397 W1_s397 VCj_s397 VCl_s397  (by omega)
      · rw [c5]
        refine x_B k231_33 rfl (fun _ => rfl) (fun _ => rfl) (fun _ _ => rfl) ?_
        show xe (some (N, xs)) 231 802 [(0, .ref 2000), (1, .ref 0), (2, .ref 256), (3, vi x3)] [] s 295 10442 _
        refine x_A k231_802 (fun _ => rfl) ?_
        refine x_A k231_803 (fun _ => rfl) ?_
        refine x_A k231_804 (fun _ => rfl) ?_
        refine x_A k231_805 (fun _ => rfl) ?_
        refine x_iadd k231_806 ?_
        refine x_top (fun z403 e_z403 => ?_)
        refine x_scr k231_807 hN ⟨by omega, by omega⟩ (fun z404 g_z404 e_z404 => ?_)
        unfold in32 at g_z404
        refine x_A k231_808 (fun _ => rfl) ?_
        refine x_A k231_809 (fun _ => rfl) ?_
        refine x_A k231_810 (fun _ => rfl) ?_
        refine x_iadd k231_811 ?_
        refine x_top (fun z405 e_z405 => ?_)
        refine x_scr k231_812 hN ⟨by omega, by omega⟩ (fun z406 g_z406 e_z406 => ?_)
        unfold in32 at g_z406
        refine x_callV k231_813 (y := 109) (n := 2) (w0 := 0) (w1 := 2) (as := [vi z404, vi z406]) (rest := []) (by decide +kernel) (q := 0) (nq := 12) (kq := 3) ⟨by decide, rfl⟩ rfl rfl rfl rfl (xe_mono (C_X10_leads_0 s hG z404 (by first | exact x_rbe e_z404 g_z404 rfl rfl | exact x_rb g_z404 rfl rfl | exact ⟨by omega, by omega⟩) z406 (by first | exact x_rbe e_z406 g_z406 rfl rfl | exact x_rb g_z406 rfl rfl | exact ⟨by omega, by omega⟩)) ?_)
        rintro s408 v ⟨-, t_s408, z407, rfl, g_z407⟩
        rw [t_s408.nil]
        show xe (some (N, xs)) 231 816 [(0, .ref 2000), (1, .ref 0), (2, .ref 256), (3, vi x3)] [vi z407] s 295 10442 _
        refine x_A k231_816 (fun _ => rfl) ?_
        refine x_A k231_817 (fun _ => rfl) ?_
        refine x_A k231_818 (fun _ => rfl) ?_
        refine x_A k231_819 (fun _ => rfl) ?_
        refine x_A k231_820 (fun _ => rfl) ?_
        refine x_iadd k231_821 ?_
        refine x_top (fun z409 e_z409 => ?_)
        refine x_scr k231_822 hN ⟨by omega, by omega⟩ (fun z410 g_z410 e_z410 => ?_)
        unfold in32 at g_z410
        have q_z410 : z410 = z404 := by rw [e_z410, e_z404, show z409 = z403 by omega]
        refine x_A k231_823 (fun _ => rfl) ?_
        refine x_A k231_824 (fun _ => rfl) ?_
        refine x_A k231_825 (fun _ => rfl) ?_
        refine x_iadd k231_826 ?_
        refine x_top (fun z411 e_z411 => ?_)
        refine x_scr k231_827 hN ⟨by omega, by omega⟩ (fun z412 g_z412 e_z412 => ?_)
        unfold in32 at g_z412
        have q_z412 : z412 = z406 := by rw [e_z412, e_z406, show z411 = z405 by omega]
        refine x_callV k231_828 (y := 193) (n := 2) (w0 := 0) (w1 := 2) (as := [vi z410, vi z412]) (rest := []) (by decide +kernel) (q := 256) (nq := 62) (kq := 15) ⟨by decide, rfl⟩ rfl rfl rfl rfl (xe_mono (C_X11_leads_256 s hG z410 (by first | exact x_rbe e_z410 g_z410 rfl rfl | exact x_rb g_z410 rfl rfl | exact ⟨by omega, by omega⟩) z412 (by first | exact x_rbe e_z412 g_z412 rfl rfl | exact x_rb g_z412 rfl rfl | exact ⟨by omega, by omega⟩)) ?_)
        rintro s414 v ⟨-, t_s414, z413, rfl, g_z413⟩
        rw [t_s414.nil]
        show xe (some (N, xs)) 231 831 [(0, .ref 2000), (1, .ref 0), (2, .ref 256), (3, vi x3)] [vi z413] s 295 10442 _
        refine x_A k231_831 (fun _ => rfl) ?_
        refine x_goto k231_832 (t := 1300) rfl ?_
        refine x_iinc k231_1300 (ls' := [(3, vi (x3 + 7)), (0, .ref 2000), (1, .ref 0), (2, .ref 256)]) rfl (by decide) rfl ?_
        refine x_goto k231_1303 (t := 18) rfl ?_
        refine x_ls (l := [(0, .ref 2000), (1, .ref 0), (2, .ref 256), (3, vi (x3 + 7))]) (show ([0, 1, 2, 3] : List Nat).Nodup from by decide +kernel) ⟨rfl, rfl, rfl, rfl, trivial⟩ ?_
        exact ih s (x3 + 7) x1000 x1001 hG f ⟨by omega, by omega⟩ (by first | exact x_rb b_x1000 rfl rfl | exact ⟨by omega, by omega⟩) (by first | exact x_rb b_x1001 rfl rfl | exact ⟨by omega, by omega⟩) (by omega) (e_x1000.symm).symm (e_x1001.symm).symm i_J i_TR i_X1 i_R1 i_G1 i_G3 i_W1 i_VCj i_VCl  (by omega)
      · rw [c5]
        refine x_B k231_33 rfl (fun _ => rfl) (fun _ => rfl) (fun _ _ => rfl) ?_
        show xe (some (N, xs)) 231 835 [(0, .ref 2000), (1, .ref 0), (2, .ref 256), (3, vi x3)] [] s 295 10442 _
        refine x_A k231_835 (fun _ => rfl) ?_
        refine x_callV k231_836 (y := 110) (n := 0) (w0 := 0) (w1 := 0) (as := []) (rest := []) (by decide +kernel) (q := 0) (nq := 12) (kq := 3) ⟨by decide, rfl⟩ rfl rfl rfl rfl (xe_mono (E_X10_ask_0 s hG) ?_)
        rintro s416 v ⟨hG_s416, t_s416, z415, rfl, g_z415, xp_z415⟩
        have q417 : s416 231 3 = x1000 := (t_s416 231 3 (show 2884 ∉ [2501, 2502, 2560, 2688, 2816, 1219, 1220, 1221, 1222, 1223, 2503, 12, 1218] from by decide +kernel)).trans e_x1000.symm
        have q418 : s416 256 58 = x1001 := (t_s416 256 58 (show 4155 ∉ [2501, 2502, 2560, 2688, 2816, 1219, 1220, 1221, 1222, 1223, 2503, 12, 1218] from by decide +kernel)).trans e_x1001.symm
        have J_s416 : J s416 := J.fl i_J t_s416 (by decide +kernel)
        have TR_s416 : TR s416 := TR.fl i_TR (hG 256 1).2 t_s416 (by decide)
        have R1_s416 : R1 s416 := R1.fl i_R1 t_s416 (by decide +kernel)
        have G1_s416 : G1 s416 := G1.fl i_G1 t_s416 (by decide +kernel)
        have G3_s416 : G3 s416 := G3.fl i_G3 t_s416 (by decide +kernel)
        have W1_s416 : W1 s416 := W1.fl i_W1 t_s416 (by decide +kernel)
        have VCj_s416 : VCj s416 := VCj.fl i_VCj hG t_s416 (by decide)
        have VCl_s416 : VCl s416 := VCl.fl i_VCl hG t_s416 (by decide)
        obtain ⟨z419, e_z419⟩ : ∃ z, z = s416 177 1 := ⟨_, rfl⟩
        have g_z419 : (0 : Int) ≤ s416 177 1 ∧ s416 177 1 ≤ 160 := hG_s416 177 1
        obtain ⟨z420, e_z420⟩ : ∃ z, z = s416 177 5 := ⟨_, rfl⟩
        have g_z420 : (0 : Int) ≤ s416 177 5 ∧ s416 177 5 ≤ 5 := hG_s416 177 5
        obtain ⟨z421, e_z421⟩ : ∃ z, z = s416 177 6 := ⟨_, rfl⟩
        have g_z421 : (-2147483648) ≤ s416 177 6 ∧ s416 177 6 ≤ 2147483647 := hG_s416 177 6
        obtain ⟨z422, e_z422⟩ : ∃ z, z = s416 0 11 := ⟨_, rfl⟩
        have g_z422 : (-2147483648) ≤ s416 0 11 ∧ s416 0 11 ≤ 2147483647 := hG_s416 0 11
        obtain ⟨z423, e_z423⟩ : ∃ z, z = s416 218 6 := ⟨_, rfl⟩
        have g_z423 : (0 : Int) ≤ s416 218 6 ∧ s416 218 6 ≤ 8 := hG_s416 218 6
        show xe (some (N, xs)) 231 839 [(0, .ref 2000), (1, .ref 0), (2, .ref 256), (3, vi x3)] [vi z415] s416 295 10442 _
        refine x_A k231_839 (fun _ => rfl) ?_
        refine x_A k231_840 (fun _ => rfl) ?_
        obtain ⟨z424, e_z424⟩ : ∃ z, z = s416 256 47 := ⟨_, rfl⟩
        have g_z424 : (0 : Int) ≤ s416 256 47 ∧ s416 256 47 ≤ 110 := hG_s416 256 47
        obtain ⟨z425, e_z425⟩ : ∃ z, z = s416 256 48 := ⟨_, rfl⟩
        have g_z425 : (0 : Int) ≤ s416 256 48 ∧ s416 256 48 ≤ 120 := hG_s416 256 48
        obtain ⟨z426, e_z426⟩ : ∃ z, z = s416 256 36 := ⟨_, rfl⟩
        have g_z426 : (0 : Int) ≤ s416 256 36 ∧ s416 256 36 ≤ 160 := hG_s416 256 36
        obtain ⟨z427, e_z427⟩ : ∃ z, z = s416 256 34 := ⟨_, rfl⟩
        have g_z427 : (0 : Int) ≤ s416 256 34 ∧ s416 256 34 ≤ 160 := hG_s416 256 34
        obtain ⟨z428, e_z428⟩ : ∃ z, z = s416 256 43 := ⟨_, rfl⟩
        have g_z428 : (0 : Int) ≤ s416 256 43 ∧ s416 256 43 ≤ 8 := hG_s416 256 43
        obtain ⟨z429, e_z429⟩ : ∃ z, z = s416 256 50 := ⟨_, rfl⟩
        have g_z429 : (0 : Int) ≤ s416 256 50 ∧ s416 256 50 ≤ 5 := hG_s416 256 50
        obtain ⟨z430, e_z430⟩ : ∃ z, z = s416 256 51 := ⟨_, rfl⟩
        have g_z430 : (0 : Int) ≤ s416 256 51 ∧ s416 256 51 ≤ 1 := hG_s416 256 51
        refine x_callV k231_841 (y := 200) (n := 0) (w0 := 0) (w1 := 0) (as := []) (rest := []) (by decide +kernel) (q := 256) (nq := 62) (kq := 15) ⟨by decide, rfl⟩ rfl rfl rfl rfl (xe_mono (E_X11_ask_256 s416 hG_s416 ⟨by omega, by omega⟩ ⟨by omega, by omega⟩ ⟨by omega, by omega⟩ ⟨by omega, by omega⟩ ⟨by omega, by omega⟩ ⟨by omega, by omega⟩ ⟨by omega, by omega⟩ J_s416) ?_)
        rintro s432 v ⟨hG_s432, t_s432, z431, rfl, g_z431, xp_z431, J_s432⟩
        have q433 : s432 231 3 = x1000 := (t_s432 231 3 (show 2884 ∉ [4133, 4136, 4132, 4134, 4135, 6080, 6144, 4144, 4145, 4148, 4147, 6208, 4131, 6016, 4140] from by decide +kernel)).trans q417
        have q434 : s432 256 58 = x1001 := (t_s432 256 58 (show 4155 ∉ [4133, 4136, 4132, 4134, 4135, 6080, 6144, 4144, 4145, 4148, 4147, 6208, 4131, 6016, 4140] from by decide +kernel)).trans q418
        have q435 : s432 177 1 = z419 := (t_s432 177 1 (show 1218 ∉ [4133, 4136, 4132, 4134, 4135, 6080, 6144, 4144, 4145, 4148, 4147, 6208, 4131, 6016, 4140] from by decide +kernel)).trans e_z419.symm
        have q436 : s432 177 5 = z420 := (t_s432 177 5 (show 1222 ∉ [4133, 4136, 4132, 4134, 4135, 6080, 6144, 4144, 4145, 4148, 4147, 6208, 4131, 6016, 4140] from by decide +kernel)).trans e_z420.symm
        have q437 : s432 177 6 = z421 := (t_s432 177 6 (show 1223 ∉ [4133, 4136, 4132, 4134, 4135, 6080, 6144, 4144, 4145, 4148, 4147, 6208, 4131, 6016, 4140] from by decide +kernel)).trans e_z421.symm
        have q438 : s432 0 11 = z422 := (t_s432 0 11 (show 12 ∉ [4133, 4136, 4132, 4134, 4135, 6080, 6144, 4144, 4145, 4148, 4147, 6208, 4131, 6016, 4140] from by decide +kernel)).trans e_z422.symm
        have q439 : s432 218 6 = z423 := (t_s432 218 6 (show 2503 ∉ [4133, 4136, 4132, 4134, 4135, 6080, 6144, 4144, 4145, 4148, 4147, 6208, 4131, 6016, 4140] from by decide +kernel)).trans e_z423.symm
        have TR_s432 : TR s432 := TR.fl TR_s416 (hG_s416 256 1).2 t_s432 (by decide)
        have R1_s432 : R1 s432 := R1.fl R1_s416 t_s432 (by decide +kernel)
        have G1_s432 : G1 s432 := G1.fl G1_s416 t_s432 (by decide +kernel)
        have G3_s432 : G3 s432 := G3.fl G3_s416 t_s432 (by decide +kernel)
        have W1_s432 : W1 s432 := W1.fl W1_s416 t_s432 (by decide +kernel)
        have VCj_s432 : VCj s432 := VCj.fl VCj_s416 hG_s416 t_s432 (by decide)
        have VCl_s432 : VCl s432 := VCl.fl VCl_s416 hG_s416 t_s432 (by decide)
        obtain ⟨z440, e_z440⟩ : ∃ z, z = s432 256 35 := ⟨_, rfl⟩
        have g_z440 : (-2147483648) ≤ s432 256 35 ∧ s432 256 35 ≤ 2147483647 := hG_s432 256 35
        obtain ⟨z441, e_z441⟩ : ∃ z, z = s432 256 34 := ⟨_, rfl⟩
        have g_z441 : (0 : Int) ≤ s432 256 34 ∧ s432 256 34 ≤ 160 := hG_s432 256 34
        obtain ⟨z442, e_z442⟩ : ∃ z, z = s432 256 43 := ⟨_, rfl⟩
        have g_z442 : (0 : Int) ≤ s432 256 43 ∧ s432 256 43 ≤ 8 := hG_s432 256 43
        show xe (some (N, xs)) 231 844 [(0, .ref 2000), (1, .ref 0), (2, .ref 256), (3, vi x3)] [vi z431] s432 295 10442 _
        obtain ⟨ez_s432, X1_s432⟩ := X1.ask i_X1 hG t_s416 t_s432 (by decide) (by decide) xp_z415 xp_z431
        refine x_A k231_844 (fun _ => rfl) ?_
        refine x_goto k231_845 (t := 1300) rfl ?_
        refine x_iinc k231_1300 (ls' := [(3, vi (x3 + 7)), (0, .ref 2000), (1, .ref 0), (2, .ref 256)]) rfl (by decide) rfl ?_
        refine x_goto k231_1303 (t := 18) rfl ?_
        refine x_ls (l := [(0, .ref 2000), (1, .ref 0), (2, .ref 256), (3, vi (x3 + 7))]) (show ([0, 1, 2, 3] : List Nat).Nodup from by decide +kernel) ⟨rfl, rfl, rfl, rfl, trivial⟩ ?_
        exact ih s432 (x3 + 7) x1000 x1001 hG_s432 trivial ⟨by omega, by omega⟩ (by first | exact x_rb b_x1000 rfl rfl | exact ⟨by omega, by omega⟩) (by first | exact x_rb b_x1001 rfl rfl | exact ⟨by omega, by omega⟩) (by omega) (q433).symm (q434).symm J_s432 TR_s432 X1_s432 R1_s432 G1_s432 G3_s432 W1_s432 VCj_s432 VCl_s432  (by omega)
      · rw [c5]
        refine x_B k231_33 rfl (fun _ => rfl) (fun _ => rfl) (fun _ _ => rfl) ?_
        show xe (some (N, xs)) 231 848 [(0, .ref 2000), (1, .ref 0), (2, .ref 256), (3, vi x3)] [] s 295 10442 _
        refine x_A k231_848 (fun _ => rfl) ?_
        refine x_A k231_849 (fun _ => rfl) ?_
        refine x_A k231_850 (fun _ => rfl) ?_
        refine x_A k231_851 (fun _ => rfl) ?_
        refine x_iadd k231_852 ?_
        refine x_top (fun z443 e_z443 => ?_)
        refine x_scr k231_853 hN ⟨by omega, by omega⟩ (fun z444 g_z444 e_z444 => ?_)
        unfold in32 at g_z444
        refine x_A k231_854 (fun _ => rfl) ?_
        refine x_A k231_855 (fun _ => rfl) ?_
        refine x_A k231_856 (fun _ => rfl) ?_
        refine x_iadd k231_857 ?_
        refine x_top (fun z445 e_z445 => ?_)
        refine x_scr k231_858 hN ⟨by omega, by omega⟩ (fun z446 g_z446 e_z446 => ?_)
        unfold in32 at g_z446
        refine x_A k231_859 (fun _ => rfl) ?_
        refine x_A k231_860 (fun _ => rfl) ?_
        refine x_A k231_861 (fun _ => rfl) ?_
        refine x_iadd k231_862 ?_
        refine x_top (fun z447 e_z447 => ?_)
        refine x_scr k231_863 hN ⟨by omega, by omega⟩ (fun z448 g_z448 e_z448 => ?_)
        unfold in32 at g_z448
        refine x_callV k231_864 (y := 111) (n := 3) (w0 := 0) (w1 := 3) (as := [vi z444, vi z446, vi z448]) (rest := []) (by decide +kernel) (q := 0) (nq := 12) (kq := 3) ⟨by decide, rfl⟩ rfl rfl rfl rfl (xe_mono (V_X10_met_0 s hG i_J z444 (by first | exact x_rbe e_z444 g_z444 rfl rfl | exact x_rb g_z444 rfl rfl | exact ⟨by omega, by omega⟩) z446 (by first | exact x_rbe e_z446 g_z446 rfl rfl | exact x_rb g_z446 rfl rfl | exact ⟨by omega, by omega⟩) z448 (by first | exact x_rbe e_z448 g_z448 rfl rfl | exact x_rb g_z448 rfl rfl | exact ⟨by omega, by omega⟩) i_R1 i_VCj i_VCl) ?_)
        rintro s450 v ⟨hG_s450, t_s450, z449, rfl, g_z449, VCj_s450, VCl_s450⟩
        have q451 : s450 231 3 = x1000 := (t_s450 231 3 (show 2884 ∉ [3329, 3334, 3335, 3336, 3392, 3456, 3520, 3584, 3276, 3648, 3712, 3776, 3840, 3904, 3968, 3277, 4032, 2752] from by decide +kernel)).trans e_x1000.symm
        have q452 : s450 256 58 = x1001 := (t_s450 256 58 (show 4155 ∉ [3329, 3334, 3335, 3336, 3392, 3456, 3520, 3584, 3276, 3648, 3712, 3776, 3840, 3904, 3968, 3277, 4032, 2752] from by decide +kernel)).trans e_x1001.symm
        have J_s450 : J s450 := J.fl i_J t_s450 (by decide +kernel)
        have TR_s450 : TR s450 := TR.fl i_TR (hG 256 1).2 t_s450 (by decide)
        have X1_s450 : X1 s450 := X1.fl i_X1 t_s450 (by decide +kernel)
        have R1_s450 : R1 s450 := R1.fl i_R1 t_s450 (by decide +kernel)
        have G1_s450 : G1 s450 := G1.fl i_G1 t_s450 (by decide +kernel)
        have G3_s450 : G3 s450 := G3.fl i_G3 t_s450 (by decide +kernel)
        have W1_s450 : W1 s450 := W1.fl i_W1 t_s450 (by decide +kernel)
        show xe (some (N, xs)) 231 867 [(0, .ref 2000), (1, .ref 0), (2, .ref 256), (3, vi x3)] [vi z449] s450 295 10442 _
        refine x_A k231_867 (fun _ => rfl) ?_
        refine x_A k231_868 (fun _ => rfl) ?_
        refine x_A k231_869 (fun _ => rfl) ?_
        refine x_A k231_870 (fun _ => rfl) ?_
        refine x_A k231_871 (fun _ => rfl) ?_
        refine x_iadd k231_872 ?_
        refine x_top (fun z453 e_z453 => ?_)
        refine x_scr k231_873 hN ⟨by omega, by omega⟩ (fun z454 g_z454 e_z454 => ?_)
        unfold in32 at g_z454
        have q_z454 : z454 = z444 := by rw [e_z454, e_z444, show z453 = z443 by omega]
        refine x_A k231_874 (fun _ => rfl) ?_
        refine x_A k231_875 (fun _ => rfl) ?_
        refine x_A k231_876 (fun _ => rfl) ?_
        refine x_iadd k231_877 ?_
        refine x_top (fun z455 e_z455 => ?_)
        refine x_scr k231_878 hN ⟨by omega, by omega⟩ (fun z456 g_z456 e_z456 => ?_)
        unfold in32 at g_z456
        have q_z456 : z456 = z446 := by rw [e_z456, e_z446, show z455 = z445 by omega]
        refine x_A k231_879 (fun _ => rfl) ?_
        refine x_A k231_880 (fun _ => rfl) ?_
        refine x_A k231_881 (fun _ => rfl) ?_
        refine x_iadd k231_882 ?_
        refine x_top (fun z457 e_z457 => ?_)
        refine x_scr k231_883 hN ⟨by omega, by omega⟩ (fun z458 g_z458 e_z458 => ?_)
        unfold in32 at g_z458
        have q_z458 : z458 = z448 := by rw [e_z458, e_z448, show z457 = z447 by omega]
        refine x_callV k231_884 (y := 204) (n := 3) (w0 := 0) (w1 := 3) (as := [vi z454, vi z456, vi z458]) (rest := []) (by decide +kernel) (q := 256) (nq := 62) (kq := 15) ⟨by decide, rfl⟩ rfl rfl rfl rfl (xe_mono (C_X11_met_256 s450 hG_s450 J_s450 z454 (by first | exact x_rbe e_z454 g_z454 rfl rfl | exact x_rb g_z454 rfl rfl | exact ⟨by omega, by omega⟩) z456 (by first | exact x_rbe e_z456 g_z456 rfl rfl | exact x_rb g_z456 rfl rfl | exact ⟨by omega, by omega⟩) z458 (by first | exact x_rbe e_z458 g_z458 rfl rfl | exact x_rb g_z458 rfl rfl | exact ⟨by omega, by omega⟩)) ?_)
        rintro s460 v ⟨hG_s460, t_s460, z459, rfl, g_z459⟩
        have q461 : s460 231 3 = x1000 := (t_s460 231 3 (show 2884 ∉ [5312, 5376, 4123, 5440, 5504, 5568, 5632, 5696, 5760, 6272] from by decide +kernel)).trans q451
        have q462 : s460 256 58 = x1001 := (t_s460 256 58 (show 4155 ∉ [5312, 5376, 4123, 5440, 5504, 5568, 5632, 5696, 5760, 6272] from by decide +kernel)).trans q452
        have J_s460 : J s460 := J.fl J_s450 t_s460 (by decide +kernel)
        have TR_s460 : TR s460 := TR.fl TR_s450 (hG_s450 256 1).2 t_s460 (by decide)
        have X1_s460 : X1 s460 := X1.fl X1_s450 t_s460 (by decide +kernel)
        have R1_s460 : R1 s460 := R1.fl R1_s450 t_s460 (by decide +kernel)
        have G1_s460 : G1 s460 := G1.fl G1_s450 t_s460 (by decide +kernel)
        have G3_s460 : G3 s460 := G3.fl G3_s450 t_s460 (by decide +kernel)
        have W1_s460 : W1 s460 := W1.fl W1_s450 t_s460 (by decide +kernel)
        have VCj_s460 : VCj s460 := VCj.fl VCj_s450 hG_s450 t_s460 (by decide)
        have VCl_s460 : VCl s460 := VCl.fl VCl_s450 hG_s450 t_s460 (by decide)
        show xe (some (N, xs)) 231 887 [(0, .ref 2000), (1, .ref 0), (2, .ref 256), (3, vi x3)] [vi z459] s460 295 10442 _
        refine x_A k231_887 (fun _ => rfl) ?_
        refine x_goto k231_888 (t := 1300) rfl ?_
        refine x_iinc k231_1300 (ls' := [(3, vi (x3 + 7)), (0, .ref 2000), (1, .ref 0), (2, .ref 256)]) rfl (by decide) rfl ?_
        refine x_goto k231_1303 (t := 18) rfl ?_
        refine x_ls (l := [(0, .ref 2000), (1, .ref 0), (2, .ref 256), (3, vi (x3 + 7))]) (show ([0, 1, 2, 3] : List Nat).Nodup from by decide +kernel) ⟨rfl, rfl, rfl, rfl, trivial⟩ ?_
        exact ih s460 (x3 + 7) x1000 x1001 hG_s460 trivial ⟨by omega, by omega⟩ (by first | exact x_rb b_x1000 rfl rfl | exact ⟨by omega, by omega⟩) (by first | exact x_rb b_x1001 rfl rfl | exact ⟨by omega, by omega⟩) (by omega) (q461).symm (q462).symm J_s460 TR_s460 X1_s460 R1_s460 G1_s460 G3_s460 W1_s460 VCj_s460 VCl_s460  (by omega)
      · rw [c5]
        refine x_B k231_33 rfl (fun _ => rfl) (fun _ => rfl) (fun _ _ => rfl) ?_
        show xe (some (N, xs)) 231 891 [(0, .ref 2000), (1, .ref 0), (2, .ref 256), (3, vi x3)] [] s 295 10442 _
        refine x_A k231_891 (fun _ => rfl) ?_
        refine x_A k231_892 (fun _ => rfl) ?_
        refine x_A k231_893 (fun _ => rfl) ?_
        refine x_A k231_894 (fun _ => rfl) ?_
        refine x_iadd k231_895 ?_
        refine x_top (fun z463 e_z463 => ?_)
        refine x_scr k231_896 hN ⟨by omega, by omega⟩ (fun z464 g_z464 e_z464 => ?_)
        unfold in32 at g_z464
        refine x_A k231_897 (fun _ => rfl) ?_
        refine x_A k231_898 (fun _ => rfl) ?_
        refine x_A k231_899 (fun _ => rfl) ?_
        refine x_iadd k231_900 ?_
        refine x_top (fun z465 e_z465 => ?_)
        refine x_scr k231_901 hN ⟨by omega, by omega⟩ (fun z466 g_z466 e_z466 => ?_)
        unfold in32 at g_z466
        refine x_A k231_902 (fun _ => rfl) ?_
        refine x_A k231_903 (fun _ => rfl) ?_
        refine x_A k231_904 (fun _ => rfl) ?_
        refine x_iadd k231_905 ?_
        refine x_top (fun z467 e_z467 => ?_)
        refine x_scr k231_906 hN ⟨by omega, by omega⟩ (fun z468 g_z468 e_z468 => ?_)
        unfold in32 at g_z468
        refine x_A k231_907 (fun _ => rfl) ?_
        refine x_A k231_908 (fun _ => rfl) ?_
        refine x_A k231_909 (fun _ => rfl) ?_
        refine x_iadd k231_910 ?_
        refine x_top (fun z469 e_z469 => ?_)
        refine x_scr k231_911 hN ⟨by omega, by omega⟩ (fun z470 g_z470 e_z470 => ?_)
        unfold in32 at g_z470
        refine x_A k231_912 (fun _ => rfl) ?_
        refine x_A k231_913 (fun _ => rfl) ?_
        refine x_A k231_914 (fun _ => rfl) ?_
        refine x_iadd k231_915 ?_
        refine x_top (fun z471 e_z471 => ?_)
        refine x_scr k231_916 hN ⟨by omega, by omega⟩ (fun z472 g_z472 e_z472 => ?_)
        unfold in32 at g_z472
        refine x_callV k231_917 (y := 112) (n := 5) (w0 := 0) (w1 := 5) (as := [vi z464, vi z466, vi z468, vi z470, vi z472]) (rest := []) (by decide +kernel) (q := 0) (nq := 12) (kq := 3) ⟨by decide, rfl⟩ rfl rfl rfl rfl (xe_mono (V_X10_hands_0 s hG i_J z464 (by first | exact x_rbe e_z464 g_z464 rfl rfl | exact x_rb g_z464 rfl rfl | exact ⟨by omega, by omega⟩) z466 (by first | exact x_rbe e_z466 g_z466 rfl rfl | exact x_rb g_z466 rfl rfl | exact ⟨by omega, by omega⟩) z468 (by first | exact x_rbe e_z468 g_z468 rfl rfl | exact x_rb g_z468 rfl rfl | exact ⟨by omega, by omega⟩) z470 (by first | exact x_rbe e_z470 g_z470 rfl rfl | exact x_rb g_z470 rfl rfl | exact ⟨by omega, by omega⟩) z472 (by first | exact x_rbe e_z472 g_z472 rfl rfl | exact x_rb g_z472 rfl rfl | exact ⟨by omega, by omega⟩) i_R1 i_VCj i_VCl) ?_)
        rintro s474 v ⟨hG_s474, t_s474, z473, rfl, g_z473, VCj_s474, VCl_s474⟩
        have q475 : s474 231 3 = x1000 := (t_s474 231 3 (show 2884 ∉ [3329, 3334, 3335, 3336, 3392, 3456, 3520, 3584, 3276, 3648, 3712, 3776, 3840, 3904, 3968, 3277, 4032] from by decide +kernel)).trans e_x1000.symm
        have q476 : s474 256 58 = x1001 := (t_s474 256 58 (show 4155 ∉ [3329, 3334, 3335, 3336, 3392, 3456, 3520, 3584, 3276, 3648, 3712, 3776, 3840, 3904, 3968, 3277, 4032] from by decide +kernel)).trans e_x1001.symm
        have J_s474 : J s474 := J.fl i_J t_s474 (by decide +kernel)
        have TR_s474 : TR s474 := TR.fl i_TR (hG 256 1).2 t_s474 (by decide)
        have X1_s474 : X1 s474 := X1.fl i_X1 t_s474 (by decide +kernel)
        have R1_s474 : R1 s474 := R1.fl i_R1 t_s474 (by decide +kernel)
        have G1_s474 : G1 s474 := G1.fl i_G1 t_s474 (by decide +kernel)
        have G3_s474 : G3 s474 := G3.fl i_G3 t_s474 (by decide +kernel)
        have W1_s474 : W1 s474 := W1.fl i_W1 t_s474 (by decide +kernel)
        show xe (some (N, xs)) 231 920 [(0, .ref 2000), (1, .ref 0), (2, .ref 256), (3, vi x3)] [vi z473] s474 295 10442 _
        refine x_A k231_920 (fun _ => rfl) ?_
        refine x_A k231_921 (fun _ => rfl) ?_
        refine x_A k231_922 (fun _ => rfl) ?_
        refine x_A k231_923 (fun _ => rfl) ?_
        refine x_A k231_924 (fun _ => rfl) ?_
        refine x_iadd k231_925 ?_
        refine x_top (fun z477 e_z477 => ?_)
        refine x_scr k231_926 hN ⟨by omega, by omega⟩ (fun z478 g_z478 e_z478 => ?_)
        unfold in32 at g_z478
        have q_z478 : z478 = z464 := by rw [e_z478, e_z464, show z477 = z463 by omega]
        refine x_A k231_927 (fun _ => rfl) ?_
        refine x_A k231_928 (fun _ => rfl) ?_
        refine x_A k231_929 (fun _ => rfl) ?_
        refine x_iadd k231_930 ?_
        refine x_top (fun z479 e_z479 => ?_)
        refine x_scr k231_931 hN ⟨by omega, by omega⟩ (fun z480 g_z480 e_z480 => ?_)
        unfold in32 at g_z480
        have q_z480 : z480 = z466 := by rw [e_z480, e_z466, show z479 = z465 by omega]
        refine x_A k231_932 (fun _ => rfl) ?_
        refine x_A k231_933 (fun _ => rfl) ?_
        refine x_A k231_934 (fun _ => rfl) ?_
        refine x_iadd k231_935 ?_
        refine x_top (fun z481 e_z481 => ?_)
        refine x_scr k231_936 hN ⟨by omega, by omega⟩ (fun z482 g_z482 e_z482 => ?_)
        unfold in32 at g_z482
        have q_z482 : z482 = z468 := by rw [e_z482, e_z468, show z481 = z467 by omega]
        refine x_A k231_937 (fun _ => rfl) ?_
        refine x_A k231_938 (fun _ => rfl) ?_
        refine x_A k231_939 (fun _ => rfl) ?_
        refine x_iadd k231_940 ?_
        refine x_top (fun z483 e_z483 => ?_)
        refine x_scr k231_941 hN ⟨by omega, by omega⟩ (fun z484 g_z484 e_z484 => ?_)
        unfold in32 at g_z484
        have q_z484 : z484 = z470 := by rw [e_z484, e_z470, show z483 = z469 by omega]
        refine x_A k231_942 (fun _ => rfl) ?_
        refine x_A k231_943 (fun _ => rfl) ?_
        refine x_A k231_944 (fun _ => rfl) ?_
        refine x_iadd k231_945 ?_
        refine x_top (fun z485 e_z485 => ?_)
        refine x_scr k231_946 hN ⟨by omega, by omega⟩ (fun z486 g_z486 e_z486 => ?_)
        unfold in32 at g_z486
        have q_z486 : z486 = z472 := by rw [e_z486, e_z472, show z485 = z471 by omega]
        refine x_callV k231_947 (y := 206) (n := 5) (w0 := 0) (w1 := 5) (as := [vi z478, vi z480, vi z482, vi z484, vi z486]) (rest := []) (by decide +kernel) (q := 256) (nq := 62) (kq := 15) ⟨by decide, rfl⟩ rfl rfl rfl rfl (xe_mono (C_X11_hands_256 s474 hG_s474 J_s474 z478 (by first | exact x_rbe e_z478 g_z478 rfl rfl | exact x_rb g_z478 rfl rfl | exact ⟨by omega, by omega⟩) z480 (by first | exact x_rbe e_z480 g_z480 rfl rfl | exact x_rb g_z480 rfl rfl | exact ⟨by omega, by omega⟩) z482 (by first | exact x_rbe e_z482 g_z482 rfl rfl | exact x_rb g_z482 rfl rfl | exact ⟨by omega, by omega⟩) z484 (by first | exact x_rbe e_z484 g_z484 rfl rfl | exact x_rb g_z484 rfl rfl | exact ⟨by omega, by omega⟩) z486 (by first | exact x_rbe e_z486 g_z486 rfl rfl | exact x_rb g_z486 rfl rfl | exact ⟨by omega, by omega⟩)) ?_)
        rintro s488 v ⟨hG_s488, t_s488, z487, rfl, g_z487⟩
        have q489 : s488 231 3 = x1000 := (t_s488 231 3 (show 2884 ∉ [5312, 5376, 4123, 5440, 5504, 5568, 5632, 5696, 5760] from by decide +kernel)).trans q475
        have q490 : s488 256 58 = x1001 := (t_s488 256 58 (show 4155 ∉ [5312, 5376, 4123, 5440, 5504, 5568, 5632, 5696, 5760] from by decide +kernel)).trans q476
        have J_s488 : J s488 := J.fl J_s474 t_s488 (by decide +kernel)
        have TR_s488 : TR s488 := TR.fl TR_s474 (hG_s474 256 1).2 t_s488 (by decide)
        have X1_s488 : X1 s488 := X1.fl X1_s474 t_s488 (by decide +kernel)
        have R1_s488 : R1 s488 := R1.fl R1_s474 t_s488 (by decide +kernel)
        have G1_s488 : G1 s488 := G1.fl G1_s474 t_s488 (by decide +kernel)
        have G3_s488 : G3 s488 := G3.fl G3_s474 t_s488 (by decide +kernel)
        have W1_s488 : W1 s488 := W1.fl W1_s474 t_s488 (by decide +kernel)
        have VCj_s488 : VCj s488 := VCj.fl VCj_s474 hG_s474 t_s488 (by decide)
        have VCl_s488 : VCl s488 := VCl.fl VCl_s474 hG_s474 t_s488 (by decide)
        show xe (some (N, xs)) 231 950 [(0, .ref 2000), (1, .ref 0), (2, .ref 256), (3, vi x3)] [vi z487] s488 295 10442 _
        refine x_A k231_950 (fun _ => rfl) ?_
        refine x_goto k231_951 (t := 1300) rfl ?_
        refine x_iinc k231_1300 (ls' := [(3, vi (x3 + 7)), (0, .ref 2000), (1, .ref 0), (2, .ref 256)]) rfl (by decide) rfl ?_
        refine x_goto k231_1303 (t := 18) rfl ?_
        refine x_ls (l := [(0, .ref 2000), (1, .ref 0), (2, .ref 256), (3, vi (x3 + 7))]) (show ([0, 1, 2, 3] : List Nat).Nodup from by decide +kernel) ⟨rfl, rfl, rfl, rfl, trivial⟩ ?_
        exact ih s488 (x3 + 7) x1000 x1001 hG_s488 trivial ⟨by omega, by omega⟩ (by first | exact x_rb b_x1000 rfl rfl | exact ⟨by omega, by omega⟩) (by first | exact x_rb b_x1001 rfl rfl | exact ⟨by omega, by omega⟩) (by omega) (q489).symm (q490).symm J_s488 TR_s488 X1_s488 R1_s488 G1_s488 G3_s488 W1_s488 VCj_s488 VCl_s488  (by omega)
      · rw [c5]
        refine x_B k231_33 rfl (fun _ => rfl) (fun _ => rfl) (fun _ _ => rfl) ?_
        show xe (some (N, xs)) 231 954 [(0, .ref 2000), (1, .ref 0), (2, .ref 256), (3, vi x3)] [] s 295 10442 _
        refine x_A k231_954 (fun _ => rfl) ?_
        refine x_A k231_955 (fun _ => rfl) ?_
        refine x_A k231_956 (fun _ => rfl) ?_
        refine x_A k231_957 (fun _ => rfl) ?_
        refine x_iadd k231_958 ?_
        refine x_top (fun z491 e_z491 => ?_)
        refine x_scr k231_959 hN ⟨by omega, by omega⟩ (fun z492 g_z492 e_z492 => ?_)
        unfold in32 at g_z492
        refine x_A k231_960 (fun _ => rfl) ?_
        refine x_A k231_961 (fun _ => rfl) ?_
        refine x_A k231_962 (fun _ => rfl) ?_
        refine x_iadd k231_963 ?_
        refine x_top (fun z493 e_z493 => ?_)
        refine x_scr k231_964 hN ⟨by omega, by omega⟩ (fun z494 g_z494 e_z494 => ?_)
        unfold in32 at g_z494
        refine x_A k231_965 (fun _ => rfl) ?_
        refine x_A k231_966 (fun _ => rfl) ?_
        refine x_A k231_967 (fun _ => rfl) ?_
        refine x_iadd k231_968 ?_
        refine x_top (fun z495 e_z495 => ?_)
        refine x_scr k231_969 hN ⟨by omega, by omega⟩ (fun z496 g_z496 e_z496 => ?_)
        unfold in32 at g_z496
        refine x_A k231_970 (fun _ => rfl) ?_
        refine x_A k231_971 (fun _ => rfl) ?_
        refine x_A k231_972 (fun _ => rfl) ?_
        refine x_iadd k231_973 ?_
        refine x_top (fun z497 e_z497 => ?_)
        refine x_scr k231_974 hN ⟨by omega, by omega⟩ (fun z498 g_z498 e_z498 => ?_)
        unfold in32 at g_z498
        refine x_A k231_975 (fun _ => rfl) ?_
        refine x_A k231_976 (fun _ => rfl) ?_
        refine x_A k231_977 (fun _ => rfl) ?_
        refine x_iadd k231_978 ?_
        refine x_top (fun z499 e_z499 => ?_)
        refine x_scr k231_979 hN ⟨by omega, by omega⟩ (fun z500 g_z500 e_z500 => ?_)
        unfold in32 at g_z500
        refine x_A k231_980 (fun _ => rfl) ?_
        refine x_A k231_981 (fun _ => rfl) ?_
        refine x_bipush k231_982 (by decide +kernel) ?_
        refine x_iadd k231_984 ?_
        refine x_top (fun z501 e_z501 => ?_)
        refine x_scr k231_985 hN ⟨by omega, by omega⟩ (fun z502 g_z502 e_z502 => ?_)
        unfold in32 at g_z502
        refine x_callV k231_986 (y := 113) (n := 6) (w0 := 0) (w1 := 6) (as := [vi z492, vi z494, vi z496, vi z498, vi z500, vi z502]) (rest := []) (by decide +kernel) (q := 0) (nq := 12) (kq := 3) ⟨by decide, rfl⟩ rfl rfl rfl rfl (xe_mono (V_X10_together_0 s hG i_J z492 (by first | exact x_rbe e_z492 g_z492 rfl rfl | exact x_rb g_z492 rfl rfl | exact ⟨by omega, by omega⟩) z494 (by first | exact x_rbe e_z494 g_z494 rfl rfl | exact x_rb g_z494 rfl rfl | exact ⟨by omega, by omega⟩) z496 (by first | exact x_rbe e_z496 g_z496 rfl rfl | exact x_rb g_z496 rfl rfl | exact ⟨by omega, by omega⟩) z498 (by first | exact x_rbe e_z498 g_z498 rfl rfl | exact x_rb g_z498 rfl rfl | exact ⟨by omega, by omega⟩) z500 (by first | exact x_rbe e_z500 g_z500 rfl rfl | exact x_rb g_z500 rfl rfl | exact ⟨by omega, by omega⟩) z502 (by first | exact x_rbe e_z502 g_z502 rfl rfl | exact x_rb g_z502 rfl rfl | exact ⟨by omega, by omega⟩) i_R1 i_VCj i_VCl) ?_)
        rintro s504 v ⟨hG_s504, t_s504, z503, rfl, g_z503, VCj_s504, VCl_s504⟩
        have q505 : s504 231 3 = x1000 := (t_s504 231 3 (show 2884 ∉ [3329, 3334, 3335, 3336, 3392, 3456, 3520, 3584, 3276, 3648, 3712, 3776, 3840, 3904, 3968, 3277, 4032] from by decide +kernel)).trans e_x1000.symm
        have q506 : s504 256 58 = x1001 := (t_s504 256 58 (show 4155 ∉ [3329, 3334, 3335, 3336, 3392, 3456, 3520, 3584, 3276, 3648, 3712, 3776, 3840, 3904, 3968, 3277, 4032] from by decide +kernel)).trans e_x1001.symm
        have J_s504 : J s504 := J.fl i_J t_s504 (by decide +kernel)
        have TR_s504 : TR s504 := TR.fl i_TR (hG 256 1).2 t_s504 (by decide)
        have X1_s504 : X1 s504 := X1.fl i_X1 t_s504 (by decide +kernel)
        have R1_s504 : R1 s504 := R1.fl i_R1 t_s504 (by decide +kernel)
        have G1_s504 : G1 s504 := G1.fl i_G1 t_s504 (by decide +kernel)
        have G3_s504 : G3 s504 := G3.fl i_G3 t_s504 (by decide +kernel)
        have W1_s504 : W1 s504 := W1.fl i_W1 t_s504 (by decide +kernel)
        show xe (some (N, xs)) 231 989 [(0, .ref 2000), (1, .ref 0), (2, .ref 256), (3, vi x3)] [vi z503] s504 295 10442 _
        refine x_A k231_989 (fun _ => rfl) ?_
        refine x_A k231_990 (fun _ => rfl) ?_
        refine x_A k231_991 (fun _ => rfl) ?_
        refine x_A k231_992 (fun _ => rfl) ?_
        refine x_A k231_993 (fun _ => rfl) ?_
        refine x_iadd k231_994 ?_
        refine x_top (fun z507 e_z507 => ?_)
        refine x_scr k231_995 hN ⟨by omega, by omega⟩ (fun z508 g_z508 e_z508 => ?_)
        unfold in32 at g_z508
        have q_z508 : z508 = z492 := by rw [e_z508, e_z492, show z507 = z491 by omega]
        refine x_A k231_996 (fun _ => rfl) ?_
        refine x_A k231_997 (fun _ => rfl) ?_
        refine x_A k231_998 (fun _ => rfl) ?_
        refine x_iadd k231_999 ?_
        refine x_top (fun z509 e_z509 => ?_)
        refine x_scr k231_1000 hN ⟨by omega, by omega⟩ (fun z510 g_z510 e_z510 => ?_)
        unfold in32 at g_z510
        have q_z510 : z510 = z494 := by rw [e_z510, e_z494, show z509 = z493 by omega]
        refine x_A k231_1001 (fun _ => rfl) ?_
        refine x_A k231_1002 (fun _ => rfl) ?_
        refine x_A k231_1003 (fun _ => rfl) ?_
        refine x_iadd k231_1004 ?_
        refine x_top (fun z511 e_z511 => ?_)
        refine x_scr k231_1005 hN ⟨by omega, by omega⟩ (fun z512 g_z512 e_z512 => ?_)
        unfold in32 at g_z512
        have q_z512 : z512 = z496 := by rw [e_z512, e_z496, show z511 = z495 by omega]
        refine x_A k231_1006 (fun _ => rfl) ?_
        refine x_A k231_1007 (fun _ => rfl) ?_
        refine x_A k231_1008 (fun _ => rfl) ?_
        refine x_iadd k231_1009 ?_
        refine x_top (fun z513 e_z513 => ?_)
        refine x_scr k231_1010 hN ⟨by omega, by omega⟩ (fun z514 g_z514 e_z514 => ?_)
        unfold in32 at g_z514
        have q_z514 : z514 = z498 := by rw [e_z514, e_z498, show z513 = z497 by omega]
        refine x_A k231_1011 (fun _ => rfl) ?_
        refine x_A k231_1012 (fun _ => rfl) ?_
        refine x_A k231_1013 (fun _ => rfl) ?_
        refine x_iadd k231_1014 ?_
        refine x_top (fun z515 e_z515 => ?_)
        refine x_scr k231_1015 hN ⟨by omega, by omega⟩ (fun z516 g_z516 e_z516 => ?_)
        unfold in32 at g_z516
        have q_z516 : z516 = z500 := by rw [e_z516, e_z500, show z515 = z499 by omega]
        refine x_A k231_1016 (fun _ => rfl) ?_
        refine x_A k231_1017 (fun _ => rfl) ?_
        refine x_bipush k231_1018 (by decide +kernel) ?_
        refine x_iadd k231_1020 ?_
        refine x_top (fun z517 e_z517 => ?_)
        refine x_scr k231_1021 hN ⟨by omega, by omega⟩ (fun z518 g_z518 e_z518 => ?_)
        unfold in32 at g_z518
        have q_z518 : z518 = z502 := by rw [e_z518, e_z502, show z517 = z501 by omega]
        refine x_callV k231_1022 (y := 208) (n := 6) (w0 := 0) (w1 := 6) (as := [vi z508, vi z510, vi z512, vi z514, vi z516, vi z518]) (rest := []) (by decide +kernel) (q := 256) (nq := 62) (kq := 15) ⟨by decide, rfl⟩ rfl rfl rfl rfl (xe_mono (C_X11_together_256 s504 hG_s504 J_s504 z508 (by first | exact x_rbe e_z508 g_z508 rfl rfl | exact x_rb g_z508 rfl rfl | exact ⟨by omega, by omega⟩) z510 (by first | exact x_rbe e_z510 g_z510 rfl rfl | exact x_rb g_z510 rfl rfl | exact ⟨by omega, by omega⟩) z512 (by first | exact x_rbe e_z512 g_z512 rfl rfl | exact x_rb g_z512 rfl rfl | exact ⟨by omega, by omega⟩) z514 (by first | exact x_rbe e_z514 g_z514 rfl rfl | exact x_rb g_z514 rfl rfl | exact ⟨by omega, by omega⟩) z516 (by first | exact x_rbe e_z516 g_z516 rfl rfl | exact x_rb g_z516 rfl rfl | exact ⟨by omega, by omega⟩) z518 (by first | exact x_rbe e_z518 g_z518 rfl rfl | exact x_rb g_z518 rfl rfl | exact ⟨by omega, by omega⟩)) ?_)
        rintro s520 v ⟨hG_s520, t_s520, z519, rfl, g_z519⟩
        have q521 : s520 231 3 = x1000 := (t_s520 231 3 (show 2884 ∉ [5312, 5376, 4123, 5440, 5504, 5568, 5632, 5696, 5760, 4150, 4151, 4152, 4153] from by decide +kernel)).trans q505
        have q522 : s520 256 58 = x1001 := (t_s520 256 58 (show 4155 ∉ [5312, 5376, 4123, 5440, 5504, 5568, 5632, 5696, 5760, 4150, 4151, 4152, 4153] from by decide +kernel)).trans q506
        have J_s520 : J s520 := J.fl J_s504 t_s520 (by decide +kernel)
        have TR_s520 : TR s520 := TR.fl TR_s504 (hG_s504 256 1).2 t_s520 (by decide)
        have X1_s520 : X1 s520 := X1.fl X1_s504 t_s520 (by decide +kernel)
        have R1_s520 : R1 s520 := R1.fl R1_s504 t_s520 (by decide +kernel)
        have G1_s520 : G1 s520 := G1.fl G1_s504 t_s520 (by decide +kernel)
        have G3_s520 : G3 s520 := G3.fl G3_s504 t_s520 (by decide +kernel)
        have W1_s520 : W1 s520 := W1.fl W1_s504 t_s520 (by decide +kernel)
        have VCj_s520 : VCj s520 := VCj.fl VCj_s504 hG_s504 t_s520 (by decide)
        have VCl_s520 : VCl s520 := VCl.fl VCl_s504 hG_s504 t_s520 (by decide)
        show xe (some (N, xs)) 231 1025 [(0, .ref 2000), (1, .ref 0), (2, .ref 256), (3, vi x3)] [vi z519] s520 295 10442 _
        refine x_A k231_1025 (fun _ => rfl) ?_
        refine x_goto k231_1026 (t := 1300) rfl ?_
        refine x_iinc k231_1300 (ls' := [(3, vi (x3 + 7)), (0, .ref 2000), (1, .ref 0), (2, .ref 256)]) rfl (by decide) rfl ?_
        refine x_goto k231_1303 (t := 18) rfl ?_
        refine x_ls (l := [(0, .ref 2000), (1, .ref 0), (2, .ref 256), (3, vi (x3 + 7))]) (show ([0, 1, 2, 3] : List Nat).Nodup from by decide +kernel) ⟨rfl, rfl, rfl, rfl, trivial⟩ ?_
        exact ih s520 (x3 + 7) x1000 x1001 hG_s520 trivial ⟨by omega, by omega⟩ (by first | exact x_rb b_x1000 rfl rfl | exact ⟨by omega, by omega⟩) (by first | exact x_rb b_x1001 rfl rfl | exact ⟨by omega, by omega⟩) (by omega) (q521).symm (q522).symm J_s520 TR_s520 X1_s520 R1_s520 G1_s520 G3_s520 W1_s520 VCj_s520 VCl_s520  (by omega)
      · rw [c5]
        refine x_B k231_33 rfl (fun _ => rfl) (fun _ => rfl) (fun _ _ => rfl) ?_
        show xe (some (N, xs)) 231 1029 [(0, .ref 2000), (1, .ref 0), (2, .ref 256), (3, vi x3)] [] s 295 10442 _
        refine x_A k231_1029 (fun _ => rfl) ?_
        refine x_A k231_1030 (fun _ => rfl) ?_
        refine x_A k231_1031 (fun _ => rfl) ?_
        refine x_A k231_1032 (fun _ => rfl) ?_
        refine x_iadd k231_1033 ?_
        refine x_top (fun z523 e_z523 => ?_)
        refine x_scr k231_1034 hN ⟨by omega, by omega⟩ (fun z524 g_z524 e_z524 => ?_)
        unfold in32 at g_z524
        refine x_A k231_1035 (fun _ => rfl) ?_
        refine x_A k231_1036 (fun _ => rfl) ?_
        refine x_A k231_1037 (fun _ => rfl) ?_
        refine x_iadd k231_1038 ?_
        refine x_top (fun z525 e_z525 => ?_)
        refine x_scr k231_1039 hN ⟨by omega, by omega⟩ (fun z526 g_z526 e_z526 => ?_)
        unfold in32 at g_z526
        refine x_A k231_1040 (fun _ => rfl) ?_
        refine x_A k231_1041 (fun _ => rfl) ?_
        refine x_A k231_1042 (fun _ => rfl) ?_
        refine x_iadd k231_1043 ?_
        refine x_top (fun z527 e_z527 => ?_)
        refine x_scr k231_1044 hN ⟨by omega, by omega⟩ (fun z528 g_z528 e_z528 => ?_)
        unfold in32 at g_z528
        refine x_callV k231_1045 (y := 114) (n := 3) (w0 := 0) (w1 := 3) (as := [vi z524, vi z526, vi z528]) (rest := []) (by decide +kernel) (q := 0) (nq := 12) (kq := 3) ⟨by decide, rfl⟩ rfl rfl rfl rfl (xe_mono (V_X10_along_0 s hG i_J z524 (by first | exact x_rbe e_z524 g_z524 rfl rfl | exact x_rb g_z524 rfl rfl | exact ⟨by omega, by omega⟩) z526 (by first | exact x_rbe e_z526 g_z526 rfl rfl | exact x_rb g_z526 rfl rfl | exact ⟨by omega, by omega⟩) z528 (by first | exact x_rbe e_z528 g_z528 rfl rfl | exact x_rb g_z528 rfl rfl | exact ⟨by omega, by omega⟩) i_R1 i_VCj i_VCl) ?_)
        rintro s530 v ⟨hG_s530, t_s530, z529, rfl, g_z529, VCj_s530, VCl_s530⟩
        have q531 : s530 231 3 = x1000 := (t_s530 231 3 (show 2884 ∉ [3329, 3334, 3335, 3336, 3392, 3456, 3520, 3584, 3276, 3648, 3712, 3776, 3840, 3904, 3968, 3277, 4032] from by decide +kernel)).trans e_x1000.symm
        have q532 : s530 256 58 = x1001 := (t_s530 256 58 (show 4155 ∉ [3329, 3334, 3335, 3336, 3392, 3456, 3520, 3584, 3276, 3648, 3712, 3776, 3840, 3904, 3968, 3277, 4032] from by decide +kernel)).trans e_x1001.symm
        have J_s530 : J s530 := J.fl i_J t_s530 (by decide +kernel)
        have TR_s530 : TR s530 := TR.fl i_TR (hG 256 1).2 t_s530 (by decide)
        have X1_s530 : X1 s530 := X1.fl i_X1 t_s530 (by decide +kernel)
        have R1_s530 : R1 s530 := R1.fl i_R1 t_s530 (by decide +kernel)
        have G1_s530 : G1 s530 := G1.fl i_G1 t_s530 (by decide +kernel)
        have G3_s530 : G3 s530 := G3.fl i_G3 t_s530 (by decide +kernel)
        have W1_s530 : W1 s530 := W1.fl i_W1 t_s530 (by decide +kernel)
        show xe (some (N, xs)) 231 1048 [(0, .ref 2000), (1, .ref 0), (2, .ref 256), (3, vi x3)] [vi z529] s530 295 10442 _
        refine x_A k231_1048 (fun _ => rfl) ?_
        refine x_A k231_1049 (fun _ => rfl) ?_
        refine x_A k231_1050 (fun _ => rfl) ?_
        refine x_A k231_1051 (fun _ => rfl) ?_
        refine x_A k231_1052 (fun _ => rfl) ?_
        refine x_iadd k231_1053 ?_
        refine x_top (fun z533 e_z533 => ?_)
        refine x_scr k231_1054 hN ⟨by omega, by omega⟩ (fun z534 g_z534 e_z534 => ?_)
        unfold in32 at g_z534
        have q_z534 : z534 = z524 := by rw [e_z534, e_z524, show z533 = z523 by omega]
        refine x_A k231_1055 (fun _ => rfl) ?_
        refine x_A k231_1056 (fun _ => rfl) ?_
        refine x_A k231_1057 (fun _ => rfl) ?_
        refine x_iadd k231_1058 ?_
        refine x_top (fun z535 e_z535 => ?_)
        refine x_scr k231_1059 hN ⟨by omega, by omega⟩ (fun z536 g_z536 e_z536 => ?_)
        unfold in32 at g_z536
        have q_z536 : z536 = z526 := by rw [e_z536, e_z526, show z535 = z525 by omega]
        refine x_A k231_1060 (fun _ => rfl) ?_
        refine x_A k231_1061 (fun _ => rfl) ?_
        refine x_A k231_1062 (fun _ => rfl) ?_
        refine x_iadd k231_1063 ?_
        refine x_top (fun z537 e_z537 => ?_)
        refine x_scr k231_1064 hN ⟨by omega, by omega⟩ (fun z538 g_z538 e_z538 => ?_)
        unfold in32 at g_z538
        have q_z538 : z538 = z528 := by rw [e_z538, e_z528, show z537 = z527 by omega]
        refine x_callV k231_1065 (y := 211) (n := 3) (w0 := 0) (w1 := 3) (as := [vi z534, vi z536, vi z538]) (rest := []) (by decide +kernel) (q := 256) (nq := 62) (kq := 15) ⟨by decide, rfl⟩ rfl rfl rfl rfl (xe_mono (C_X11_along_256 s530 hG_s530 J_s530 z534 (by first | exact x_rbe e_z534 g_z534 rfl rfl | exact x_rb g_z534 rfl rfl | exact ⟨by omega, by omega⟩) z536 (by first | exact x_rbe e_z536 g_z536 rfl rfl | exact x_rb g_z536 rfl rfl | exact ⟨by omega, by omega⟩) z538 (by first | exact x_rbe e_z538 g_z538 rfl rfl | exact x_rb g_z538 rfl rfl | exact ⟨by omega, by omega⟩)) ?_)
        rintro s540 v ⟨hG_s540, t_s540, z539, rfl, g_z539⟩
        have q541 : s540 231 3 = x1000 := (t_s540 231 3 (show 2884 ∉ [5312, 5376, 4123, 5440, 5504, 5568, 5632, 5696, 5760, 4150, 4151, 4152, 4153] from by decide +kernel)).trans q531
        have q542 : s540 256 58 = x1001 := (t_s540 256 58 (show 4155 ∉ [5312, 5376, 4123, 5440, 5504, 5568, 5632, 5696, 5760, 4150, 4151, 4152, 4153] from by decide +kernel)).trans q532
        have J_s540 : J s540 := J.fl J_s530 t_s540 (by decide +kernel)
        have TR_s540 : TR s540 := TR.fl TR_s530 (hG_s530 256 1).2 t_s540 (by decide)
        have X1_s540 : X1 s540 := X1.fl X1_s530 t_s540 (by decide +kernel)
        have R1_s540 : R1 s540 := R1.fl R1_s530 t_s540 (by decide +kernel)
        have G1_s540 : G1 s540 := G1.fl G1_s530 t_s540 (by decide +kernel)
        have G3_s540 : G3 s540 := G3.fl G3_s530 t_s540 (by decide +kernel)
        have W1_s540 : W1 s540 := W1.fl W1_s530 t_s540 (by decide +kernel)
        have VCj_s540 : VCj s540 := VCj.fl VCj_s530 hG_s530 t_s540 (by decide)
        have VCl_s540 : VCl s540 := VCl.fl VCl_s530 hG_s530 t_s540 (by decide)
        show xe (some (N, xs)) 231 1068 [(0, .ref 2000), (1, .ref 0), (2, .ref 256), (3, vi x3)] [vi z539] s540 295 10442 _
        refine x_A k231_1068 (fun _ => rfl) ?_
        refine x_goto k231_1069 (t := 1300) rfl ?_
        refine x_iinc k231_1300 (ls' := [(3, vi (x3 + 7)), (0, .ref 2000), (1, .ref 0), (2, .ref 256)]) rfl (by decide) rfl ?_
        refine x_goto k231_1303 (t := 18) rfl ?_
        refine x_ls (l := [(0, .ref 2000), (1, .ref 0), (2, .ref 256), (3, vi (x3 + 7))]) (show ([0, 1, 2, 3] : List Nat).Nodup from by decide +kernel) ⟨rfl, rfl, rfl, rfl, trivial⟩ ?_
        exact ih s540 (x3 + 7) x1000 x1001 hG_s540 trivial ⟨by omega, by omega⟩ (by first | exact x_rb b_x1000 rfl rfl | exact ⟨by omega, by omega⟩) (by first | exact x_rb b_x1001 rfl rfl | exact ⟨by omega, by omega⟩) (by omega) (q541).symm (q542).symm J_s540 TR_s540 X1_s540 R1_s540 G1_s540 G3_s540 W1_s540 VCj_s540 VCl_s540  (by omega)
      · rw [c5]
        refine x_B k231_33 rfl (fun _ => rfl) (fun _ => rfl) (fun _ _ => rfl) ?_
        show xe (some (N, xs)) 231 1072 [(0, .ref 2000), (1, .ref 0), (2, .ref 256), (3, vi x3)] [] s 295 10442 _
        refine x_A k231_1072 (fun _ => rfl) ?_
        refine x_A k231_1073 (fun _ => rfl) ?_
        refine x_A k231_1074 (fun _ => rfl) ?_
        refine x_A k231_1075 (fun _ => rfl) ?_
        refine x_iadd k231_1076 ?_
        refine x_top (fun z543 e_z543 => ?_)
        refine x_scr k231_1077 hN ⟨by omega, by omega⟩ (fun z544 g_z544 e_z544 => ?_)
        unfold in32 at g_z544
        refine x_A k231_1078 (fun _ => rfl) ?_
        refine x_A k231_1079 (fun _ => rfl) ?_
        refine x_A k231_1080 (fun _ => rfl) ?_
        refine x_iadd k231_1081 ?_
        refine x_top (fun z545 e_z545 => ?_)
        refine x_scr k231_1082 hN ⟨by omega, by omega⟩ (fun z546 g_z546 e_z546 => ?_)
        unfold in32 at g_z546
        refine x_A k231_1083 (fun _ => rfl) ?_
        refine x_A k231_1084 (fun _ => rfl) ?_
        refine x_A k231_1085 (fun _ => rfl) ?_
        refine x_iadd k231_1086 ?_
        refine x_top (fun z547 e_z547 => ?_)
        refine x_scr k231_1087 hN ⟨by omega, by omega⟩ (fun z548 g_z548 e_z548 => ?_)
        unfold in32 at g_z548
        refine x_callV k231_1088 (y := 115) (n := 3) (w0 := 0) (w1 := 3) (as := [vi z544, vi z546, vi z548]) (rest := []) (by decide +kernel) (q := 0) (nq := 12) (kq := 3) ⟨by decide, rfl⟩ rfl rfl rfl rfl (xe_mono (V_X10_likely_0 s hG i_J z544 (by first | exact x_rbe e_z544 g_z544 rfl rfl | exact x_rb g_z544 rfl rfl | exact ⟨by omega, by omega⟩) z546 (by first | exact x_rbe e_z546 g_z546 rfl rfl | exact x_rb g_z546 rfl rfl | exact ⟨by omega, by omega⟩) z548 (by first | exact x_rbe e_z548 g_z548 rfl rfl | exact x_rb g_z548 rfl rfl | exact ⟨by omega, by omega⟩) i_R1 i_VCj i_VCl) ?_)
        rintro s550 v ⟨hG_s550, t_s550, z549, rfl, g_z549, VCj_s550, VCl_s550⟩
        have q551 : s550 231 3 = x1000 := (t_s550 231 3 (show 2884 ∉ [3329, 3334, 3335, 3336, 3392, 3456, 3520, 3584, 3276, 3648, 3712, 3776, 3840, 3904, 3968, 3277, 4032] from by decide +kernel)).trans e_x1000.symm
        have q552 : s550 256 58 = x1001 := (t_s550 256 58 (show 4155 ∉ [3329, 3334, 3335, 3336, 3392, 3456, 3520, 3584, 3276, 3648, 3712, 3776, 3840, 3904, 3968, 3277, 4032] from by decide +kernel)).trans e_x1001.symm
        have J_s550 : J s550 := J.fl i_J t_s550 (by decide +kernel)
        have TR_s550 : TR s550 := TR.fl i_TR (hG 256 1).2 t_s550 (by decide)
        have X1_s550 : X1 s550 := X1.fl i_X1 t_s550 (by decide +kernel)
        have R1_s550 : R1 s550 := R1.fl i_R1 t_s550 (by decide +kernel)
        have G1_s550 : G1 s550 := G1.fl i_G1 t_s550 (by decide +kernel)
        have G3_s550 : G3 s550 := G3.fl i_G3 t_s550 (by decide +kernel)
        have W1_s550 : W1 s550 := W1.fl i_W1 t_s550 (by decide +kernel)
        show xe (some (N, xs)) 231 1091 [(0, .ref 2000), (1, .ref 0), (2, .ref 256), (3, vi x3)] [vi z549] s550 295 10442 _
        refine x_A k231_1091 (fun _ => rfl) ?_
        refine x_A k231_1092 (fun _ => rfl) ?_
        refine x_A k231_1093 (fun _ => rfl) ?_
        refine x_A k231_1094 (fun _ => rfl) ?_
        refine x_A k231_1095 (fun _ => rfl) ?_
        refine x_iadd k231_1096 ?_
        refine x_top (fun z553 e_z553 => ?_)
        refine x_scr k231_1097 hN ⟨by omega, by omega⟩ (fun z554 g_z554 e_z554 => ?_)
        unfold in32 at g_z554
        have q_z554 : z554 = z544 := by rw [e_z554, e_z544, show z553 = z543 by omega]
        refine x_A k231_1098 (fun _ => rfl) ?_
        refine x_A k231_1099 (fun _ => rfl) ?_
        refine x_A k231_1100 (fun _ => rfl) ?_
        refine x_iadd k231_1101 ?_
        refine x_top (fun z555 e_z555 => ?_)
        refine x_scr k231_1102 hN ⟨by omega, by omega⟩ (fun z556 g_z556 e_z556 => ?_)
        unfold in32 at g_z556
        have q_z556 : z556 = z546 := by rw [e_z556, e_z546, show z555 = z545 by omega]
        refine x_A k231_1103 (fun _ => rfl) ?_
        refine x_A k231_1104 (fun _ => rfl) ?_
        refine x_A k231_1105 (fun _ => rfl) ?_
        refine x_iadd k231_1106 ?_
        refine x_top (fun z557 e_z557 => ?_)
        refine x_scr k231_1107 hN ⟨by omega, by omega⟩ (fun z558 g_z558 e_z558 => ?_)
        unfold in32 at g_z558
        have q_z558 : z558 = z548 := by rw [e_z558, e_z548, show z557 = z547 by omega]
        refine x_callV k231_1108 (y := 212) (n := 3) (w0 := 0) (w1 := 3) (as := [vi z554, vi z556, vi z558]) (rest := []) (by decide +kernel) (q := 256) (nq := 62) (kq := 15) ⟨by decide, rfl⟩ rfl rfl rfl rfl (xe_mono (C_X11_likely_256 s550 hG_s550 J_s550 z554 (by first | exact x_rbe e_z554 g_z554 rfl rfl | exact x_rb g_z554 rfl rfl | exact ⟨by omega, by omega⟩) z556 (by first | exact x_rbe e_z556 g_z556 rfl rfl | exact x_rb g_z556 rfl rfl | exact ⟨by omega, by omega⟩) z558 (by first | exact x_rbe e_z558 g_z558 rfl rfl | exact x_rb g_z558 rfl rfl | exact ⟨by omega, by omega⟩)) ?_)
        rintro s560 v ⟨hG_s560, t_s560, z559, rfl, g_z559⟩
        have q561 : s560 231 3 = x1000 := (t_s560 231 3 (show 2884 ∉ [5312, 5376, 4123, 5440, 5504, 5568, 5632, 5696, 5760, 4150, 4151, 4152, 4153, 6336] from by decide +kernel)).trans q551
        have q562 : s560 256 58 = x1001 := (t_s560 256 58 (show 4155 ∉ [5312, 5376, 4123, 5440, 5504, 5568, 5632, 5696, 5760, 4150, 4151, 4152, 4153, 6336] from by decide +kernel)).trans q552
        have J_s560 : J s560 := J.fl J_s550 t_s560 (by decide +kernel)
        have TR_s560 : TR s560 := TR.fl TR_s550 (hG_s550 256 1).2 t_s560 (by decide)
        have X1_s560 : X1 s560 := X1.fl X1_s550 t_s560 (by decide +kernel)
        have R1_s560 : R1 s560 := R1.fl R1_s550 t_s560 (by decide +kernel)
        have G1_s560 : G1 s560 := G1.fl G1_s550 t_s560 (by decide +kernel)
        have G3_s560 : G3 s560 := G3.fl G3_s550 t_s560 (by decide +kernel)
        have W1_s560 : W1 s560 := W1.fl W1_s550 t_s560 (by decide +kernel)
        have VCj_s560 : VCj s560 := VCj.fl VCj_s550 hG_s550 t_s560 (by decide)
        have VCl_s560 : VCl s560 := VCl.fl VCl_s550 hG_s550 t_s560 (by decide)
        show xe (some (N, xs)) 231 1111 [(0, .ref 2000), (1, .ref 0), (2, .ref 256), (3, vi x3)] [vi z559] s560 295 10442 _
        refine x_A k231_1111 (fun _ => rfl) ?_
        refine x_goto k231_1112 (t := 1300) rfl ?_
        refine x_iinc k231_1300 (ls' := [(3, vi (x3 + 7)), (0, .ref 2000), (1, .ref 0), (2, .ref 256)]) rfl (by decide) rfl ?_
        refine x_goto k231_1303 (t := 18) rfl ?_
        refine x_ls (l := [(0, .ref 2000), (1, .ref 0), (2, .ref 256), (3, vi (x3 + 7))]) (show ([0, 1, 2, 3] : List Nat).Nodup from by decide +kernel) ⟨rfl, rfl, rfl, rfl, trivial⟩ ?_
        exact ih s560 (x3 + 7) x1000 x1001 hG_s560 trivial ⟨by omega, by omega⟩ (by first | exact x_rb b_x1000 rfl rfl | exact ⟨by omega, by omega⟩) (by first | exact x_rb b_x1001 rfl rfl | exact ⟨by omega, by omega⟩) (by omega) (q561).symm (q562).symm J_s560 TR_s560 X1_s560 R1_s560 G1_s560 G3_s560 W1_s560 VCj_s560 VCl_s560  (by omega)
      · rw [c5]
        refine x_B k231_33 rfl (fun _ => rfl) (fun _ => rfl) (fun _ _ => rfl) ?_
        show xe (some (N, xs)) 231 1115 [(0, .ref 2000), (1, .ref 0), (2, .ref 256), (3, vi x3)] [] s 295 10442 _
        refine x_A k231_1115 (fun _ => rfl) ?_
        refine x_A k231_1116 (fun _ => rfl) ?_
        refine x_A k231_1117 (fun _ => rfl) ?_
        refine x_A k231_1118 (fun _ => rfl) ?_
        refine x_iadd k231_1119 ?_
        refine x_top (fun z563 e_z563 => ?_)
        refine x_scr k231_1120 hN ⟨by omega, by omega⟩ (fun z564 g_z564 e_z564 => ?_)
        unfold in32 at g_z564
        refine x_A k231_1121 (fun _ => rfl) ?_
        refine x_A k231_1122 (fun _ => rfl) ?_
        refine x_A k231_1123 (fun _ => rfl) ?_
        refine x_iadd k231_1124 ?_
        refine x_top (fun z565 e_z565 => ?_)
        refine x_scr k231_1125 hN ⟨by omega, by omega⟩ (fun z566 g_z566 e_z566 => ?_)
        unfold in32 at g_z566
        refine x_callV k231_1126 (y := 116) (n := 2) (w0 := 0) (w1 := 2) (as := [vi z564, vi z566]) (rest := []) (by decide +kernel) (q := 0) (nq := 12) (kq := 3) ⟨by decide, rfl⟩ rfl rfl rfl rfl (xe_mono (V_X10_lacking_0 s hG i_J z564 (by first | exact x_rbe e_z564 g_z564 rfl rfl | exact x_rb g_z564 rfl rfl | exact ⟨by omega, by omega⟩) z566 (by first | exact x_rbe e_z566 g_z566 rfl rfl | exact x_rb g_z566 rfl rfl | exact ⟨by omega, by omega⟩) i_R1 i_VCj i_VCl) ?_)
        rintro s568 v ⟨hG_s568, t_s568, z567, rfl, b_z567, VCj_s568, VCl_s568⟩
        have q569 : s568 231 3 = x1000 := (t_s568 231 3 (show 2884 ∉ [3329, 3334, 3335, 3336, 3392, 3456, 3520, 3584, 3276, 3648, 3712, 3776, 3840, 3904, 3968, 3277, 4032] from by decide +kernel)).trans e_x1000.symm
        have q570 : s568 256 58 = x1001 := (t_s568 256 58 (show 4155 ∉ [3329, 3334, 3335, 3336, 3392, 3456, 3520, 3584, 3276, 3648, 3712, 3776, 3840, 3904, 3968, 3277, 4032] from by decide +kernel)).trans e_x1001.symm
        have J_s568 : J s568 := J.fl i_J t_s568 (by decide +kernel)
        have TR_s568 : TR s568 := TR.fl i_TR (hG 256 1).2 t_s568 (by decide)
        have X1_s568 : X1 s568 := X1.fl i_X1 t_s568 (by decide +kernel)
        have R1_s568 : R1 s568 := R1.fl i_R1 t_s568 (by decide +kernel)
        have G1_s568 : G1 s568 := G1.fl i_G1 t_s568 (by decide +kernel)
        have G3_s568 : G3 s568 := G3.fl i_G3 t_s568 (by decide +kernel)
        have W1_s568 : W1 s568 := W1.fl i_W1 t_s568 (by decide +kernel)
        show xe (some (N, xs)) 231 1129 [(0, .ref 2000), (1, .ref 0), (2, .ref 256), (3, vi x3)] [vj z567] s568 295 10442 _
        refine x_A k231_1129 (fun _ => rfl) ?_
        refine x_A k231_1130 (fun _ => rfl) ?_
        refine x_A k231_1131 (fun _ => rfl) ?_
        refine x_A k231_1132 (fun _ => rfl) ?_
        refine x_A k231_1133 (fun _ => rfl) ?_
        refine x_iadd k231_1134 ?_
        refine x_top (fun z571 e_z571 => ?_)
        refine x_scr k231_1135 hN ⟨by omega, by omega⟩ (fun z572 g_z572 e_z572 => ?_)
        unfold in32 at g_z572
        have q_z572 : z572 = z564 := by rw [e_z572, e_z564, show z571 = z563 by omega]
        refine x_A k231_1136 (fun _ => rfl) ?_
        refine x_A k231_1137 (fun _ => rfl) ?_
        refine x_A k231_1138 (fun _ => rfl) ?_
        refine x_iadd k231_1139 ?_
        refine x_top (fun z573 e_z573 => ?_)
        refine x_scr k231_1140 hN ⟨by omega, by omega⟩ (fun z574 g_z574 e_z574 => ?_)
        unfold in32 at g_z574
        have q_z574 : z574 = z566 := by rw [e_z574, e_z566, show z573 = z565 by omega]
        refine x_callV k231_1141 (y := 214) (n := 2) (w0 := 0) (w1 := 2) (as := [vi z572, vi z574]) (rest := []) (by decide +kernel) (q := 256) (nq := 62) (kq := 15) ⟨by decide, rfl⟩ rfl rfl rfl rfl (xe_mono (C_X11_lacking_256 s568 hG_s568 J_s568 z572 (by first | exact x_rbe e_z572 g_z572 rfl rfl | exact x_rb g_z572 rfl rfl | exact ⟨by omega, by omega⟩) z574 (by first | exact x_rbe e_z574 g_z574 rfl rfl | exact x_rb g_z574 rfl rfl | exact ⟨by omega, by omega⟩)) ?_)
        rintro s576 v ⟨hG_s576, t_s576, z575, rfl, b_z575⟩
        have q577 : s576 231 3 = x1000 := (t_s576 231 3 (show 2884 ∉ [5312, 5376, 4123, 5440, 5504, 5568, 5632, 5696, 5760] from by decide +kernel)).trans q569
        have q578 : s576 256 58 = x1001 := (t_s576 256 58 (show 4155 ∉ [5312, 5376, 4123, 5440, 5504, 5568, 5632, 5696, 5760] from by decide +kernel)).trans q570
        have J_s576 : J s576 := J.fl J_s568 t_s576 (by decide +kernel)
        have TR_s576 : TR s576 := TR.fl TR_s568 (hG_s568 256 1).2 t_s576 (by decide)
        have X1_s576 : X1 s576 := X1.fl X1_s568 t_s576 (by decide +kernel)
        have R1_s576 : R1 s576 := R1.fl R1_s568 t_s576 (by decide +kernel)
        have G1_s576 : G1 s576 := G1.fl G1_s568 t_s576 (by decide +kernel)
        have G3_s576 : G3 s576 := G3.fl G3_s568 t_s576 (by decide +kernel)
        have W1_s576 : W1 s576 := W1.fl W1_s568 t_s576 (by decide +kernel)
        have VCj_s576 : VCj s576 := VCj.fl VCj_s568 hG_s568 t_s576 (by decide)
        have VCl_s576 : VCl s576 := VCl.fl VCl_s568 hG_s568 t_s576 (by decide)
        show xe (some (N, xs)) 231 1144 [(0, .ref 2000), (1, .ref 0), (2, .ref 256), (3, vi x3)] [vj z575] s576 295 10442 _
        refine x_A k231_1144 (fun _ => rfl) ?_
        refine x_goto k231_1145 (t := 1300) rfl ?_
        refine x_iinc k231_1300 (ls' := [(3, vi (x3 + 7)), (0, .ref 2000), (1, .ref 0), (2, .ref 256)]) rfl (by decide) rfl ?_
        refine x_goto k231_1303 (t := 18) rfl ?_
        refine x_ls (l := [(0, .ref 2000), (1, .ref 0), (2, .ref 256), (3, vi (x3 + 7))]) (show ([0, 1, 2, 3] : List Nat).Nodup from by decide +kernel) ⟨rfl, rfl, rfl, rfl, trivial⟩ ?_
        exact ih s576 (x3 + 7) x1000 x1001 hG_s576 trivial ⟨by omega, by omega⟩ (by first | exact x_rb b_x1000 rfl rfl | exact ⟨by omega, by omega⟩) (by first | exact x_rb b_x1001 rfl rfl | exact ⟨by omega, by omega⟩) (by omega) (q577).symm (q578).symm J_s576 TR_s576 X1_s576 R1_s576 G1_s576 G3_s576 W1_s576 VCj_s576 VCl_s576  (by omega)
      · rw [c5]
        refine x_B k231_33 rfl (fun _ => rfl) (fun _ => rfl) (fun _ _ => rfl) ?_
        show xe (some (N, xs)) 231 1148 [(0, .ref 2000), (1, .ref 0), (2, .ref 256), (3, vi x3)] [] s 295 10442 _
        refine x_A k231_1148 (fun _ => rfl) ?_
        refine x_callV k231_1149 (y := 117) (n := 0) (w0 := 0) (w1 := 0) (as := []) (rest := []) (by decide +kernel) (q := 0) (nq := 12) (kq := 3) ⟨by decide, rfl⟩ rfl rfl rfl rfl (xe_mono (E_X10_story_0 s hG) ?_)
        rintro s580 v ⟨hG_s580, t_s580, z579, rfl, g_z579, xp_z579⟩
        have q581 : s580 256 58 = x1001 := (t_s580 256 58 (show 4155 ∉ [2884] from by decide +kernel)).trans e_x1001.symm
        have J_s580 : J s580 := J.fl i_J t_s580 (by decide +kernel)
        have TR_s580 : TR s580 := TR.fl i_TR (hG 256 1).2 t_s580 (by decide)
        have X1_s580 : X1 s580 := X1.fl i_X1 t_s580 (by decide +kernel)
        have R1_s580 : R1 s580 := R1.fl i_R1 t_s580 (by decide +kernel)
        have G1_s580 : G1 s580 := G1.fl i_G1 t_s580 (by decide +kernel)
        have G3_s580 : G3 s580 := G3.fl i_G3 t_s580 (by decide +kernel)
        have W1_s580 : W1 s580 := W1.fl i_W1 t_s580 (by decide +kernel)
        have VCj_s580 : VCj s580 := VCj.fl i_VCj hG t_s580 (by decide)
        have VCl_s580 : VCl s580 := VCl.fl i_VCl hG t_s580 (by decide)
        obtain ⟨z582, e_z582⟩ : ∃ z, z = s580 231 3 := ⟨_, rfl⟩
        have g_z582 : (0 : Int) ≤ s580 231 3 ∧ s580 231 3 ≤ 4 := hG_s580 231 3
        show xe (some (N, xs)) 231 1152 [(0, .ref 2000), (1, .ref 0), (2, .ref 256), (3, vi x3)] [vi z579] s580 295 10442 _
        refine x_A k231_1152 (fun _ => rfl) ?_
        refine x_A k231_1153 (fun _ => rfl) ?_
        refine x_callV k231_1154 (y := 215) (n := 0) (w0 := 0) (w1 := 0) (as := []) (rest := []) (by decide +kernel) (q := 256) (nq := 62) (kq := 15) ⟨by decide, rfl⟩ rfl rfl rfl rfl (xe_mono (E_X11_story_256 s580 hG_s580) ?_)
        rintro s584 v ⟨hG_s584, t_s584, z583, rfl, g_z583, xp_z583⟩
        have q585 : s584 231 3 = z582 := (t_s584 231 3 (show 2884 ∉ [4155, 6400] from by decide +kernel)).trans e_z582.symm
        have J_s584 : J s584 := J.fl J_s580 t_s584 (by decide +kernel)
        have TR_s584 : TR s584 := TR.fl TR_s580 (hG_s580 256 1).2 t_s584 (by decide)
        have X1_s584 : X1 s584 := X1.fl X1_s580 t_s584 (by decide +kernel)
        have R1_s584 : R1 s584 := R1.fl R1_s580 t_s584 (by decide +kernel)
        have G1_s584 : G1 s584 := G1.fl G1_s580 t_s584 (by decide +kernel)
        have G3_s584 : G3 s584 := G3.fl G3_s580 t_s584 (by decide +kernel)
        have W1_s584 : W1 s584 := W1.fl W1_s580 t_s584 (by decide +kernel)
        have VCj_s584 : VCj s584 := VCj.fl VCj_s580 hG_s580 t_s584 (by decide)
        have VCl_s584 : VCl s584 := VCl.fl VCl_s580 hG_s580 t_s584 (by decide)
        obtain ⟨z586, e_z586⟩ : ∃ z, z = s584 256 58 := ⟨_, rfl⟩
        have g_z586 : (0 : Int) ≤ s584 256 58 ∧ s584 256 58 ≤ 4 := hG_s584 256 58
        show xe (some (N, xs)) 231 1157 [(0, .ref 2000), (1, .ref 0), (2, .ref 256), (3, vi x3)] [vi z583] s584 295 10442 _
        refine x_A k231_1157 (fun _ => rfl) ?_
        refine x_goto k231_1158 (t := 1300) rfl ?_
        refine x_iinc k231_1300 (ls' := [(3, vi (x3 + 7)), (0, .ref 2000), (1, .ref 0), (2, .ref 256)]) rfl (by decide) rfl ?_
        refine x_goto k231_1303 (t := 18) rfl ?_
        refine x_ls (l := [(0, .ref 2000), (1, .ref 0), (2, .ref 256), (3, vi (x3 + 7))]) (show ([0, 1, 2, 3] : List Nat).Nodup from by decide +kernel) ⟨rfl, rfl, rfl, rfl, trivial⟩ ?_
        exact ih s584 (x3 + 7) z582 z586 hG_s584 trivial ⟨by omega, by omega⟩ (by first | exact x_rbe e_z582 g_z582 rfl rfl | exact x_rb g_z582 rfl rfl | exact ⟨by omega, by omega⟩) (by first | exact x_rbe e_z586 g_z586 rfl rfl | exact x_rb g_z586 rfl rfl | exact ⟨by omega, by omega⟩) (by omega) (q585).symm (e_z586.symm).symm J_s584 TR_s584 X1_s584 R1_s584 G1_s584 G3_s584 W1_s584 VCj_s584 VCl_s584  (by omega)
      · rw [c5]
        refine x_B k231_33 rfl (fun _ => rfl) (fun _ => rfl) (fun _ _ => rfl) ?_
        show xe (some (N, xs)) 231 1161 [(0, .ref 2000), (1, .ref 0), (2, .ref 256), (3, vi x3)] [] s 295 10442 _
        refine x_A k231_1161 (fun _ => rfl) ?_
        refine x_A k231_1162 (fun _ => rfl) ?_
        refine x_A k231_1163 (fun _ => rfl) ?_
        refine x_A k231_1164 (fun _ => rfl) ?_
        refine x_iadd k231_1165 ?_
        refine x_top (fun z587 e_z587 => ?_)
        refine x_scr k231_1166 hN ⟨by omega, by omega⟩ (fun z588 g_z588 e_z588 => ?_)
        unfold in32 at g_z588
        refine x_A k231_1167 (fun _ => rfl) ?_
        refine x_A k231_1168 (fun _ => rfl) ?_
        refine x_A k231_1169 (fun _ => rfl) ?_
        refine x_iadd k231_1170 ?_
        refine x_top (fun z589 e_z589 => ?_)
        refine x_scr k231_1171 hN ⟨by omega, by omega⟩ (fun z590 g_z590 e_z590 => ?_)
        unfold in32 at g_z590
        refine x_A k231_1172 (fun _ => rfl) ?_
        refine x_A k231_1173 (fun _ => rfl) ?_
        refine x_A k231_1174 (fun _ => rfl) ?_
        refine x_iadd k231_1175 ?_
        refine x_top (fun z591 e_z591 => ?_)
        refine x_scr k231_1176 hN ⟨by omega, by omega⟩ (fun z592 g_z592 e_z592 => ?_)
        unfold in32 at g_z592
        refine x_callV k231_1177 (y := 118) (n := 3) (w0 := 0) (w1 := 3) (as := [vi z588, vi z590, vi z592]) (rest := []) (by decide +kernel) (q := 0) (nq := 12) (kq := 3) ⟨by decide, rfl⟩ rfl rfl rfl rfl (xe_mono (C_X10_moment_0 s hG z588 (by first | exact x_rbe e_z588 g_z588 rfl rfl | exact x_rb g_z588 rfl rfl | exact ⟨by omega, by omega⟩) z590 (by first | exact x_rbe e_z590 g_z590 rfl rfl | exact x_rb g_z590 rfl rfl | exact ⟨by omega, by omega⟩) z592 (by first | exact x_rbe e_z592 g_z592 rfl rfl | exact x_rb g_z592 rfl rfl | exact ⟨by omega, by omega⟩)) ?_)
        rintro s594 v ⟨hG_s594, t_s594, z593, rfl, g_z593⟩
        have q595 : s594 231 3 = x1000 := (t_s594 231 3 (show 2884 ∉ [2944, 3072, 3200] from by decide +kernel)).trans e_x1000.symm
        have q596 : s594 256 58 = x1001 := (t_s594 256 58 (show 4155 ∉ [2944, 3072, 3200] from by decide +kernel)).trans e_x1001.symm
        have J_s594 : J s594 := J.fl i_J t_s594 (by decide +kernel)
        have TR_s594 : TR s594 := TR.fl i_TR (hG 256 1).2 t_s594 (by decide)
        have X1_s594 : X1 s594 := X1.fl i_X1 t_s594 (by decide +kernel)
        have R1_s594 : R1 s594 := R1.fl i_R1 t_s594 (by decide +kernel)
        have G1_s594 : G1 s594 := G1.fl i_G1 t_s594 (by decide +kernel)
        have G3_s594 : G3 s594 := G3.fl i_G3 t_s594 (by decide +kernel)
        have W1_s594 : W1 s594 := W1.fl i_W1 t_s594 (by decide +kernel)
        have VCj_s594 : VCj s594 := VCj.fl i_VCj hG t_s594 (by decide)
        have VCl_s594 : VCl s594 := VCl.fl i_VCl hG t_s594 (by decide)
        show xe (some (N, xs)) 231 1180 [(0, .ref 2000), (1, .ref 0), (2, .ref 256), (3, vi x3)] [vi z593] s594 295 10442 _
        refine x_A k231_1180 (fun _ => rfl) ?_
        refine x_A k231_1181 (fun _ => rfl) ?_
        refine x_A k231_1182 (fun _ => rfl) ?_
        refine x_A k231_1183 (fun _ => rfl) ?_
        refine x_A k231_1184 (fun _ => rfl) ?_
        refine x_iadd k231_1185 ?_
        refine x_top (fun z597 e_z597 => ?_)
        refine x_scr k231_1186 hN ⟨by omega, by omega⟩ (fun z598 g_z598 e_z598 => ?_)
        unfold in32 at g_z598
        have q_z598 : z598 = z588 := by rw [e_z598, e_z588, show z597 = z587 by omega]
        refine x_A k231_1187 (fun _ => rfl) ?_
        refine x_A k231_1188 (fun _ => rfl) ?_
        refine x_A k231_1189 (fun _ => rfl) ?_
        refine x_iadd k231_1190 ?_
        refine x_top (fun z599 e_z599 => ?_)
        refine x_scr k231_1191 hN ⟨by omega, by omega⟩ (fun z600 g_z600 e_z600 => ?_)
        unfold in32 at g_z600
        have q_z600 : z600 = z590 := by rw [e_z600, e_z590, show z599 = z589 by omega]
        refine x_A k231_1192 (fun _ => rfl) ?_
        refine x_A k231_1193 (fun _ => rfl) ?_
        refine x_A k231_1194 (fun _ => rfl) ?_
        refine x_iadd k231_1195 ?_
        refine x_top (fun z601 e_z601 => ?_)
        refine x_scr k231_1196 hN ⟨by omega, by omega⟩ (fun z602 g_z602 e_z602 => ?_)
        unfold in32 at g_z602
        have q_z602 : z602 = z592 := by rw [e_z602, e_z592, show z601 = z591 by omega]
        refine x_callV k231_1197 (y := 216) (n := 3) (w0 := 0) (w1 := 3) (as := [vi z598, vi z600, vi z602]) (rest := []) (by decide +kernel) (q := 256) (nq := 62) (kq := 15) ⟨by decide, rfl⟩ rfl rfl rfl rfl (xe_mono (C_X11_moment_256 s594 hG_s594 z598 (by first | exact x_rbe e_z598 g_z598 rfl rfl | exact x_rb g_z598 rfl rfl | exact ⟨by omega, by omega⟩) z600 (by first | exact x_rbe e_z600 g_z600 rfl rfl | exact x_rb g_z600 rfl rfl | exact ⟨by omega, by omega⟩) z602 (by first | exact x_rbe e_z602 g_z602 rfl rfl | exact x_rb g_z602 rfl rfl | exact ⟨by omega, by omega⟩)) ?_)
        rintro s604 v ⟨hG_s604, t_s604, z603, rfl, g_z603⟩
        have q605 : s604 231 3 = x1000 := (t_s604 231 3 (show 2884 ∉ [6400, 6464, 6528] from by decide +kernel)).trans q595
        have q606 : s604 256 58 = x1001 := (t_s604 256 58 (show 4155 ∉ [6400, 6464, 6528] from by decide +kernel)).trans q596
        have J_s604 : J s604 := J.fl J_s594 t_s604 (by decide +kernel)
        have TR_s604 : TR s604 := TR.fl TR_s594 (hG_s594 256 1).2 t_s604 (by decide)
        have X1_s604 : X1 s604 := X1.fl X1_s594 t_s604 (by decide +kernel)
        have R1_s604 : R1 s604 := R1.fl R1_s594 t_s604 (by decide +kernel)
        have G1_s604 : G1 s604 := G1.fl G1_s594 t_s604 (by decide +kernel)
        have G3_s604 : G3 s604 := G3.fl G3_s594 t_s604 (by decide +kernel)
        have W1_s604 : W1 s604 := W1.fl W1_s594 t_s604 (by decide +kernel)
        have VCj_s604 : VCj s604 := VCj.fl VCj_s594 hG_s594 t_s604 (by decide)
        have VCl_s604 : VCl s604 := VCl.fl VCl_s594 hG_s594 t_s604 (by decide)
        show xe (some (N, xs)) 231 1200 [(0, .ref 2000), (1, .ref 0), (2, .ref 256), (3, vi x3)] [vi z603] s604 295 10442 _
        refine x_A k231_1200 (fun _ => rfl) ?_
        refine x_goto k231_1201 (t := 1300) rfl ?_
        refine x_iinc k231_1300 (ls' := [(3, vi (x3 + 7)), (0, .ref 2000), (1, .ref 0), (2, .ref 256)]) rfl (by decide) rfl ?_
        refine x_goto k231_1303 (t := 18) rfl ?_
        refine x_ls (l := [(0, .ref 2000), (1, .ref 0), (2, .ref 256), (3, vi (x3 + 7))]) (show ([0, 1, 2, 3] : List Nat).Nodup from by decide +kernel) ⟨rfl, rfl, rfl, rfl, trivial⟩ ?_
        exact ih s604 (x3 + 7) x1000 x1001 hG_s604 trivial ⟨by omega, by omega⟩ (by first | exact x_rb b_x1000 rfl rfl | exact ⟨by omega, by omega⟩) (by first | exact x_rb b_x1001 rfl rfl | exact ⟨by omega, by omega⟩) (by omega) (q605).symm (q606).symm J_s604 TR_s604 X1_s604 R1_s604 G1_s604 G3_s604 W1_s604 VCj_s604 VCl_s604  (by omega)
      · rw [c5]
        refine x_B k231_33 rfl (fun _ => rfl) (fun _ => rfl) (fun _ _ => rfl) ?_
        show xe (some (N, xs)) 231 1204 [(0, .ref 2000), (1, .ref 0), (2, .ref 256), (3, vi x3)] [] s 295 10442 _
        refine x_A k231_1204 (fun _ => rfl) ?_
        refine x_A k231_1205 (fun _ => rfl) ?_
        refine x_A k231_1206 (fun _ => rfl) ?_
        refine x_A k231_1207 (fun _ => rfl) ?_
        refine x_iadd k231_1208 ?_
        refine x_top (fun z607 e_z607 => ?_)
        refine x_scr k231_1209 hN ⟨by omega, by omega⟩ (fun z608 g_z608 e_z608 => ?_)
        unfold in32 at g_z608
        refine x_A k231_1210 (fun _ => rfl) ?_
        refine x_A k231_1211 (fun _ => rfl) ?_
        refine x_A k231_1212 (fun _ => rfl) ?_
        refine x_iadd k231_1213 ?_
        refine x_top (fun z609 e_z609 => ?_)
        refine x_scr k231_1214 hN ⟨by omega, by omega⟩ (fun z610 g_z610 e_z610 => ?_)
        unfold in32 at g_z610
        refine x_A k231_1215 (fun _ => rfl) ?_
        refine x_A k231_1216 (fun _ => rfl) ?_
        refine x_A k231_1217 (fun _ => rfl) ?_
        refine x_iadd k231_1218 ?_
        refine x_top (fun z611 e_z611 => ?_)
        refine x_scr k231_1219 hN ⟨by omega, by omega⟩ (fun z612 g_z612 e_z612 => ?_)
        unfold in32 at g_z612
        refine x_A k231_1220 (fun _ => rfl) ?_
        refine x_A k231_1221 (fun _ => rfl) ?_
        refine x_A k231_1222 (fun _ => rfl) ?_
        refine x_iadd k231_1223 ?_
        refine x_top (fun z613 e_z613 => ?_)
        refine x_scr k231_1224 hN ⟨by omega, by omega⟩ (fun z614 g_z614 e_z614 => ?_)
        unfold in32 at g_z614
        refine x_callV k231_1225 (y := 119) (n := 4) (w0 := 0) (w1 := 4) (as := [vi z608, vi z610, vi z612, vi z614]) (rest := []) (by decide +kernel) (q := 0) (nq := 12) (kq := 3) ⟨by decide, rfl⟩ rfl rfl rfl rfl (xe_mono (V_X10_of_0 s hG i_J z608 (by first | exact x_rbe e_z608 g_z608 rfl rfl | exact x_rb g_z608 rfl rfl | exact ⟨by omega, by omega⟩) z610 (by first | exact x_rbe e_z610 g_z610 rfl rfl | exact x_rb g_z610 rfl rfl | exact ⟨by omega, by omega⟩) z612 (by first | exact x_rbe e_z612 g_z612 rfl rfl | exact x_rb g_z612 rfl rfl | exact ⟨by omega, by omega⟩) z614 (by first | exact x_rbe e_z614 g_z614 rfl rfl | exact x_rb g_z614 rfl rfl | exact ⟨by omega, by omega⟩) i_R1 i_VCj i_VCl) ?_)
        rintro s616 v ⟨hG_s616, t_s616, z615, rfl, g_z615, VCj_s616, VCl_s616⟩
        have q617 : s616 231 3 = x1000 := (t_s616 231 3 (show 2884 ∉ [3329, 3334, 3335, 3336, 3392, 3456, 3520, 3584, 3276, 3648, 3712, 3776, 3840, 3904, 3968, 3277, 4032] from by decide +kernel)).trans e_x1000.symm
        have q618 : s616 256 58 = x1001 := (t_s616 256 58 (show 4155 ∉ [3329, 3334, 3335, 3336, 3392, 3456, 3520, 3584, 3276, 3648, 3712, 3776, 3840, 3904, 3968, 3277, 4032] from by decide +kernel)).trans e_x1001.symm
        have J_s616 : J s616 := J.fl i_J t_s616 (by decide +kernel)
        have TR_s616 : TR s616 := TR.fl i_TR (hG 256 1).2 t_s616 (by decide)
        have X1_s616 : X1 s616 := X1.fl i_X1 t_s616 (by decide +kernel)
        have R1_s616 : R1 s616 := R1.fl i_R1 t_s616 (by decide +kernel)
        have G1_s616 : G1 s616 := G1.fl i_G1 t_s616 (by decide +kernel)
        have G3_s616 : G3 s616 := G3.fl i_G3 t_s616 (by decide +kernel)
        have W1_s616 : W1 s616 := W1.fl i_W1 t_s616 (by decide +kernel)
        show xe (some (N, xs)) 231 1228 [(0, .ref 2000), (1, .ref 0), (2, .ref 256), (3, vi x3)] [vi z615] s616 295 10442 _
        refine x_A k231_1228 (fun _ => rfl) ?_
        refine x_A k231_1229 (fun _ => rfl) ?_
        refine x_A k231_1230 (fun _ => rfl) ?_
        refine x_A k231_1231 (fun _ => rfl) ?_
        refine x_A k231_1232 (fun _ => rfl) ?_
        refine x_iadd k231_1233 ?_
        refine x_top (fun z619 e_z619 => ?_)
        refine x_scr k231_1234 hN ⟨by omega, by omega⟩ (fun z620 g_z620 e_z620 => ?_)
        unfold in32 at g_z620
        have q_z620 : z620 = z608 := by rw [e_z620, e_z608, show z619 = z607 by omega]
        refine x_A k231_1235 (fun _ => rfl) ?_
        refine x_A k231_1236 (fun _ => rfl) ?_
        refine x_A k231_1237 (fun _ => rfl) ?_
        refine x_iadd k231_1238 ?_
        refine x_top (fun z621 e_z621 => ?_)
        refine x_scr k231_1239 hN ⟨by omega, by omega⟩ (fun z622 g_z622 e_z622 => ?_)
        unfold in32 at g_z622
        have q_z622 : z622 = z610 := by rw [e_z622, e_z610, show z621 = z609 by omega]
        refine x_A k231_1240 (fun _ => rfl) ?_
        refine x_A k231_1241 (fun _ => rfl) ?_
        refine x_A k231_1242 (fun _ => rfl) ?_
        refine x_iadd k231_1243 ?_
        refine x_top (fun z623 e_z623 => ?_)
        refine x_scr k231_1244 hN ⟨by omega, by omega⟩ (fun z624 g_z624 e_z624 => ?_)
        unfold in32 at g_z624
        have q_z624 : z624 = z612 := by rw [e_z624, e_z612, show z623 = z611 by omega]
        refine x_A k231_1245 (fun _ => rfl) ?_
        refine x_A k231_1246 (fun _ => rfl) ?_
        refine x_A k231_1247 (fun _ => rfl) ?_
        refine x_iadd k231_1248 ?_
        refine x_top (fun z625 e_z625 => ?_)
        refine x_scr k231_1249 hN ⟨by omega, by omega⟩ (fun z626 g_z626 e_z626 => ?_)
        unfold in32 at g_z626
        have q_z626 : z626 = z614 := by rw [e_z626, e_z614, show z625 = z613 by omega]
        refine x_callV k231_1250 (y := 217) (n := 4) (w0 := 0) (w1 := 4) (as := [vi z620, vi z622, vi z624, vi z626]) (rest := []) (by decide +kernel) (q := 256) (nq := 62) (kq := 15) ⟨by decide, rfl⟩ rfl rfl rfl rfl (xe_mono (C_X11_of_256 s616 hG_s616 J_s616 z620 (by first | exact x_rbe e_z620 g_z620 rfl rfl | exact x_rb g_z620 rfl rfl | exact ⟨by omega, by omega⟩) z622 (by first | exact x_rbe e_z622 g_z622 rfl rfl | exact x_rb g_z622 rfl rfl | exact ⟨by omega, by omega⟩) z624 (by first | exact x_rbe e_z624 g_z624 rfl rfl | exact x_rb g_z624 rfl rfl | exact ⟨by omega, by omega⟩) z626 (by first | exact x_rbe e_z626 g_z626 rfl rfl | exact x_rb g_z626 rfl rfl | exact ⟨by omega, by omega⟩)) ?_)
        rintro s628 v ⟨hG_s628, t_s628, z627, rfl, g_z627⟩
        have q629 : s628 231 3 = x1000 := (t_s628 231 3 (show 2884 ∉ [5312, 5376, 4123, 5440, 5504, 5568, 5632, 5696, 5760] from by decide +kernel)).trans q617
        have q630 : s628 256 58 = x1001 := (t_s628 256 58 (show 4155 ∉ [5312, 5376, 4123, 5440, 5504, 5568, 5632, 5696, 5760] from by decide +kernel)).trans q618
        have J_s628 : J s628 := J.fl J_s616 t_s628 (by decide +kernel)
        have TR_s628 : TR s628 := TR.fl TR_s616 (hG_s616 256 1).2 t_s628 (by decide)
        have X1_s628 : X1 s628 := X1.fl X1_s616 t_s628 (by decide +kernel)
        have R1_s628 : R1 s628 := R1.fl R1_s616 t_s628 (by decide +kernel)
        have G1_s628 : G1 s628 := G1.fl G1_s616 t_s628 (by decide +kernel)
        have G3_s628 : G3 s628 := G3.fl G3_s616 t_s628 (by decide +kernel)
        have W1_s628 : W1 s628 := W1.fl W1_s616 t_s628 (by decide +kernel)
        have VCj_s628 : VCj s628 := VCj.fl VCj_s616 hG_s616 t_s628 (by decide)
        have VCl_s628 : VCl s628 := VCl.fl VCl_s616 hG_s616 t_s628 (by decide)
        show xe (some (N, xs)) 231 1253 [(0, .ref 2000), (1, .ref 0), (2, .ref 256), (3, vi x3)] [vi z627] s628 295 10442 _
        refine x_A k231_1253 (fun _ => rfl) ?_
        refine x_goto k231_1254 (t := 1300) rfl ?_
        refine x_iinc k231_1300 (ls' := [(3, vi (x3 + 7)), (0, .ref 2000), (1, .ref 0), (2, .ref 256)]) rfl (by decide) rfl ?_
        refine x_goto k231_1303 (t := 18) rfl ?_
        refine x_ls (l := [(0, .ref 2000), (1, .ref 0), (2, .ref 256), (3, vi (x3 + 7))]) (show ([0, 1, 2, 3] : List Nat).Nodup from by decide +kernel) ⟨rfl, rfl, rfl, rfl, trivial⟩ ?_
        exact ih s628 (x3 + 7) x1000 x1001 hG_s628 trivial ⟨by omega, by omega⟩ (by first | exact x_rb b_x1000 rfl rfl | exact ⟨by omega, by omega⟩) (by first | exact x_rb b_x1001 rfl rfl | exact ⟨by omega, by omega⟩) (by omega) (q629).symm (q630).symm J_s628 TR_s628 X1_s628 R1_s628 G1_s628 G3_s628 W1_s628 VCj_s628 VCl_s628  (by omega)
      · rw [c5]
        refine x_B k231_33 rfl (fun _ => rfl) (fun _ => rfl) (fun _ _ => rfl) ?_
        show xe (some (N, xs)) 231 1257 [(0, .ref 2000), (1, .ref 0), (2, .ref 256), (3, vi x3)] [] s 295 10442 _
        refine x_A k231_1257 (fun _ => rfl) ?_
        refine x_A k231_1258 (fun _ => rfl) ?_
        refine x_A k231_1259 (fun _ => rfl) ?_
        refine x_A k231_1260 (fun _ => rfl) ?_
        refine x_iadd k231_1261 ?_
        refine x_top (fun z631 e_z631 => ?_)
        refine x_scr k231_1262 hN ⟨by omega, by omega⟩ (fun z632 g_z632 e_z632 => ?_)
        unfold in32 at g_z632
        refine x_A k231_1263 (fun _ => rfl) ?_
        refine x_A k231_1264 (fun _ => rfl) ?_
        refine x_A k231_1265 (fun _ => rfl) ?_
        refine x_iadd k231_1266 ?_
        refine x_top (fun z633 e_z633 => ?_)
        refine x_scr k231_1267 hN ⟨by omega, by omega⟩ (fun z634 g_z634 e_z634 => ?_)
        unfold in32 at g_z634
        refine x_A k231_1268 (fun _ => rfl) ?_
        refine x_A k231_1269 (fun _ => rfl) ?_
        refine x_A k231_1270 (fun _ => rfl) ?_
        refine x_iadd k231_1271 ?_
        refine x_top (fun z635 e_z635 => ?_)
        refine x_scr k231_1272 hN ⟨by omega, by omega⟩ (fun z636 g_z636 e_z636 => ?_)
        unfold in32 at g_z636
        refine x_callV k231_1273 (y := 120) (n := 3) (w0 := 0) (w1 := 3) (as := [vi z632, vi z634, vi z636]) (rest := []) (by decide +kernel) (q := 0) (nq := 12) (kq := 3) ⟨by decide, rfl⟩ rfl rfl rfl rfl (xe_mono (V_X10_split_0 s hG i_J z632 (by first | exact x_rbe e_z632 g_z632 rfl rfl | exact x_rb g_z632 rfl rfl | exact ⟨by omega, by omega⟩) z634 (by first | exact x_rbe e_z634 g_z634 rfl rfl | exact x_rb g_z634 rfl rfl | exact ⟨by omega, by omega⟩) z636 (by first | exact x_rbe e_z636 g_z636 rfl rfl | exact x_rb g_z636 rfl rfl | exact ⟨by omega, by omega⟩) i_R1 i_VCj i_VCl) ?_)
        rintro s638 v ⟨hG_s638, t_s638, z637, rfl, g_z637, VCj_s638, VCl_s638⟩
        have q639 : s638 231 3 = x1000 := (t_s638 231 3 (show 2884 ∉ [3329, 3334, 3335, 3336, 3392, 3456, 3520, 3584, 3276, 3648, 3712, 3776, 3840, 3904, 3968, 3277, 4032] from by decide +kernel)).trans e_x1000.symm
        have q640 : s638 256 58 = x1001 := (t_s638 256 58 (show 4155 ∉ [3329, 3334, 3335, 3336, 3392, 3456, 3520, 3584, 3276, 3648, 3712, 3776, 3840, 3904, 3968, 3277, 4032] from by decide +kernel)).trans e_x1001.symm
        have J_s638 : J s638 := J.fl i_J t_s638 (by decide +kernel)
        have TR_s638 : TR s638 := TR.fl i_TR (hG 256 1).2 t_s638 (by decide)
        have X1_s638 : X1 s638 := X1.fl i_X1 t_s638 (by decide +kernel)
        have R1_s638 : R1 s638 := R1.fl i_R1 t_s638 (by decide +kernel)
        have G1_s638 : G1 s638 := G1.fl i_G1 t_s638 (by decide +kernel)
        have G3_s638 : G3 s638 := G3.fl i_G3 t_s638 (by decide +kernel)
        have W1_s638 : W1 s638 := W1.fl i_W1 t_s638 (by decide +kernel)
        show xe (some (N, xs)) 231 1276 [(0, .ref 2000), (1, .ref 0), (2, .ref 256), (3, vi x3)] [vi z637] s638 295 10442 _
        refine x_A k231_1276 (fun _ => rfl) ?_
        refine x_A k231_1277 (fun _ => rfl) ?_
        refine x_A k231_1278 (fun _ => rfl) ?_
        refine x_A k231_1279 (fun _ => rfl) ?_
        refine x_A k231_1280 (fun _ => rfl) ?_
        refine x_iadd k231_1281 ?_
        refine x_top (fun z641 e_z641 => ?_)
        refine x_scr k231_1282 hN ⟨by omega, by omega⟩ (fun z642 g_z642 e_z642 => ?_)
        unfold in32 at g_z642
        have q_z642 : z642 = z632 := by rw [e_z642, e_z632, show z641 = z631 by omega]
        refine x_A k231_1283 (fun _ => rfl) ?_
        refine x_A k231_1284 (fun _ => rfl) ?_
        refine x_A k231_1285 (fun _ => rfl) ?_
        refine x_iadd k231_1286 ?_
        refine x_top (fun z643 e_z643 => ?_)
        refine x_scr k231_1287 hN ⟨by omega, by omega⟩ (fun z644 g_z644 e_z644 => ?_)
        unfold in32 at g_z644
        have q_z644 : z644 = z634 := by rw [e_z644, e_z634, show z643 = z633 by omega]
        refine x_A k231_1288 (fun _ => rfl) ?_
        refine x_A k231_1289 (fun _ => rfl) ?_
        refine x_A k231_1290 (fun _ => rfl) ?_
        refine x_iadd k231_1291 ?_
        refine x_top (fun z645 e_z645 => ?_)
        refine x_scr k231_1292 hN ⟨by omega, by omega⟩ (fun z646 g_z646 e_z646 => ?_)
        unfold in32 at g_z646
        have q_z646 : z646 = z636 := by rw [e_z646, e_z636, show z645 = z635 by omega]
        refine x_callV k231_1293 (y := 218) (n := 3) (w0 := 0) (w1 := 3) (as := [vi z642, vi z644, vi z646]) (rest := []) (by decide +kernel) (q := 256) (nq := 62) (kq := 15) ⟨by decide, rfl⟩ rfl rfl rfl rfl (xe_mono (C_X11_split_256 s638 hG_s638 J_s638 z642 (by first | exact x_rbe e_z642 g_z642 rfl rfl | exact x_rb g_z642 rfl rfl | exact ⟨by omega, by omega⟩) z644 (by first | exact x_rbe e_z644 g_z644 rfl rfl | exact x_rb g_z644 rfl rfl | exact ⟨by omega, by omega⟩) z646 (by first | exact x_rbe e_z646 g_z646 rfl rfl | exact x_rb g_z646 rfl rfl | exact ⟨by omega, by omega⟩)) ?_)
        rintro s648 v ⟨hG_s648, t_s648, z647, rfl, g_z647⟩
        have q649 : s648 231 3 = x1000 := (t_s648 231 3 (show 2884 ∉ [5312, 5376, 4123, 5440, 5504, 5568, 5632, 5696, 5760] from by decide +kernel)).trans q639
        have q650 : s648 256 58 = x1001 := (t_s648 256 58 (show 4155 ∉ [5312, 5376, 4123, 5440, 5504, 5568, 5632, 5696, 5760] from by decide +kernel)).trans q640
        have J_s648 : J s648 := J.fl J_s638 t_s648 (by decide +kernel)
        have TR_s648 : TR s648 := TR.fl TR_s638 (hG_s638 256 1).2 t_s648 (by decide)
        have X1_s648 : X1 s648 := X1.fl X1_s638 t_s648 (by decide +kernel)
        have R1_s648 : R1 s648 := R1.fl R1_s638 t_s648 (by decide +kernel)
        have G1_s648 : G1 s648 := G1.fl G1_s638 t_s648 (by decide +kernel)
        have G3_s648 : G3 s648 := G3.fl G3_s638 t_s648 (by decide +kernel)
        have W1_s648 : W1 s648 := W1.fl W1_s638 t_s648 (by decide +kernel)
        have VCj_s648 : VCj s648 := VCj.fl VCj_s638 hG_s638 t_s648 (by decide)
        have VCl_s648 : VCl s648 := VCl.fl VCl_s638 hG_s638 t_s648 (by decide)
        show xe (some (N, xs)) 231 1296 [(0, .ref 2000), (1, .ref 0), (2, .ref 256), (3, vi x3)] [vi z647] s648 295 10442 _
        refine x_A k231_1296 (fun _ => rfl) ?_
        refine x_goto k231_1297 (t := 1300) rfl ?_
        refine x_iinc k231_1300 (ls' := [(3, vi (x3 + 7)), (0, .ref 2000), (1, .ref 0), (2, .ref 256)]) rfl (by decide) rfl ?_
        refine x_goto k231_1303 (t := 18) rfl ?_
        refine x_ls (l := [(0, .ref 2000), (1, .ref 0), (2, .ref 256), (3, vi (x3 + 7))]) (show ([0, 1, 2, 3] : List Nat).Nodup from by decide +kernel) ⟨rfl, rfl, rfl, rfl, trivial⟩ ?_
        exact ih s648 (x3 + 7) x1000 x1001 hG_s648 trivial ⟨by omega, by omega⟩ (by first | exact x_rb b_x1000 rfl rfl | exact ⟨by omega, by omega⟩) (by first | exact x_rb b_x1001 rfl rfl | exact ⟨by omega, by omega⟩) (by omega) (q649).symm (q650).symm J_s648 TR_s648 X1_s648 R1_s648 G1_s648 G3_s648 W1_s648 VCj_s648 VCl_s648  (by omega)
      · refine x_tabD k231_33 ⟨by omega, by omega⟩ c5 (t0 := 1300) rfl ?_
        refine x_iinc k231_1300 (ls' := [(3, vi (x3 + 7)), (0, .ref 2000), (1, .ref 0), (2, .ref 256)]) rfl (by decide) rfl ?_
        refine x_goto k231_1303 (t := 18) rfl ?_
        refine x_ls (l := [(0, .ref 2000), (1, .ref 0), (2, .ref 256), (3, vi (x3 + 7))]) (show ([0, 1, 2, 3] : List Nat).Nodup from by decide +kernel) ⟨rfl, rfl, rfl, rfl, trivial⟩ ?_
        exact ih s (x3 + 7) x1000 x1001 hG f ⟨by omega, by omega⟩ (by first | exact x_rb b_x1000 rfl rfl | exact ⟨by omega, by omega⟩) (by first | exact x_rb b_x1001 rfl rfl | exact ⟨by omega, by omega⟩) (by omega) (e_x1000.symm).symm (e_x1001.symm).symm i_J i_TR i_X1 i_R1 i_G1 i_G3 i_W1 i_VCj i_VCl  (by omega)
