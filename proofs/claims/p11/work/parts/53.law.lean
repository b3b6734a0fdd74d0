set_option maxHeartbeats 8000000 in
theorem law_loop (N : Nat) (xs : Nat → Int32) (hN : N ≤ 3584)  : ∀ (n : Nat) (s : xS) (x3 : Int) (hG : GI s) (f : True) (b_x3 : 0 ≤ x3 ∧ x3 ≤ 3584) (i_J : J s) (i_TR : TR s) (i_X1 : X1 s) (i_R1 : R1 s) (i_G1 : G1 s) (i_G3 : G3 s) (i_VCj : VCj s)  (hm : (3584 - x3) < (n : Int)), xe (some (N, xs)) 231 18 [(0, .ref 2000), (1, .ref 0), (2, .ref 256), (3, vi x3)] [] s 295 10442 (fun _ v => v = some (vi 1)) := by
  intro n
  induction n with
  | zero => intro s x3 hG f b_x3 i_J i_TR i_X1 i_R1 i_G1 i_G3 i_VCj  hm; exfalso; omega
  | succ n ih =>
    intro s x3 hG f b_x3 i_J i_TR i_X1 i_R1 i_G1 i_G3 i_VCj  hm
    refine x_A k231_18 (fun _ => rfl) ?_
    refine x_A k231_19 (fun _ => rfl) ?_
    refine x_slen k231_20 ?_
    refine x_bipush k231_21 (by decide +kernel) ?_
    refine x_isub k231_23 ?_
    refine x_top (fun z1 e_z1 => ?_)
    refine x_ic_gt k231_24 (t := 1306) rfl (by first | exact x_rb b_x3 rfl rfl | exact ⟨by omega, by omega⟩) (by first | exact x_rbe e_z1 g_z1 rfl rfl | exact x_rb g_z1 rfl rfl | exact ⟨by omega, by omega⟩) (fun c2 => ?_) (fun c2 => ?_)
    · skip
      refine x_A k231_1306 (fun _ => rfl) ?_
      exact x_zret k231_1307 rfl ⟨by omega, by omega⟩ rfl
    · skip
      refine x_A k231_27 (fun _ => rfl) ?_
      refine x_A k231_28 (fun _ => rfl) ?_
      refine x_scr k231_29 hN ⟨by omega, by omega⟩ (fun z3 g_z3 e_z3 => ?_)
      unfold in32 at g_z3
      refine x_bipush k231_30 (by decide +kernel) ?_
      refine x_and_mask k231_32 ⟨by omega, by omega⟩ (fun z4 g_z4 => ?_)
      have c5 : z4 = 0 ∨ z4 = 1 ∨ z4 = 2 ∨ z4 = 3 ∨ z4 = 4 ∨ z4 = 5 ∨ z4 = 6 ∨ z4 = 7 ∨ z4 = 8 ∨ z4 = 9 ∨ z4 = 10 ∨ z4 = 11 ∨ z4 = 12 ∨ z4 = 13 ∨ z4 = 14 ∨ z4 = 15 ∨ z4 = 16 ∨ z4 = 17 ∨ z4 = 18 ∨ z4 = 19 ∨ z4 = 20 ∨ z4 = 21 ∨ z4 = 22 ∨ z4 = 23 ∨ z4 = 24 ∨ z4 = 25 ∨ z4 = 26 ∨ z4 = 27 ∨ z4 = 28 ∨ z4 = 29 ∨ ¬ (0 ≤ z4 ∧ z4 ≤ 29) := by omega
      rcases c5 with c5 | c5 | c5 | c5 | c5 | c5 | c5 | c5 | c5 | c5 | c5 | c5 | c5 | c5 | c5 | c5 | c5 | c5 | c5 | c5 | c5 | c5 | c5 | c5 | c5 | c5 | c5 | c5 | c5 | c5 | c5
      · rw [c5]
        refine x_B k231_33 rfl (fun _ => rfl) (fun _ => rfl) (fun _ _ => rfl) ?_
        show xe (some (N, xs)) 231 168 [(0, .ref 2000), (1, .ref 0), (2, .ref 256), (3, vi x3)] [] s 295 10442 _
        refine x_A k231_168 (fun _ => rfl) ?_
        refine x_callV k231_169 (y := 91) (n := 0) (w0 := 0) (w1 := 0) (as := []) (rest := []) (by decide +kernel) (q := 0) (nq := 12) (kq := 3) ⟨by decide, rfl⟩ rfl rfl rfl rfl (xe_mono (C_X10_edition_0 s hG) ?_)
        rintro s7 v ⟨hG_s7, t_s7, z6, rfl, g_z6, xp_z6⟩
        have J_s7 : J s7 := J.fl i_J t_s7 (by decide +kernel)
        have X1_s7 : X1 s7 := X1.fl i_X1 t_s7 (by decide +kernel)
        have R1_s7 : R1 s7 := R1.fl i_R1 t_s7 (by decide +kernel)
        have G1_s7 : G1 s7 := G1.fl i_G1 t_s7 (by decide +kernel)
        have VCj_s7 : VCj s7 := VCj.fl i_VCj hG t_s7 (by decide)
        obtain ⟨z8, e_z8⟩ : ∃ z, z = s7 0 10 := ⟨_, rfl⟩
        have g_z8 : (0 : Int) ≤ s7 0 10 ∧ s7 0 10 ≤ 9 := hG_s7 0 10
        show xe (some (N, xs)) 231 172 [(0, .ref 2000), (1, .ref 0), (2, .ref 256), (3, vi x3)] [vi z6] s7 295 10442 _
        refine x_A k231_172 (fun _ => rfl) ?_
        refine x_A k231_173 (fun _ => rfl) ?_
        refine x_callV k231_174 (y := 145) (n := 0) (w0 := 0) (w1 := 0) (as := []) (rest := []) (by decide +kernel) (q := 256) (nq := 62) (kq := 15) ⟨by decide, rfl⟩ rfl rfl rfl rfl (xe_mono (D_X11_edition_256 s7 hG_s7 J_s7) ?_)
        rintro s10 v ⟨hG_s10, t_s10, z9, rfl, g_z9, xp_z9, J_s10⟩
        have q11 : s10 0 10 = z8 := (t_s10 0 10 (show 11 ∉ [4097] from by decide +kernel)).trans e_z8.symm
        have X1_s10 : X1 s10 := X1.fl X1_s7 t_s10 (by decide +kernel)
        have R1_s10 : R1 s10 := R1.fl R1_s7 t_s10 (by decide +kernel)
        have G1_s10 : G1 s10 := G1.fl G1_s7 t_s10 (by decide +kernel)
        have VCj_s10 : VCj s10 := VCj.fl VCj_s7 hG_s7 t_s10 (by decide)
        obtain ⟨z12, e_z12⟩ : ∃ z, z = s10 256 0 := ⟨_, rfl⟩
        have g_z12 : (0 : Int) ≤ s10 256 0 ∧ s10 256 0 ≤ 9 := hG_s10 256 0
        show xe (some (N, xs)) 231 177 [(0, .ref 2000), (1, .ref 0), (2, .ref 256), (3, vi x3)] [vi z9] s10 295 10442 _
        obtain ⟨ez_s10, TR_s10⟩ := TR.ed i_TR hG t_s7 t_s10 (by decide) (by decide) xp_z6 xp_z9
        have G3_s10 := G3.ed i_G3 t_s7 t_s10 (by decide) (by decide) xp_z6
        refine x_A k231_177 (fun _ => rfl) ?_
        refine x_goto k231_178 (t := 1300) rfl ?_
        refine x_iinc k231_1300 (ls' := [(3, vi (x3 + 7)), (0, .ref 2000), (1, .ref 0), (2, .ref 256)]) rfl (by decide) rfl ?_
        refine x_goto k231_1303 (t := 18) rfl ?_
        refine x_ls (l := [(0, .ref 2000), (1, .ref 0), (2, .ref 256), (3, vi (x3 + 7))]) (show ([0, 1, 2, 3] : List Nat).Nodup from by decide +kernel) ⟨rfl, rfl, rfl, rfl, trivial⟩ ?_
        exact ih s10 (x3 + 7) hG_s10 trivial ⟨by omega, by omega⟩ J_s10 TR_s10 X1_s10 R1_s10 G1_s10 G3_s10 VCj_s10  (by omega)
      · rw [c5]
        refine x_B k231_33 rfl (fun _ => rfl) (fun _ => rfl) (fun _ _ => rfl) ?_
        show xe (some (N, xs)) 231 181 [(0, .ref 2000), (1, .ref 0), (2, .ref 256), (3, vi x3)] [] s 295 10442 _
        refine x_A k231_181 (fun _ => rfl) ?_
        refine x_A k231_182 (fun _ => rfl) ?_
        refine x_A k231_183 (fun _ => rfl) ?_
        refine x_A k231_184 (fun _ => rfl) ?_
        refine x_iadd k231_185 ?_
        refine x_top (fun z13 e_z13 => ?_)
        refine x_scr k231_186 hN ⟨by omega, by omega⟩ (fun z14 g_z14 e_z14 => ?_)
        unfold in32 at g_z14
        obtain ⟨z15, e_z15⟩ : ∃ z, z = s 1 4 := ⟨_, rfl⟩
        have g_z15 : (1 : Int) ≤ s 1 4 ∧ s 1 4 ≤ 40 := hG 1 4
        obtain ⟨z16, e_z16⟩ : ∃ z, z = s 0 10 := ⟨_, rfl⟩
        have g_z16 : (0 : Int) ≤ s 0 10 ∧ s 0 10 ≤ 9 := hG 0 10
        refine x_callV k231_187 (y := 92) (n := 1) (w0 := 0) (w1 := 1) (as := [vi z14]) (rest := []) (by decide +kernel) (q := 0) (nq := 12) (kq := 3) ⟨by decide, rfl⟩ rfl rfl rfl rfl (xe_mono (V_X10_mark_0 s hG z14 (by first | exact x_rbe e_z14 g_z14 rfl rfl | exact x_rb g_z14 rfl rfl | exact ⟨by omega, by omega⟩) ⟨by omega, by omega⟩ ⟨by omega, by omega⟩ i_VCj) ?_)
        rintro s18 v ⟨hG_s18, t_s18, z17, rfl, g_z17, xp_z17, VCj_s18⟩
        have q19 : s18 0 10 = z16 := (t_s18 0 10 (show 11 ∉ [69, 128, 384, 3276, 3277] from by decide +kernel)).trans e_z16.symm
        have J_s18 : J s18 := J.fl i_J t_s18 (by decide +kernel)
        have X1_s18 : X1 s18 := X1.fl i_X1 t_s18 (by decide +kernel)
        have R1_s18 : R1 s18 := R1.fl i_R1 t_s18 (by decide +kernel)
        have G1_s18 : G1 s18 := G1.fl i_G1 t_s18 (by decide +kernel)
        obtain ⟨z20, e_z20⟩ : ∃ z, z = s18 1 4 := ⟨_, rfl⟩
        have g_z20 : (1 : Int) ≤ s18 1 4 ∧ s18 1 4 ≤ 40 := hG_s18 1 4
        show xe (some (N, xs)) 231 190 [(0, .ref 2000), (1, .ref 0), (2, .ref 256), (3, vi x3)] [vi z17] s18 295 10442 _
        refine x_A k231_190 (fun _ => rfl) ?_
        refine x_A k231_191 (fun _ => rfl) ?_
        refine x_A k231_192 (fun _ => rfl) ?_
        refine x_A k231_193 (fun _ => rfl) ?_
        refine x_A k231_194 (fun _ => rfl) ?_
        refine x_iadd k231_195 ?_
        refine x_top (fun z21 e_z21 => ?_)
        refine x_scr k231_196 hN ⟨by omega, by omega⟩ (fun z22 g_z22 e_z22 => ?_)
        unfold in32 at g_z22
        have q_z22 : z22 = z14 := by rw [e_z22, e_z14, show z21 = z13 by omega]
        obtain ⟨z23, e_z23⟩ : ∃ z, z = s18 256 1 := ⟨_, rfl⟩
        have g_z23 : (1 : Int) ≤ s18 256 1 ∧ s18 256 1 ≤ 40 := hG_s18 256 1
        obtain ⟨z24, e_z24⟩ : ∃ z, z = s18 256 0 := ⟨_, rfl⟩
        have g_z24 : (0 : Int) ≤ s18 256 0 ∧ s18 256 0 ≤ 9 := hG_s18 256 0
        refine x_callV k231_197 (y := 146) (n := 1) (w0 := 0) (w1 := 1) (as := [vi z22]) (rest := []) (by decide +kernel) (q := 256) (nq := 62) (kq := 15) ⟨by decide, rfl⟩ rfl rfl rfl rfl (xe_mono (V_X11_mark_256 s18 hG_s18 z22 (by first | exact x_rbe e_z22 g_z22 rfl rfl | exact x_rb g_z22 rfl rfl | exact ⟨by omega, by omega⟩) ⟨by omega, by omega⟩ ⟨by omega, by omega⟩ J_s18) ?_)
        rintro s26 v ⟨hG_s26, t_s26, z25, rfl, g_z25, xp_z25, J_s26⟩
        have q27 : s26 0 10 = z16 := (t_s26 0 10 (show 11 ∉ [4098, 4160, 4224, 4288, 4352] from by decide +kernel)).trans q19
        have q28 : s26 1 4 = z20 := (t_s26 1 4 (show 69 ∉ [4098, 4160, 4224, 4288, 4352] from by decide +kernel)).trans e_z20.symm
        have q29 : s26 256 0 = z24 := (t_s26 256 0 (show 4097 ∉ [4098, 4160, 4224, 4288, 4352] from by decide +kernel)).trans e_z24.symm
        have X1_s26 : X1 s26 := X1.fl X1_s18 t_s26 (by decide +kernel)
        have R1_s26 : R1 s26 := R1.fl R1_s18 t_s26 (by decide +kernel)
        have G1_s26 : G1 s26 := G1.fl G1_s18 t_s26 (by decide +kernel)
        have VCj_s26 : VCj s26 := VCj.fl VCj_s18 hG_s18 t_s26 (by decide)
        obtain ⟨z30, e_z30⟩ : ∃ z, z = s26 256 1 := ⟨_, rfl⟩
        have g_z30 : (1 : Int) ≤ s26 256 1 ∧ s26 256 1 ≤ 40 := hG_s26 256 1
        show xe (some (N, xs)) 231 200 [(0, .ref 2000), (1, .ref 0), (2, .ref 256), (3, vi x3)] [vi z25] s26 295 10442 _
        obtain ⟨ez_s26, TR_s26⟩ := TR.mark i_TR hG t_s18 t_s26 (by decide) (by decide) xp_z17 (by rw [← q_z22]; exact xp_z25)
        have G3_s26 := G3.mark i_G3 hG t_s18 t_s26 (by decide) (by decide) xp_z17.1
        refine x_A k231_200 (fun _ => rfl) ?_
        refine x_goto k231_201 (t := 1300) rfl ?_
        refine x_iinc k231_1300 (ls' := [(3, vi (x3 + 7)), (0, .ref 2000), (1, .ref 0), (2, .ref 256)]) rfl (by decide) rfl ?_
        refine x_goto k231_1303 (t := 18) rfl ?_
        refine x_ls (l := [(0, .ref 2000), (1, .ref 0), (2, .ref 256), (3, vi (x3 + 7))]) (show ([0, 1, 2, 3] : List Nat).Nodup from by decide +kernel) ⟨rfl, rfl, rfl, rfl, trivial⟩ ?_
        exact ih s26 (x3 + 7) hG_s26 trivial ⟨by omega, by omega⟩ J_s26 TR_s26 X1_s26 R1_s26 G1_s26 G3_s26 VCj_s26  (by omega)
      · rw [c5]
        refine x_B k231_33 rfl (fun _ => rfl) (fun _ => rfl) (fun _ _ => rfl) ?_
        show xe (some (N, xs)) 231 204 [(0, .ref 2000), (1, .ref 0), (2, .ref 256), (3, vi x3)] [] s 295 10442 _
        refine x_A k231_204 (fun _ => rfl) ?_
        refine x_A k231_205 (fun _ => rfl) ?_
        refine x_A k231_206 (fun _ => rfl) ?_
        refine x_A k231_207 (fun _ => rfl) ?_
        refine x_iadd k231_208 ?_
        refine x_top (fun z31 e_z31 => ?_)
        refine x_scr k231_209 hN ⟨by omega, by omega⟩ (fun z32 g_z32 e_z32 => ?_)
        unfold in32 at g_z32
        refine x_A k231_210 (fun _ => rfl) ?_
        refine x_A k231_211 (fun _ => rfl) ?_
        refine x_A k231_212 (fun _ => rfl) ?_
        refine x_iadd k231_213 ?_
        refine x_top (fun z33 e_z33 => ?_)
        refine x_scr k231_214 hN ⟨by omega, by omega⟩ (fun z34 g_z34 e_z34 => ?_)
        unfold in32 at g_z34
        obtain ⟨z35, e_z35⟩ : ∃ z, z = s 1 4 := ⟨_, rfl⟩
        have g_z35 : (1 : Int) ≤ s 1 4 ∧ s 1 4 ≤ 40 := hG 1 4
        obtain ⟨z36, e_z36⟩ : ∃ z, z = s 0 10 := ⟨_, rfl⟩
        have g_z36 : (0 : Int) ≤ s 0 10 ∧ s 0 10 ≤ 9 := hG 0 10
        refine x_callV k231_215 (y := 93) (n := 2) (w0 := 0) (w1 := 2) (as := [vi z32, vi z34]) (rest := []) (by decide +kernel) (q := 0) (nq := 12) (kq := 3) ⟨by decide, rfl⟩ rfl rfl rfl rfl (xe_mono (V_X10_move_0 s hG z32 (by first | exact x_rbe e_z32 g_z32 rfl rfl | exact x_rb g_z32 rfl rfl | exact ⟨by omega, by omega⟩) z34 (by first | exact x_rbe e_z34 g_z34 rfl rfl | exact x_rb g_z34 rfl rfl | exact ⟨by omega, by omega⟩) ⟨by omega, by omega⟩ ⟨by omega, by omega⟩ i_VCj) ?_)
        rintro s38 v ⟨hG_s38, t_s38, z37, rfl, g_z37, xp_z37, VCj_s38⟩
        have q39 : s38 1 4 = z35 := (t_s38 1 4 (show 69 ∉ [384, 3276, 3277] from by decide +kernel)).trans e_z35.symm
        have q40 : s38 0 10 = z36 := (t_s38 0 10 (show 11 ∉ [384, 3276, 3277] from by decide +kernel)).trans e_z36.symm
        have J_s38 : J s38 := J.fl i_J t_s38 (by decide +kernel)
        have X1_s38 : X1 s38 := X1.fl i_X1 t_s38 (by decide +kernel)
        have R1_s38 : R1 s38 := R1.fl i_R1 t_s38 (by decide +kernel)
        have G1_s38 : G1 s38 := G1.fl i_G1 t_s38 (by decide +kernel)
        have G3_s38 : G3 s38 := G3.fl i_G3 t_s38 (by decide +kernel)
        show xe (some (N, xs)) 231 218 [(0, .ref 2000), (1, .ref 0), (2, .ref 256), (3, vi x3)] [vi z37] s38 295 10442 _
        refine x_A k231_218 (fun _ => rfl) ?_
        refine x_A k231_219 (fun _ => rfl) ?_
        refine x_A k231_220 (fun _ => rfl) ?_
        refine x_A k231_221 (fun _ => rfl) ?_
        refine x_A k231_222 (fun _ => rfl) ?_
        refine x_iadd k231_223 ?_
        refine x_top (fun z41 e_z41 => ?_)
        refine x_scr k231_224 hN ⟨by omega, by omega⟩ (fun z42 g_z42 e_z42 => ?_)
        unfold in32 at g_z42
        have q_z42 : z42 = z32 := by rw [e_z42, e_z32, show z41 = z31 by omega]
        refine x_A k231_225 (fun _ => rfl) ?_
        refine x_A k231_226 (fun _ => rfl) ?_
        refine x_A k231_227 (fun _ => rfl) ?_
        refine x_iadd k231_228 ?_
        refine x_top (fun z43 e_z43 => ?_)
        refine x_scr k231_229 hN ⟨by omega, by omega⟩ (fun z44 g_z44 e_z44 => ?_)
        unfold in32 at g_z44
        have q_z44 : z44 = z34 := by rw [e_z44, e_z34, show z43 = z33 by omega]
        obtain ⟨z45, e_z45⟩ : ∃ z, z = s38 256 1 := ⟨_, rfl⟩
        have g_z45 : (1 : Int) ≤ s38 256 1 ∧ s38 256 1 ≤ 40 := hG_s38 256 1
        obtain ⟨z46, e_z46⟩ : ∃ z, z = s38 256 0 := ⟨_, rfl⟩
        have g_z46 : (0 : Int) ≤ s38 256 0 ∧ s38 256 0 ≤ 9 := hG_s38 256 0
        refine x_callV k231_230 (y := 147) (n := 2) (w0 := 0) (w1 := 2) (as := [vi z42, vi z44]) (rest := []) (by decide +kernel) (q := 256) (nq := 62) (kq := 15) ⟨by decide, rfl⟩ rfl rfl rfl rfl (xe_mono (E_X11_move_256 s38 hG_s38 z42 (by first | exact x_rbe e_z42 g_z42 rfl rfl | exact x_rb g_z42 rfl rfl | exact ⟨by omega, by omega⟩) z44 (by first | exact x_rbe e_z44 g_z44 rfl rfl | exact x_rb g_z44 rfl rfl | exact ⟨by omega, by omega⟩) ⟨by omega, by omega⟩ ⟨by omega, by omega⟩ J_s38) ?_)
        rintro s48 v ⟨hG_s48, t_s48, z47, rfl, g_z47, xp_z47, J_s48⟩
        have q49 : s48 1 4 = z35 := (t_s48 1 4 (show 69 ∉ [4352] from by decide +kernel)).trans q39
        have q50 : s48 0 10 = z36 := (t_s48 0 10 (show 11 ∉ [4352] from by decide +kernel)).trans q40
        have q51 : s48 256 1 = z45 := (t_s48 256 1 (show 4098 ∉ [4352] from by decide +kernel)).trans e_z45.symm
        have q52 : s48 256 0 = z46 := (t_s48 256 0 (show 4097 ∉ [4352] from by decide +kernel)).trans e_z46.symm
        have X1_s48 : X1 s48 := X1.fl X1_s38 t_s48 (by decide +kernel)
        have R1_s48 : R1 s48 := R1.fl R1_s38 t_s48 (by decide +kernel)
        have G1_s48 : G1 s48 := G1.fl G1_s38 t_s48 (by decide +kernel)
        have G3_s48 : G3 s48 := G3.fl G3_s38 t_s48 (by decide +kernel)
        have VCj_s48 : VCj s48 := VCj.fl VCj_s38 hG_s38 t_s48 (by decide)
        show xe (some (N, xs)) 231 233 [(0, .ref 2000), (1, .ref 0), (2, .ref 256), (3, vi x3)] [vi z47] s48 295 10442 _
        obtain ⟨ez_s48, TR_s48⟩ := TR.move i_TR i_J hG t_s38 t_s48 (by decide) (by decide) xp_z37 (by rw [← q_z42, ← q_z44]; exact xp_z47)
        refine x_A k231_233 (fun _ => rfl) ?_
        refine x_goto k231_234 (t := 1300) rfl ?_
        refine x_iinc k231_1300 (ls' := [(3, vi (x3 + 7)), (0, .ref 2000), (1, .ref 0), (2, .ref 256)]) rfl (by decide) rfl ?_
        refine x_goto k231_1303 (t := 18) rfl ?_
        refine x_ls (l := [(0, .ref 2000), (1, .ref 0), (2, .ref 256), (3, vi (x3 + 7))]) (show ([0, 1, 2, 3] : List Nat).Nodup from by decide +kernel) ⟨rfl, rfl, rfl, rfl, trivial⟩ ?_
        exact ih s48 (x3 + 7) hG_s48 trivial ⟨by omega, by omega⟩ J_s48 TR_s48 X1_s48 R1_s48 G1_s48 G3_s48 VCj_s48  (by omega)
      · rw [c5]
        refine x_B k231_33 rfl (fun _ => rfl) (fun _ => rfl) (fun _ _ => rfl) ?_
        show xe (some (N, xs)) 231 237 [(0, .ref 2000), (1, .ref 0), (2, .ref 256), (3, vi x3)] [] s 295 10442 _
        refine x_A k231_237 (fun _ => rfl) ?_
        refine x_A k231_238 (fun _ => rfl) ?_
        refine x_A k231_239 (fun _ => rfl) ?_
        refine x_A k231_240 (fun _ => rfl) ?_
        refine x_iadd k231_241 ?_
        refine x_top (fun z53 e_z53 => ?_)
        refine x_scr k231_242 hN ⟨by omega, by omega⟩ (fun z54 g_z54 e_z54 => ?_)
        unfold in32 at g_z54
        refine x_A k231_243 (fun _ => rfl) ?_
        refine x_A k231_244 (fun _ => rfl) ?_
        refine x_A k231_245 (fun _ => rfl) ?_
        refine x_iadd k231_246 ?_
        refine x_top (fun z55 e_z55 => ?_)
        refine x_scr k231_247 hN ⟨by omega, by omega⟩ (fun z56 g_z56 e_z56 => ?_)
        unfold in32 at g_z56
        obtain ⟨z57, e_z57⟩ : ∃ z, z = s 1 4 := ⟨_, rfl⟩
        have g_z57 : (1 : Int) ≤ s 1 4 ∧ s 1 4 ≤ 40 := hG 1 4
        obtain ⟨z58, e_z58⟩ : ∃ z, z = s 0 10 := ⟨_, rfl⟩
        have g_z58 : (0 : Int) ≤ s 0 10 ∧ s 0 10 ≤ 9 := hG 0 10
        refine x_callV k231_248 (y := 94) (n := 2) (w0 := 0) (w1 := 2) (as := [vi z54, vi z56]) (rest := []) (by decide +kernel) (q := 0) (nq := 12) (kq := 3) ⟨by decide, rfl⟩ rfl rfl rfl rfl (xe_mono (V_X10_end_0 s hG z54 (by first | exact x_rbe e_z54 g_z54 rfl rfl | exact x_rb g_z54 rfl rfl | exact ⟨by omega, by omega⟩) z56 (by first | exact x_rbe e_z56 g_z56 rfl rfl | exact x_rb g_z56 rfl rfl | exact ⟨by omega, by omega⟩) ⟨by omega, by omega⟩ ⟨by omega, by omega⟩ i_VCj) ?_)
        rintro s60 v ⟨hG_s60, t_s60, z59, rfl, g_z59, xp_z59, VCj_s60⟩
        have q61 : s60 1 4 = z57 := (t_s60 1 4 (show 69 ∉ [192, 256, 3276, 3277] from by decide +kernel)).trans e_z57.symm
        have q62 : s60 0 10 = z58 := (t_s60 0 10 (show 11 ∉ [192, 256, 3276, 3277] from by decide +kernel)).trans e_z58.symm
        have J_s60 : J s60 := J.fl i_J t_s60 (by decide +kernel)
        have X1_s60 : X1 s60 := X1.fl i_X1 t_s60 (by decide +kernel)
        have R1_s60 : R1 s60 := R1.fl i_R1 t_s60 (by decide +kernel)
        have G1_s60 : G1 s60 := G1.fl i_G1 t_s60 (by decide +kernel)
        have G3_s60 : G3 s60 := G3.fl i_G3 t_s60 (by decide +kernel)
        show xe (some (N, xs)) 231 251 [(0, .ref 2000), (1, .ref 0), (2, .ref 256), (3, vi x3)] [vi z59] s60 295 10442 _
        refine x_A k231_251 (fun _ => rfl) ?_
        refine x_A k231_252 (fun _ => rfl) ?_
        refine x_A k231_253 (fun _ => rfl) ?_
        refine x_A k231_254 (fun _ => rfl) ?_
        refine x_A k231_255 (fun _ => rfl) ?_
        refine x_iadd k231_256 ?_
        refine x_top (fun z63 e_z63 => ?_)
        refine x_scr k231_257 hN ⟨by omega, by omega⟩ (fun z64 g_z64 e_z64 => ?_)
        unfold in32 at g_z64
        have q_z64 : z64 = z54 := by rw [e_z64, e_z54, show z63 = z53 by omega]
        refine x_A k231_258 (fun _ => rfl) ?_
        refine x_A k231_259 (fun _ => rfl) ?_
        refine x_A k231_260 (fun _ => rfl) ?_
        refine x_iadd k231_261 ?_
        refine x_top (fun z65 e_z65 => ?_)
        refine x_scr k231_262 hN ⟨by omega, by omega⟩ (fun z66 g_z66 e_z66 => ?_)
        unfold in32 at g_z66
        have q_z66 : z66 = z56 := by rw [e_z66, e_z56, show z65 = z55 by omega]
        obtain ⟨z67, e_z67⟩ : ∃ z, z = s60 256 1 := ⟨_, rfl⟩
        have g_z67 : (1 : Int) ≤ s60 256 1 ∧ s60 256 1 ≤ 40 := hG_s60 256 1
        obtain ⟨z68, e_z68⟩ : ∃ z, z = s60 256 0 := ⟨_, rfl⟩
        have g_z68 : (0 : Int) ≤ s60 256 0 ∧ s60 256 0 ≤ 9 := hG_s60 256 0
        refine x_callV k231_263 (y := 148) (n := 2) (w0 := 0) (w1 := 2) (as := [vi z64, vi z66]) (rest := []) (by decide +kernel) (q := 256) (nq := 62) (kq := 15) ⟨by decide, rfl⟩ rfl rfl rfl rfl (xe_mono (V_X11_end_256 s60 hG_s60 z64 (by first | exact x_rbe e_z64 g_z64 rfl rfl | exact x_rb g_z64 rfl rfl | exact ⟨by omega, by omega⟩) z66 (by first | exact x_rbe e_z66 g_z66 rfl rfl | exact x_rb g_z66 rfl rfl | exact ⟨by omega, by omega⟩) ⟨by omega, by omega⟩ ⟨by omega, by omega⟩ J_s60) ?_)
        rintro s70 v ⟨hG_s70, t_s70, z69, rfl, g_z69, xp_z69, J_s70⟩
        have q71 : s70 1 4 = z57 := (t_s70 1 4 (show 69 ∉ [4224, 4288] from by decide +kernel)).trans q61
        have q72 : s70 0 10 = z58 := (t_s70 0 10 (show 11 ∉ [4224, 4288] from by decide +kernel)).trans q62
        have q73 : s70 256 1 = z67 := (t_s70 256 1 (show 4098 ∉ [4224, 4288] from by decide +kernel)).trans e_z67.symm
        have q74 : s70 256 0 = z68 := (t_s70 256 0 (show 4097 ∉ [4224, 4288] from by decide +kernel)).trans e_z68.symm
        have X1_s70 : X1 s70 := X1.fl X1_s60 t_s70 (by decide +kernel)
        have R1_s70 : R1 s70 := R1.fl R1_s60 t_s70 (by decide +kernel)
        have G1_s70 : G1 s70 := G1.fl G1_s60 t_s70 (by decide +kernel)
        have G3_s70 : G3 s70 := G3.fl G3_s60 t_s70 (by decide +kernel)
        have VCj_s70 : VCj s70 := VCj.fl VCj_s60 hG_s60 t_s70 (by decide)
        show xe (some (N, xs)) 231 266 [(0, .ref 2000), (1, .ref 0), (2, .ref 256), (3, vi x3)] [vi z69] s70 295 10442 _
        have TR_s70 := TR.end i_TR hG t_s60 t_s70 (by decide) (by decide) xp_z59 (by rw [← q_z64, ← q_z66]; exact xp_z69)
        refine x_A k231_266 (fun _ => rfl) ?_
        refine x_goto k231_267 (t := 1300) rfl ?_
        refine x_iinc k231_1300 (ls' := [(3, vi (x3 + 7)), (0, .ref 2000), (1, .ref 0), (2, .ref 256)]) rfl (by decide) rfl ?_
        refine x_goto k231_1303 (t := 18) rfl ?_
        refine x_ls (l := [(0, .ref 2000), (1, .ref 0), (2, .ref 256), (3, vi (x3 + 7))]) (show ([0, 1, 2, 3] : List Nat).Nodup from by decide +kernel) ⟨rfl, rfl, rfl, rfl, trivial⟩ ?_
        exact ih s70 (x3 + 7) hG_s70 trivial ⟨by omega, by omega⟩ J_s70 TR_s70 X1_s70 R1_s70 G1_s70 G3_s70 VCj_s70  (by omega)
      · rw [c5]
        refine x_B k231_33 rfl (fun _ => rfl) (fun _ => rfl) (fun _ _ => rfl) ?_
        show xe (some (N, xs)) 231 270 [(0, .ref 2000), (1, .ref 0), (2, .ref 256), (3, vi x3)] [] s 295 10442 _
        refine x_A k231_270 (fun _ => rfl) ?_
        refine x_A k231_271 (fun _ => rfl) ?_
        refine x_A k231_272 (fun _ => rfl) ?_
        refine x_A k231_273 (fun _ => rfl) ?_
        refine x_iadd k231_274 ?_
        refine x_top (fun z75 e_z75 => ?_)
        refine x_scr k231_275 hN ⟨by omega, by omega⟩ (fun z76 g_z76 e_z76 => ?_)
        unfold in32 at g_z76
        refine x_A k231_276 (fun _ => rfl) ?_
        refine x_A k231_277 (fun _ => rfl) ?_
        refine x_A k231_278 (fun _ => rfl) ?_
        refine x_iadd k231_279 ?_
        refine x_top (fun z77 e_z77 => ?_)
        refine x_scr k231_280 hN ⟨by omega, by omega⟩ (fun z78 g_z78 e_z78 => ?_)
        unfold in32 at g_z78
        refine x_A k231_281 (fun _ => rfl) ?_
        refine x_A k231_282 (fun _ => rfl) ?_
        refine x_A k231_283 (fun _ => rfl) ?_
        refine x_iadd k231_284 ?_
        refine x_top (fun z79 e_z79 => ?_)
        refine x_scr k231_285 hN ⟨by omega, by omega⟩ (fun z80 g_z80 e_z80 => ?_)
        unfold in32 at g_z80
        refine x_callV k231_286 (y := 95) (n := 3) (w0 := 0) (w1 := 3) (as := [vi z76, vi z78, vi z80]) (rest := []) (by decide +kernel) (q := 0) (nq := 12) (kq := 3) ⟨by decide, rfl⟩ rfl rfl rfl rfl (xe_mono (V_X10_tree_0 s hG i_J z76 (by first | exact x_rbe e_z76 g_z76 rfl rfl | exact x_rb g_z76 rfl rfl | exact ⟨by omega, by omega⟩) z78 (by first | exact x_rbe e_z78 g_z78 rfl rfl | exact x_rb g_z78 rfl rfl | exact ⟨by omega, by omega⟩) z80 (by first | exact x_rbe e_z80 g_z80 rfl rfl | exact x_rb g_z80 rfl rfl | exact ⟨by omega, by omega⟩) i_R1 i_VCj) ?_)
        rintro s82 v ⟨hG_s82, t_s82, z81, rfl, g_z81, VCj_s82⟩
        have J_s82 : J s82 := J.fl i_J t_s82 (by decide +kernel)
        have TR_s82 : TR s82 := TR.fl i_TR (hG 256 1).2 t_s82 (by decide)
        have X1_s82 : X1 s82 := X1.fl i_X1 t_s82 (by decide +kernel)
        have R1_s82 : R1 s82 := R1.fl i_R1 t_s82 (by decide +kernel)
        have G1_s82 : G1 s82 := G1.fl i_G1 t_s82 (by decide +kernel)
        have G3_s82 : G3 s82 := G3.fl i_G3 t_s82 (by decide +kernel)
        show xe (some (N, xs)) 231 289 [(0, .ref 2000), (1, .ref 0), (2, .ref 256), (3, vi x3)] [vi z81] s82 295 10442 _
        refine x_A k231_289 (fun _ => rfl) ?_
        refine x_A k231_290 (fun _ => rfl) ?_
        refine x_A k231_291 (fun _ => rfl) ?_
        refine x_A k231_292 (fun _ => rfl) ?_
        refine x_A k231_293 (fun _ => rfl) ?_
        refine x_iadd k231_294 ?_
        refine x_top (fun z83 e_z83 => ?_)
        refine x_scr k231_295 hN ⟨by omega, by omega⟩ (fun z84 g_z84 e_z84 => ?_)
        unfold in32 at g_z84
        have q_z84 : z84 = z76 := by rw [e_z84, e_z76, show z83 = z75 by omega]
        refine x_A k231_296 (fun _ => rfl) ?_
        refine x_A k231_297 (fun _ => rfl) ?_
        refine x_A k231_298 (fun _ => rfl) ?_
        refine x_iadd k231_299 ?_
        refine x_top (fun z85 e_z85 => ?_)
        refine x_scr k231_300 hN ⟨by omega, by omega⟩ (fun z86 g_z86 e_z86 => ?_)
        unfold in32 at g_z86
        have q_z86 : z86 = z78 := by rw [e_z86, e_z78, show z85 = z77 by omega]
        refine x_A k231_301 (fun _ => rfl) ?_
        refine x_A k231_302 (fun _ => rfl) ?_
        refine x_A k231_303 (fun _ => rfl) ?_
        refine x_iadd k231_304 ?_
        refine x_top (fun z87 e_z87 => ?_)
        refine x_scr k231_305 hN ⟨by omega, by omega⟩ (fun z88 g_z88 e_z88 => ?_)
        unfold in32 at g_z88
        have q_z88 : z88 = z80 := by rw [e_z88, e_z80, show z87 = z79 by omega]
        refine x_callV k231_306 (y := 149) (n := 3) (w0 := 0) (w1 := 3) (as := [vi z84, vi z86, vi z88]) (rest := []) (by decide +kernel) (q := 256) (nq := 62) (kq := 15) ⟨by decide, rfl⟩ rfl rfl rfl rfl (xe_mono (C_X11_tree_256 s82 hG_s82 J_s82 z84 (by first | exact x_rbe e_z84 g_z84 rfl rfl | exact x_rb g_z84 rfl rfl | exact ⟨by omega, by omega⟩) z86 (by first | exact x_rbe e_z86 g_z86 rfl rfl | exact x_rb g_z86 rfl rfl | exact ⟨by omega, by omega⟩) z88 (by first | exact x_rbe e_z88 g_z88 rfl rfl | exact x_rb g_z88 rfl rfl | exact ⟨by omega, by omega⟩)) ?_)
        rintro s90 v ⟨hG_s90, t_s90, z89, rfl, g_z89⟩
        have J_s90 : J s90 := J.fl J_s82 t_s90 (by decide +kernel)
        have TR_s90 : TR s90 := TR.fl TR_s82 (hG_s82 256 1).2 t_s90 (by decide)
        have X1_s90 : X1 s90 := X1.fl X1_s82 t_s90 (by decide +kernel)
        have R1_s90 : R1 s90 := R1.fl R1_s82 t_s90 (by decide +kernel)
        have G1_s90 : G1 s90 := G1.fl G1_s82 t_s90 (by decide +kernel)
        have G3_s90 : G3 s90 := G3.fl G3_s82 t_s90 (by decide +kernel)
        have VCj_s90 : VCj s90 := VCj.fl VCj_s82 hG_s82 t_s90 (by decide)
        show xe (some (N, xs)) 231 309 [(0, .ref 2000), (1, .ref 0), (2, .ref 256), (3, vi x3)] [vi z89] s90 295 10442 _
        refine x_A k231_309 (fun _ => rfl) ?_
        refine x_goto k231_310 (t := 1300) rfl ?_
        refine x_iinc k231_1300 (ls' := [(3, vi (x3 + 7)), (0, .ref 2000), (1, .ref 0), (2, .ref 256)]) rfl (by decide) rfl ?_
        refine x_goto k231_1303 (t := 18) rfl ?_
        refine x_ls (l := [(0, .ref 2000), (1, .ref 0), (2, .ref 256), (3, vi (x3 + 7))]) (show ([0, 1, 2, 3] : List Nat).Nodup from by decide +kernel) ⟨rfl, rfl, rfl, rfl, trivial⟩ ?_
        exact ih s90 (x3 + 7) hG_s90 trivial ⟨by omega, by omega⟩ J_s90 TR_s90 X1_s90 R1_s90 G1_s90 G3_s90 VCj_s90  (by omega)
      · rw [c5]
        refine x_B k231_33 rfl (fun _ => rfl) (fun _ => rfl) (fun _ _ => rfl) ?_
        show xe (some (N, xs)) 231 313 [(0, .ref 2000), (1, .ref 0), (2, .ref 256), (3, vi x3)] [] s 295 10442 _
        refine x_A k231_313 (fun _ => rfl) ?_
        refine x_A k231_314 (fun _ => rfl) ?_
        refine x_A k231_315 (fun _ => rfl) ?_
        refine x_A k231_316 (fun _ => rfl) ?_
        refine x_iadd k231_317 ?_
        refine x_top (fun z91 e_z91 => ?_)
        refine x_scr k231_318 hN ⟨by omega, by omega⟩ (fun z92 g_z92 e_z92 => ?_)
        unfold in32 at g_z92
        refine x_A k231_319 (fun _ => rfl) ?_
        refine x_A k231_320 (fun _ => rfl) ?_
        refine x_A k231_321 (fun _ => rfl) ?_
        refine x_iadd k231_322 ?_
        refine x_top (fun z93 e_z93 => ?_)
        refine x_scr k231_323 hN ⟨by omega, by omega⟩ (fun z94 g_z94 e_z94 => ?_)
        unfold in32 at g_z94
        refine x_A k231_324 (fun _ => rfl) ?_
        refine x_A k231_325 (fun _ => rfl) ?_
        refine x_A k231_326 (fun _ => rfl) ?_
        refine x_iadd k231_327 ?_
        refine x_top (fun z95 e_z95 => ?_)
        refine x_scr k231_328 hN ⟨by omega, by omega⟩ (fun z96 g_z96 e_z96 => ?_)
        unfold in32 at g_z96
        refine x_callV k231_329 (y := 96) (n := 3) (w0 := 0) (w1 := 3) (as := [vi z92, vi z94, vi z96]) (rest := []) (by decide +kernel) (q := 0) (nq := 12) (kq := 3) ⟨by decide, rfl⟩ rfl rfl rfl rfl (xe_mono (C_X10_below_0 s hG z92 (by first | exact x_rbe e_z92 g_z92 rfl rfl | exact x_rb g_z92 rfl rfl | exact ⟨by omega, by omega⟩) z94 (by first | exact x_rbe e_z94 g_z94 rfl rfl | exact x_rb g_z94 rfl rfl | exact ⟨by omega, by omega⟩) z96 (by first | exact x_rbe e_z96 g_z96 rfl rfl | exact x_rb g_z96 rfl rfl | exact ⟨by omega, by omega⟩)) ?_)
        rintro s98 v ⟨-, t_s98, z97, rfl, g_z97⟩
        rw [t_s98.nil]
        show xe (some (N, xs)) 231 332 [(0, .ref 2000), (1, .ref 0), (2, .ref 256), (3, vi x3)] [vi z97] s 295 10442 _
        refine x_A k231_332 (fun _ => rfl) ?_
        refine x_A k231_333 (fun _ => rfl) ?_
        refine x_A k231_334 (fun _ => rfl) ?_
        refine x_A k231_335 (fun _ => rfl) ?_
        refine x_A k231_336 (fun _ => rfl) ?_
        refine x_iadd k231_337 ?_
        refine x_top (fun z99 e_z99 => ?_)
        refine x_scr k231_338 hN ⟨by omega, by omega⟩ (fun z100 g_z100 e_z100 => ?_)
        unfold in32 at g_z100
        have q_z100 : z100 = z92 := by rw [e_z100, e_z92, show z99 = z91 by omega]
        refine x_A k231_339 (fun _ => rfl) ?_
        refine x_A k231_340 (fun _ => rfl) ?_
        refine x_A k231_341 (fun _ => rfl) ?_
        refine x_iadd k231_342 ?_
        refine x_top (fun z101 e_z101 => ?_)
        refine x_scr k231_343 hN ⟨by omega, by omega⟩ (fun z102 g_z102 e_z102 => ?_)
        unfold in32 at g_z102
        have q_z102 : z102 = z94 := by rw [e_z102, e_z94, show z101 = z93 by omega]
        refine x_A k231_344 (fun _ => rfl) ?_
        refine x_A k231_345 (fun _ => rfl) ?_
        refine x_A k231_346 (fun _ => rfl) ?_
        refine x_iadd k231_347 ?_
        refine x_top (fun z103 e_z103 => ?_)
        refine x_scr k231_348 hN ⟨by omega, by omega⟩ (fun z104 g_z104 e_z104 => ?_)
        unfold in32 at g_z104
        have q_z104 : z104 = z96 := by rw [e_z104, e_z96, show z103 = z95 by omega]
        refine x_callV k231_349 (y := 150) (n := 3) (w0 := 0) (w1 := 3) (as := [vi z100, vi z102, vi z104]) (rest := []) (by decide +kernel) (q := 256) (nq := 62) (kq := 15) ⟨by decide, rfl⟩ rfl rfl rfl rfl (xe_mono (C_X11_below_256 s hG i_J z100 (by first | exact x_rbe e_z100 g_z100 rfl rfl | exact x_rb g_z100 rfl rfl | exact ⟨by omega, by omega⟩) z102 (by first | exact x_rbe e_z102 g_z102 rfl rfl | exact x_rb g_z102 rfl rfl | exact ⟨by omega, by omega⟩) z104 (by first | exact x_rbe e_z104 g_z104 rfl rfl | exact x_rb g_z104 rfl rfl | exact ⟨by omega, by omega⟩)) ?_)
        rintro s106 v ⟨-, t_s106, z105, rfl, g_z105⟩
        rw [t_s106.nil]
        show xe (some (N, xs)) 231 352 [(0, .ref 2000), (1, .ref 0), (2, .ref 256), (3, vi x3)] [vi z105] s 295 10442 _
        refine x_A k231_352 (fun _ => rfl) ?_
        refine x_goto k231_353 (t := 1300) rfl ?_
        refine x_iinc k231_1300 (ls' := [(3, vi (x3 + 7)), (0, .ref 2000), (1, .ref 0), (2, .ref 256)]) rfl (by decide) rfl ?_
        refine x_goto k231_1303 (t := 18) rfl ?_
        refine x_ls (l := [(0, .ref 2000), (1, .ref 0), (2, .ref 256), (3, vi (x3 + 7))]) (show ([0, 1, 2, 3] : List Nat).Nodup from by decide +kernel) ⟨rfl, rfl, rfl, rfl, trivial⟩ ?_
        exact ih s (x3 + 7) hG f ⟨by omega, by omega⟩ i_J i_TR i_X1 i_R1 i_G1 i_G3 i_VCj  (by omega)
      · rw [c5]
        refine x_B k231_33 rfl (fun _ => rfl) (fun _ => rfl) (fun _ _ => rfl) ?_
        show xe (some (N, xs)) 231 356 [(0, .ref 2000), (1, .ref 0), (2, .ref 256), (3, vi x3)] [] s 295 10442 _
        refine x_A k231_356 (fun _ => rfl) ?_
        refine x_A k231_357 (fun _ => rfl) ?_
        refine x_A k231_358 (fun _ => rfl) ?_
        refine x_A k231_359 (fun _ => rfl) ?_
        refine x_iadd k231_360 ?_
        refine x_top (fun z107 e_z107 => ?_)
        refine x_scr k231_361 hN ⟨by omega, by omega⟩ (fun z108 g_z108 e_z108 => ?_)
        unfold in32 at g_z108
        refine x_A k231_362 (fun _ => rfl) ?_
        refine x_A k231_363 (fun _ => rfl) ?_
        refine x_A k231_364 (fun _ => rfl) ?_
        refine x_iadd k231_365 ?_
        refine x_top (fun z109 e_z109 => ?_)
        refine x_scr k231_366 hN ⟨by omega, by omega⟩ (fun z110 g_z110 e_z110 => ?_)
        unfold in32 at g_z110
        refine x_A k231_367 (fun _ => rfl) ?_
        refine x_A k231_368 (fun _ => rfl) ?_
        refine x_A k231_369 (fun _ => rfl) ?_
        refine x_iadd k231_370 ?_
        refine x_top (fun z111 e_z111 => ?_)
        refine x_scr k231_371 hN ⟨by omega, by omega⟩ (fun z112 g_z112 e_z112 => ?_)
        unfold in32 at g_z112
        obtain ⟨z113, e_z113⟩ : ∃ z, z = s 46 3 := ⟨_, rfl⟩
        have g_z113 : (0 : Int) ≤ s 46 3 ∧ s 46 3 ≤ 40 := hG 46 3
        refine x_callV k231_372 (y := 97) (n := 3) (w0 := 0) (w1 := 3) (as := [vi z108, vi z110, vi z112]) (rest := []) (by decide +kernel) (q := 0) (nq := 12) (kq := 3) ⟨by decide, rfl⟩ rfl rfl rfl rfl (xe_mono (E_X10_picture_0 s hG z108 (by first | exact x_rbe e_z108 g_z108 rfl rfl | exact x_rb g_z108 rfl rfl | exact ⟨by omega, by omega⟩) z110 (by first | exact x_rbe e_z110 g_z110 rfl rfl | exact x_rb g_z110 rfl rfl | exact ⟨by omega, by omega⟩) z112 (by first | exact x_rbe e_z112 g_z112 rfl rfl | exact x_rb g_z112 rfl rfl | exact ⟨by omega, by omega⟩) ⟨by omega, by omega⟩) ?_)
        rintro s115 v ⟨hG_s115, t_s115, z114, rfl, g_z114, xp_z114⟩
        have J_s115 : J s115 := J.fl i_J t_s115 (by decide +kernel)
        have TR_s115 : TR s115 := TR.fl i_TR (hG 256 1).2 t_s115 (by decide)
        have X1_s115 : X1 s115 := X1.fl i_X1 t_s115 (by decide +kernel)
        have R1_s115 : R1 s115 := R1.fl i_R1 t_s115 (by decide +kernel)
        have G1_s115 : G1 s115 := G1.fl i_G1 t_s115 (by decide +kernel)
        have VCj_s115 : VCj s115 := VCj.fl i_VCj hG t_s115 (by decide)
        obtain ⟨z116, e_z116⟩ : ∃ z, z = s115 46 3 := ⟨_, rfl⟩
        have g_z116 : (0 : Int) ≤ s115 46 3 ∧ s115 46 3 ≤ 40 := hG_s115 46 3
        show xe (some (N, xs)) 231 375 [(0, .ref 2000), (1, .ref 0), (2, .ref 256), (3, vi x3)] [vi z114] s115 295 10442 _
        refine x_A k231_375 (fun _ => rfl) ?_
        refine x_A k231_376 (fun _ => rfl) ?_
        refine x_A k231_377 (fun _ => rfl) ?_
        refine x_A k231_378 (fun _ => rfl) ?_
        refine x_A k231_379 (fun _ => rfl) ?_
        refine x_iadd k231_380 ?_
        refine x_top (fun z117 e_z117 => ?_)
        refine x_scr k231_381 hN ⟨by omega, by omega⟩ (fun z118 g_z118 e_z118 => ?_)
        unfold in32 at g_z118
        have q_z118 : z118 = z108 := by rw [e_z118, e_z108, show z117 = z107 by omega]
        refine x_A k231_382 (fun _ => rfl) ?_
        refine x_A k231_383 (fun _ => rfl) ?_
        refine x_A k231_384 (fun _ => rfl) ?_
        refine x_iadd k231_385 ?_
        refine x_top (fun z119 e_z119 => ?_)
        refine x_scr k231_386 hN ⟨by omega, by omega⟩ (fun z120 g_z120 e_z120 => ?_)
        unfold in32 at g_z120
        have q_z120 : z120 = z110 := by rw [e_z120, e_z110, show z119 = z109 by omega]
        refine x_A k231_387 (fun _ => rfl) ?_
        refine x_A k231_388 (fun _ => rfl) ?_
        refine x_A k231_389 (fun _ => rfl) ?_
        refine x_iadd k231_390 ?_
        refine x_top (fun z121 e_z121 => ?_)
        refine x_scr k231_391 hN ⟨by omega, by omega⟩ (fun z122 g_z122 e_z122 => ?_)
        unfold in32 at g_z122
        have q_z122 : z122 = z112 := by rw [e_z122, e_z112, show z121 = z111 by omega]
        obtain ⟨z123, e_z123⟩ : ∃ z, z = s115 256 6 := ⟨_, rfl⟩
        have g_z123 : (0 : Int) ≤ s115 256 6 ∧ s115 256 6 ≤ 40 := hG_s115 256 6
        refine x_callV k231_392 (y := 154) (n := 3) (w0 := 0) (w1 := 3) (as := [vi z118, vi z120, vi z122]) (rest := []) (by decide +kernel) (q := 256) (nq := 62) (kq := 15) ⟨by decide, rfl⟩ rfl rfl rfl rfl (xe_mono (E_X11_picture_256 s115 hG_s115 z118 (by first | exact x_rbe e_z118 g_z118 rfl rfl | exact x_rb g_z118 rfl rfl | exact ⟨by omega, by omega⟩) z120 (by first | exact x_rbe e_z120 g_z120 rfl rfl | exact x_rb g_z120 rfl rfl | exact ⟨by omega, by omega⟩) z122 (by first | exact x_rbe e_z122 g_z122 rfl rfl | exact x_rb g_z122 rfl rfl | exact ⟨by omega, by omega⟩) ⟨by omega, by omega⟩ J_s115) ?_)
        rintro s125 v ⟨hG_s125, t_s125, z124, rfl, g_z124, xp_z124, J_s125⟩
        have q126 : s125 46 3 = z116 := (t_s125 46 3 (show 452 ∉ [4103, 4416, 4480, 4544] from by decide +kernel)).trans e_z116.symm
        have TR_s125 : TR s125 := TR.fl TR_s115 (hG_s115 256 1).2 t_s125 (by decide)
        have X1_s125 : X1 s125 := X1.fl X1_s115 t_s125 (by decide +kernel)
        have R1_s125 : R1 s125 := R1.fl R1_s115 t_s125 (by decide +kernel)
        have G1_s125 : G1 s125 := G1.fl G1_s115 t_s125 (by decide +kernel)
        have VCj_s125 : VCj s125 := VCj.fl VCj_s115 hG_s115 t_s125 (by decide)
        obtain ⟨z127, e_z127⟩ : ∃ z, z = s125 256 6 := ⟨_, rfl⟩
        have g_z127 : (0 : Int) ≤ s125 256 6 ∧ s125 256 6 ≤ 40 := hG_s125 256 6
        show xe (some (N, xs)) 231 395 [(0, .ref 2000), (1, .ref 0), (2, .ref 256), (3, vi x3)] [vi z124] s125 295 10442 _
        have g46_s125 := i_G3.1
        have e46_s125 : s125 46 3 = s115 46 3 := t_s125 46 3 (by decide)
        have e256_s125 : s115 256 6 = s 256 6 := t_s115 256 6 (by decide)
        have G3_s125 := G3.pic i_G3 t_s115 t_s125 (by decide) (by decide) (by omega) (by omega)
        refine x_A k231_395 (fun _ => rfl) ?_
        refine x_goto k231_396 (t := 1300) rfl ?_
        refine x_iinc k231_1300 (ls' := [(3, vi (x3 + 7)), (0, .ref 2000), (1, .ref 0), (2, .ref 256)]) rfl (by decide) rfl ?_
        refine x_goto k231_1303 (t := 18) rfl ?_
        refine x_ls (l := [(0, .ref 2000), (1, .ref 0), (2, .ref 256), (3, vi (x3 + 7))]) (show ([0, 1, 2, 3] : List Nat).Nodup from by decide +kernel) ⟨rfl, rfl, rfl, rfl, trivial⟩ ?_
        exact ih s125 (x3 + 7) hG_s125 trivial ⟨by omega, by omega⟩ J_s125 TR_s125 X1_s125 R1_s125 G1_s125 G3_s125 VCj_s125  (by omega)
      · rw [c5]
        refine x_B k231_33 rfl (fun _ => rfl) (fun _ => rfl) (fun _ _ => rfl) ?_
        show xe (some (N, xs)) 231 399 [(0, .ref 2000), (1, .ref 0), (2, .ref 256), (3, vi x3)] [] s 295 10442 _
        refine x_A k231_399 (fun _ => rfl) ?_
        refine x_A k231_400 (fun _ => rfl) ?_
        refine x_A k231_401 (fun _ => rfl) ?_
        refine x_A k231_402 (fun _ => rfl) ?_
        refine x_iadd k231_403 ?_
        refine x_top (fun z128 e_z128 => ?_)
        refine x_scr k231_404 hN ⟨by omega, by omega⟩ (fun z129 g_z129 e_z129 => ?_)
        unfold in32 at g_z129
        refine x_A k231_405 (fun _ => rfl) ?_
        refine x_A k231_406 (fun _ => rfl) ?_
        refine x_A k231_407 (fun _ => rfl) ?_
        refine x_iadd k231_408 ?_
        refine x_top (fun z130 e_z130 => ?_)
        refine x_scr k231_409 hN ⟨by omega, by omega⟩ (fun z131 g_z131 e_z131 => ?_)
        unfold in32 at g_z131
        refine x_A k231_410 (fun _ => rfl) ?_
        refine x_A k231_411 (fun _ => rfl) ?_
        refine x_A k231_412 (fun _ => rfl) ?_
        refine x_iadd k231_413 ?_
        refine x_top (fun z132 e_z132 => ?_)
        refine x_scr k231_414 hN ⟨by omega, by omega⟩ (fun z133 g_z133 e_z133 => ?_)
        unfold in32 at g_z133
        refine x_A k231_415 (fun _ => rfl) ?_
        refine x_A k231_416 (fun _ => rfl) ?_
        refine x_A k231_417 (fun _ => rfl) ?_
        refine x_iadd k231_418 ?_
        refine x_top (fun z134 e_z134 => ?_)
        refine x_scr k231_419 hN ⟨by omega, by omega⟩ (fun z135 g_z135 e_z135 => ?_)
        unfold in32 at g_z135
        obtain ⟨z136, e_z136⟩ : ∃ z, z = s 50 6 := ⟨_, rfl⟩
        have g_z136 : (0 : Int) ≤ s 50 6 ∧ s 50 6 ≤ 120 := hG 50 6
        obtain ⟨z137, e_z137⟩ : ∃ z, z = s 46 3 := ⟨_, rfl⟩
        have g_z137 : (0 : Int) ≤ s 46 3 ∧ s 46 3 ≤ 40 := hG 46 3
        obtain ⟨z138, e_z138⟩ : ∃ z, z = s 1 4 := ⟨_, rfl⟩
        have g_z138 : (1 : Int) ≤ s 1 4 ∧ s 1 4 ≤ 40 := hG 1 4
        obtain ⟨z139, e_z139⟩ : ∃ z, z = s 0 10 := ⟨_, rfl⟩
        have g_z139 : (0 : Int) ≤ s 0 10 ∧ s 0 10 ≤ 9 := hG 0 10
        refine x_callV k231_420 (y := 98) (n := 4) (w0 := 0) (w1 := 4) (as := [vi z129, vi z131, vi z133, vi z135]) (rest := []) (by decide +kernel) (q := 0) (nq := 12) (kq := 3) ⟨by decide, rfl⟩ rfl rfl rfl rfl (xe_mono (V_X10_give_0 s hG z129 (by first | exact x_rbe e_z129 g_z129 rfl rfl | exact x_rb g_z129 rfl rfl | exact ⟨by omega, by omega⟩) z131 (by first | exact x_rbe e_z131 g_z131 rfl rfl | exact x_rb g_z131 rfl rfl | exact ⟨by omega, by omega⟩) z133 (by first | exact x_rbe e_z133 g_z133 rfl rfl | exact x_rb g_z133 rfl rfl | exact ⟨by omega, by omega⟩) z135 (by first | exact x_rbe e_z135 g_z135 rfl rfl | exact x_rb g_z135 rfl rfl | exact ⟨by omega, by omega⟩) ⟨by omega, by omega⟩ ⟨by omega, by omega⟩ ⟨by omega, by omega⟩ ⟨by omega, by omega⟩ i_VCj) ?_)
        rintro s141 v ⟨hG_s141, t_s141, z140, rfl, g_z140, xp_z140, VCj_s141⟩
        have q142 : s141 46 3 = z137 := (t_s141 46 3 (show 452 ∉ [711, 768, 832, 896, 960, 1024, 1152, 3276, 3277] from by decide +kernel)).trans e_z137.symm
        have q143 : s141 1 4 = z138 := (t_s141 1 4 (show 69 ∉ [711, 768, 832, 896, 960, 1024, 1152, 3276, 3277] from by decide +kernel)).trans e_z138.symm
        have q144 : s141 0 10 = z139 := (t_s141 0 10 (show 11 ∉ [711, 768, 832, 896, 960, 1024, 1152, 3276, 3277] from by decide +kernel)).trans e_z139.symm
        have J_s141 : J s141 := J.fl i_J t_s141 (by decide +kernel)
        have TR_s141 : TR s141 := TR.fl i_TR (hG 256 1).2 t_s141 (by decide)
        have X1_s141 : X1 s141 := X1.fl i_X1 t_s141 (by decide +kernel)
        have R1_s141 : R1 s141 := R1.fl i_R1 t_s141 (by decide +kernel)
        obtain ⟨z145, e_z145⟩ : ∃ z, z = s141 50 6 := ⟨_, rfl⟩
        have g_z145 : (0 : Int) ≤ s141 50 6 ∧ s141 50 6 ≤ 120 := hG_s141 50 6
        show xe (some (N, xs)) 231 423 [(0, .ref 2000), (1, .ref 0), (2, .ref 256), (3, vi x3)] [vi z140] s141 295 10442 _
        refine x_A k231_423 (fun _ => rfl) ?_
        refine x_A k231_424 (fun _ => rfl) ?_
        refine x_A k231_425 (fun _ => rfl) ?_
        refine x_A k231_426 (fun _ => rfl) ?_
        refine x_A k231_427 (fun _ => rfl) ?_
        refine x_iadd k231_428 ?_
        refine x_top (fun z146 e_z146 => ?_)
        refine x_scr k231_429 hN ⟨by omega, by omega⟩ (fun z147 g_z147 e_z147 => ?_)
        unfold in32 at g_z147
        have q_z147 : z147 = z129 := by rw [e_z147, e_z129, show z146 = z128 by omega]
        refine x_A k231_430 (fun _ => rfl) ?_
        refine x_A k231_431 (fun _ => rfl) ?_
        refine x_A k231_432 (fun _ => rfl) ?_
        refine x_iadd k231_433 ?_
        refine x_top (fun z148 e_z148 => ?_)
        refine x_scr k231_434 hN ⟨by omega, by omega⟩ (fun z149 g_z149 e_z149 => ?_)
        unfold in32 at g_z149
        have q_z149 : z149 = z131 := by rw [e_z149, e_z131, show z148 = z130 by omega]
        refine x_A k231_435 (fun _ => rfl) ?_
        refine x_A k231_436 (fun _ => rfl) ?_
        refine x_A k231_437 (fun _ => rfl) ?_
        refine x_iadd k231_438 ?_
        refine x_top (fun z150 e_z150 => ?_)
        refine x_scr k231_439 hN ⟨by omega, by omega⟩ (fun z151 g_z151 e_z151 => ?_)
        unfold in32 at g_z151
        have q_z151 : z151 = z133 := by rw [e_z151, e_z133, show z150 = z132 by omega]
        refine x_A k231_440 (fun _ => rfl) ?_
        refine x_A k231_441 (fun _ => rfl) ?_
        refine x_A k231_442 (fun _ => rfl) ?_
        refine x_iadd k231_443 ?_
        refine x_top (fun z152 e_z152 => ?_)
        refine x_scr k231_444 hN ⟨by omega, by omega⟩ (fun z153 g_z153 e_z153 => ?_)
        unfold in32 at g_z153
        have q_z153 : z153 = z135 := by rw [e_z153, e_z135, show z152 = z134 by omega]
        obtain ⟨z154, e_z154⟩ : ∃ z, z = s141 256 10 := ⟨_, rfl⟩
        have g_z154 : (0 : Int) ≤ s141 256 10 ∧ s141 256 10 ≤ 120 := hG_s141 256 10
        obtain ⟨z155, e_z155⟩ : ∃ z, z = s141 256 6 := ⟨_, rfl⟩
        have g_z155 : (0 : Int) ≤ s141 256 6 ∧ s141 256 6 ≤ 40 := hG_s141 256 6
        obtain ⟨z156, e_z156⟩ : ∃ z, z = s141 256 1 := ⟨_, rfl⟩
        have g_z156 : (1 : Int) ≤ s141 256 1 ∧ s141 256 1 ≤ 40 := hG_s141 256 1
        obtain ⟨z157, e_z157⟩ : ∃ z, z = s141 256 0 := ⟨_, rfl⟩
        have g_z157 : (0 : Int) ≤ s141 256 0 ∧ s141 256 0 ≤ 9 := hG_s141 256 0
        refine x_callV k231_445 (y := 155) (n := 4) (w0 := 0) (w1 := 4) (as := [vi z147, vi z149, vi z151, vi z153]) (rest := []) (by decide +kernel) (q := 256) (nq := 62) (kq := 15) ⟨by decide, rfl⟩ rfl rfl rfl rfl (xe_mono (V_X11_give_256 s141 hG_s141 z147 (by first | exact x_rbe e_z147 g_z147 rfl rfl | exact x_rb g_z147 rfl rfl | exact ⟨by omega, by omega⟩) z149 (by first | exact x_rbe e_z149 g_z149 rfl rfl | exact x_rb g_z149 rfl rfl | exact ⟨by omega, by omega⟩) z151 (by first | exact x_rbe e_z151 g_z151 rfl rfl | exact x_rb g_z151 rfl rfl | exact ⟨by omega, by omega⟩) z153 (by first | exact x_rbe e_z153 g_z153 rfl rfl | exact x_rb g_z153 rfl rfl | exact ⟨by omega, by omega⟩) ⟨by omega, by omega⟩ ⟨by omega, by omega⟩ ⟨by omega, by omega⟩ ⟨by omega, by omega⟩) ?_)
        rintro s159 v ⟨hG_s159, t_s159, z158, rfl, g_z158, xp_z158⟩
        have q160 : s159 46 3 = z137 := (t_s159 46 3 (show 452 ∉ [4107, 4608, 4672, 4736, 4800, 4864, 4928] from by decide +kernel)).trans q142
        have q161 : s159 1 4 = z138 := (t_s159 1 4 (show 69 ∉ [4107, 4608, 4672, 4736, 4800, 4864, 4928] from by decide +kernel)).trans q143
        have q162 : s159 0 10 = z139 := (t_s159 0 10 (show 11 ∉ [4107, 4608, 4672, 4736, 4800, 4864, 4928] from by decide +kernel)).trans q144
        have q163 : s159 50 6 = z145 := (t_s159 50 6 (show 711 ∉ [4107, 4608, 4672, 4736, 4800, 4864, 4928] from by decide +kernel)).trans e_z145.symm
        have q164 : s159 256 6 = z155 := (t_s159 256 6 (show 4103 ∉ [4107, 4608, 4672, 4736, 4800, 4864, 4928] from by decide +kernel)).trans e_z155.symm
        have q165 : s159 256 1 = z156 := (t_s159 256 1 (show 4098 ∉ [4107, 4608, 4672, 4736, 4800, 4864, 4928] from by decide +kernel)).trans e_z156.symm
        have q166 : s159 256 0 = z157 := (t_s159 256 0 (show 4097 ∉ [4107, 4608, 4672, 4736, 4800, 4864, 4928] from by decide +kernel)).trans e_z157.symm
        have J_s159 : J s159 := J.fl J_s141 t_s159 (by decide +kernel)
        have TR_s159 : TR s159 := TR.fl TR_s141 (hG_s141 256 1).2 t_s159 (by decide)
        have X1_s159 : X1 s159 := X1.fl X1_s141 t_s159 (by decide +kernel)
        have R1_s159 : R1 s159 := R1.fl R1_s141 t_s159 (by decide +kernel)
        have VCj_s159 : VCj s159 := VCj.fl VCj_s141 hG_s141 t_s159 (by decide)
        obtain ⟨z167, e_z167⟩ : ∃ z, z = s159 256 10 := ⟨_, rfl⟩
        have g_z167 : (0 : Int) ≤ s159 256 10 ∧ s159 256 10 ≤ 120 := hG_s159 256 10
        show xe (some (N, xs)) 231 448 [(0, .ref 2000), (1, .ref 0), (2, .ref 256), (3, vi x3)] [vi z158] s159 295 10442 _
        obtain ⟨ez_s159, G1_s159⟩ := G1.give i_G1 i_TR.1.2.1 i_G3.1 hG t_s141 t_s159 (by decide) (by decide) xp_z140.1 (by rw [← q_z147, ← q_z149, ← q_z151, ← q_z153]; exact xp_z158.1)
        have G3_s159 := G3.give i_G3 i_G1 i_TR.1 i_TR.2.1 hG t_s141 t_s159 (by decide) (by decide) ez_s159 xp_z140.1 xp_z140.2 (by have w_ := xp_z158.2; (try rw [q_z147] at w_); (try rw [q_z149] at w_); (try rw [q_z151] at w_); (try rw [q_z153] at w_); exact w_)
        refine x_A k231_448 (fun _ => rfl) ?_
        refine x_goto k231_449 (t := 1300) rfl ?_
        refine x_iinc k231_1300 (ls' := [(3, vi (x3 + 7)), (0, .ref 2000), (1, .ref 0), (2, .ref 256)]) rfl (by decide) rfl ?_
        refine x_goto k231_1303 (t := 18) rfl ?_
        refine x_ls (l := [(0, .ref 2000), (1, .ref 0), (2, .ref 256), (3, vi (x3 + 7))]) (show ([0, 1, 2, 3] : List Nat).Nodup from by decide +kernel) ⟨rfl, rfl, rfl, rfl, trivial⟩ ?_
        exact ih s159 (x3 + 7) hG_s159 trivial ⟨by omega, by omega⟩ J_s159 TR_s159 X1_s159 R1_s159 G1_s159 G3_s159 VCj_s159  (by omega)
      · rw [c5]
        refine x_B k231_33 rfl (fun _ => rfl) (fun _ => rfl) (fun _ _ => rfl) ?_
        show xe (some (N, xs)) 231 452 [(0, .ref 2000), (1, .ref 0), (2, .ref 256), (3, vi x3)] [] s 295 10442 _
        refine x_A k231_452 (fun _ => rfl) ?_
        refine x_A k231_453 (fun _ => rfl) ?_
        refine x_A k231_454 (fun _ => rfl) ?_
        refine x_A k231_455 (fun _ => rfl) ?_
        refine x_iadd k231_456 ?_
        refine x_top (fun z168 e_z168 => ?_)
        refine x_scr k231_457 hN ⟨by omega, by omega⟩ (fun z169 g_z169 e_z169 => ?_)
        unfold in32 at g_z169
        refine x_A k231_458 (fun _ => rfl) ?_
        refine x_A k231_459 (fun _ => rfl) ?_
        refine x_A k231_460 (fun _ => rfl) ?_
        refine x_iadd k231_461 ?_
        refine x_top (fun z170 e_z170 => ?_)
        refine x_scr k231_462 hN ⟨by omega, by omega⟩ (fun z171 g_z171 e_z171 => ?_)
        unfold in32 at g_z171
        obtain ⟨z172, e_z172⟩ : ∃ z, z = s 50 6 := ⟨_, rfl⟩
        have g_z172 : (0 : Int) ≤ s 50 6 ∧ s 50 6 ≤ 120 := hG 50 6
        obtain ⟨z173, e_z173⟩ : ∃ z, z = s 0 10 := ⟨_, rfl⟩
        have g_z173 : (0 : Int) ≤ s 0 10 ∧ s 0 10 ≤ 9 := hG 0 10
        refine x_callV k231_463 (y := 99) (n := 2) (w0 := 0) (w1 := 2) (as := [vi z169, vi z171]) (rest := []) (by decide +kernel) (q := 0) (nq := 12) (kq := 3) ⟨by decide, rfl⟩ rfl rfl rfl rfl (xe_mono (V_X10_doubt_0 s hG z169 (by first | exact x_rbe e_z169 g_z169 rfl rfl | exact x_rb g_z169 rfl rfl | exact ⟨by omega, by omega⟩) z171 (by first | exact x_rbe e_z171 g_z171 rfl rfl | exact x_rb g_z171 rfl rfl | exact ⟨by omega, by omega⟩) ⟨by omega, by omega⟩ ⟨by omega, by omega⟩ i_VCj) ?_)
        rintro s175 v ⟨hG_s175, t_s175, z174, rfl, g_z174, xp_z174, VCj_s175⟩
        have q176 : s175 50 6 = z172 := (t_s175 50 6 (show 711 ∉ [1152, 3276, 3277] from by decide +kernel)).trans e_z172.symm
        have q177 : s175 0 10 = z173 := (t_s175 0 10 (show 11 ∉ [1152, 3276, 3277] from by decide +kernel)).trans e_z173.symm
        have J_s175 : J s175 := J.fl i_J t_s175 (by decide +kernel)
        have TR_s175 : TR s175 := TR.fl i_TR (hG 256 1).2 t_s175 (by decide)
        have X1_s175 : X1 s175 := X1.fl i_X1 t_s175 (by decide +kernel)
        have R1_s175 : R1 s175 := R1.fl i_R1 t_s175 (by decide +kernel)
        have G3_s175 : G3 s175 := G3.fl i_G3 t_s175 (by decide +kernel)
        show xe (some (N, xs)) 231 466 [(0, .ref 2000), (1, .ref 0), (2, .ref 256), (3, vi x3)] [vi z174] s175 295 10442 _
        refine x_A k231_466 (fun _ => rfl) ?_
        refine x_A k231_467 (fun _ => rfl) ?_
        refine x_A k231_468 (fun _ => rfl) ?_
        refine x_A k231_469 (fun _ => rfl) ?_
        refine x_A k231_470 (fun _ => rfl) ?_
        refine x_iadd k231_471 ?_
        refine x_top (fun z178 e_z178 => ?_)
        refine x_scr k231_472 hN ⟨by omega, by omega⟩ (fun z179 g_z179 e_z179 => ?_)
        unfold in32 at g_z179
        have q_z179 : z179 = z169 := by rw [e_z179, e_z169, show z178 = z168 by omega]
        refine x_A k231_473 (fun _ => rfl) ?_
        refine x_A k231_474 (fun _ => rfl) ?_
        refine x_A k231_475 (fun _ => rfl) ?_
        refine x_iadd k231_476 ?_
        refine x_top (fun z180 e_z180 => ?_)
        refine x_scr k231_477 hN ⟨by omega, by omega⟩ (fun z181 g_z181 e_z181 => ?_)
        unfold in32 at g_z181
        have q_z181 : z181 = z171 := by rw [e_z181, e_z171, show z180 = z170 by omega]
        obtain ⟨z182, e_z182⟩ : ∃ z, z = s175 256 10 := ⟨_, rfl⟩
        have g_z182 : (0 : Int) ≤ s175 256 10 ∧ s175 256 10 ≤ 120 := hG_s175 256 10
        obtain ⟨z183, e_z183⟩ : ∃ z, z = s175 256 0 := ⟨_, rfl⟩
        have g_z183 : (0 : Int) ≤ s175 256 0 ∧ s175 256 0 ≤ 9 := hG_s175 256 0
        refine x_callV k231_478 (y := 157) (n := 2) (w0 := 0) (w1 := 2) (as := [vi z179, vi z181]) (rest := []) (by decide +kernel) (q := 256) (nq := 62) (kq := 15) ⟨by decide, rfl⟩ rfl rfl rfl rfl (xe_mono (E_X11_doubt_256 s175 hG_s175 z179 (by first | exact x_rbe e_z179 g_z179 rfl rfl | exact x_rb g_z179 rfl rfl | exact ⟨by omega, by omega⟩) z181 (by first | exact x_rbe e_z181 g_z181 rfl rfl | exact x_rb g_z181 rfl rfl | exact ⟨by omega, by omega⟩) ⟨by omega, by omega⟩ ⟨by omega, by omega⟩) ?_)
        rintro s185 v ⟨hG_s185, t_s185, z184, rfl, g_z184, xp_z184⟩
        have q186 : s185 50 6 = z172 := (t_s185 50 6 (show 711 ∉ [4928] from by decide +kernel)).trans q176
        have q187 : s185 0 10 = z173 := (t_s185 0 10 (show 11 ∉ [4928] from by decide +kernel)).trans q177
        have q188 : s185 256 10 = z182 := (t_s185 256 10 (show 4107 ∉ [4928] from by decide +kernel)).trans e_z182.symm
        have q189 : s185 256 0 = z183 := (t_s185 256 0 (show 4097 ∉ [4928] from by decide +kernel)).trans e_z183.symm
        have J_s185 : J s185 := J.fl J_s175 t_s185 (by decide +kernel)
        have TR_s185 : TR s185 := TR.fl TR_s175 (hG_s175 256 1).2 t_s185 (by decide)
        have X1_s185 : X1 s185 := X1.fl X1_s175 t_s185 (by decide +kernel)
        have R1_s185 : R1 s185 := R1.fl R1_s175 t_s185 (by decide +kernel)
        have G3_s185 : G3 s185 := G3.fl G3_s175 t_s185 (by decide +kernel)
        have VCj_s185 : VCj s185 := VCj.fl VCj_s175 hG_s175 t_s185 (by decide)
        show xe (some (N, xs)) 231 481 [(0, .ref 2000), (1, .ref 0), (2, .ref 256), (3, vi x3)] [vi z184] s185 295 10442 _
        obtain ⟨ez_s185, G1_s185⟩ := G1.doubt i_G1 i_TR.1.1 hG t_s175 t_s185 (by decide) (by decide) xp_z174 (by rw [← q_z179, ← q_z181]; exact xp_z184)
        refine x_A k231_481 (fun _ => rfl) ?_
        refine x_goto k231_482 (t := 1300) rfl ?_
        refine x_iinc k231_1300 (ls' := [(3, vi (x3 + 7)), (0, .ref 2000), (1, .ref 0), (2, .ref 256)]) rfl (by decide) rfl ?_
        refine x_goto k231_1303 (t := 18) rfl ?_
        refine x_ls (l := [(0, .ref 2000), (1, .ref 0), (2, .ref 256), (3, vi (x3 + 7))]) (show ([0, 1, 2, 3] : List Nat).Nodup from by decide +kernel) ⟨rfl, rfl, rfl, rfl, trivial⟩ ?_
        exact ih s185 (x3 + 7) hG_s185 trivial ⟨by omega, by omega⟩ J_s185 TR_s185 X1_s185 R1_s185 G1_s185 G3_s185 VCj_s185  (by omega)
      · rw [c5]
        refine x_B k231_33 rfl (fun _ => rfl) (fun _ => rfl) (fun _ _ => rfl) ?_
        show xe (some (N, xs)) 231 485 [(0, .ref 2000), (1, .ref 0), (2, .ref 256), (3, vi x3)] [] s 295 10442 _
        refine x_A k231_485 (fun _ => rfl) ?_
        refine x_A k231_486 (fun _ => rfl) ?_
        refine x_A k231_487 (fun _ => rfl) ?_
        refine x_A k231_488 (fun _ => rfl) ?_
        refine x_iadd k231_489 ?_
        refine x_top (fun z190 e_z190 => ?_)
        refine x_scr k231_490 hN ⟨by omega, by omega⟩ (fun z191 g_z191 e_z191 => ?_)
        unfold in32 at g_z191
        refine x_A k231_491 (fun _ => rfl) ?_
        refine x_A k231_492 (fun _ => rfl) ?_
        refine x_A k231_493 (fun _ => rfl) ?_
        refine x_iadd k231_494 ?_
        refine x_top (fun z192 e_z192 => ?_)
        refine x_scr k231_495 hN ⟨by omega, by omega⟩ (fun z193 g_z193 e_z193 => ?_)
        unfold in32 at g_z193
        obtain ⟨z194, e_z194⟩ : ∃ z, z = s 50 6 := ⟨_, rfl⟩
        have g_z194 : (0 : Int) ≤ s 50 6 ∧ s 50 6 ≤ 120 := hG 50 6
        obtain ⟨z195, e_z195⟩ : ∃ z, z = s 0 10 := ⟨_, rfl⟩
        have g_z195 : (0 : Int) ≤ s 0 10 ∧ s 0 10 ≤ 9 := hG 0 10
        refine x_callV k231_496 (y := 100) (n := 2) (w0 := 0) (w1 := 2) (as := [vi z191, vi z193]) (rest := []) (by decide +kernel) (q := 0) (nq := 12) (kq := 3) ⟨by decide, rfl⟩ rfl rfl rfl rfl (xe_mono (W_X10_told_0 s hG i_J z191 (by first | exact x_rbe e_z191 g_z191 rfl rfl | exact x_rb g_z191 rfl rfl | exact ⟨by omega, by omega⟩) z193 (by first | exact x_rbe e_z193 g_z193 rfl rfl | exact x_rb g_z193 rfl rfl | exact ⟨by omega, by omega⟩) ⟨by omega, by omega⟩ ⟨by omega, by omega⟩ i_R1 i_VCj) ?_)
        rintro s197 v ⟨hG_s197, t_s197, z196, rfl, g_z196, xp_z196, VCj_s197⟩
        have q198 : s197 50 6 = z194 := (t_s197 50 6 (show 711 ∉ [3329, 3334, 3335, 3336, 3392, 3456, 3520, 3584, 3276, 3648, 3712, 3776, 3840, 3904, 3968, 3277, 4032] from by decide +kernel)).trans e_z194.symm
        have q199 : s197 0 10 = z195 := (t_s197 0 10 (show 11 ∉ [3329, 3334, 3335, 3336, 3392, 3456, 3520, 3584, 3276, 3648, 3712, 3776, 3840, 3904, 3968, 3277, 4032] from by decide +kernel)).trans e_z195.symm
        have J_s197 : J s197 := J.fl i_J t_s197 (by decide +kernel)
        have TR_s197 : TR s197 := TR.fl i_TR (hG 256 1).2 t_s197 (by decide)
        have X1_s197 : X1 s197 := X1.fl i_X1 t_s197 (by decide +kernel)
        have R1_s197 : R1 s197 := R1.fl i_R1 t_s197 (by decide +kernel)
        have G1_s197 : G1 s197 := G1.fl i_G1 t_s197 (by decide +kernel)
        have G3_s197 : G3 s197 := G3.fl i_G3 t_s197 (by decide +kernel)
        show xe (some (N, xs)) 231 499 [(0, .ref 2000), (1, .ref 0), (2, .ref 256), (3, vi x3)] [vi z196] s197 295 10442 _
        refine x_A k231_499 (fun _ => rfl) ?_
        refine x_A k231_500 (fun _ => rfl) ?_
        refine x_A k231_501 (fun _ => rfl) ?_
        refine x_A k231_502 (fun _ => rfl) ?_
        refine x_iadd k231_503 ?_
        refine x_top (fun z200 e_z200 => ?_)
        refine x_scr k231_504 hN ⟨by omega, by omega⟩ (fun z201 g_z201 e_z201 => ?_)
        unfold in32 at g_z201
        have q_z201 : z201 = z191 := by rw [e_z201, e_z191, show z200 = z190 by omega]
        refine x_A k231_505 (fun _ => rfl) ?_
        refine x_A k231_506 (fun _ => rfl) ?_
        refine x_A k231_507 (fun _ => rfl) ?_
        refine x_iadd k231_508 ?_
        refine x_top (fun z202 e_z202 => ?_)
        refine x_scr k231_509 hN ⟨by omega, by omega⟩ (fun z203 g_z203 e_z203 => ?_)
        unfold in32 at g_z203
        have q_z203 : z203 = z193 := by rw [e_z203, e_z193, show z202 = z192 by omega]
        refine x_callV k231_510 (y := 158) (n := 2) (w0 := 1) (w1 := 2) (as := [vi z201, vi z203]) (rest := [vi z196]) (by decide +kernel) (q := 256) (nq := 62) (kq := 15) ⟨by decide, rfl⟩ rfl rfl rfl rfl (xe_mono (E_X11_told_256 s197 hG_s197 J_s197 z201 (by first | exact x_rbe e_z201 g_z201 rfl rfl | exact x_rb g_z201 rfl rfl | exact ⟨by omega, by omega⟩) z203 (by first | exact x_rbe e_z203 g_z203 rfl rfl | exact x_rb g_z203 rfl rfl | exact ⟨by omega, by omega⟩) R1_s197 TR_s197 G1_s197 G3_s197) ?_)
        rintro s205 v ⟨hG_s205, t_s205, z204, rfl, g_z204, xp_z204⟩
        have q206 : s205 50 6 = z194 := (t_s205 50 6 (show 711 ∉ [5312, 5376, 4123, 5440, 5504, 5568] from by decide +kernel)).trans q198
        have q207 : s205 0 10 = z195 := (t_s205 0 10 (show 11 ∉ [5312, 5376, 4123, 5440, 5504, 5568] from by decide +kernel)).trans q199
        have J_s205 : J s205 := J.fl J_s197 t_s205 (by decide +kernel)
        have TR_s205 : TR s205 := TR.fl TR_s197 (hG_s197 256 1).2 t_s205 (by decide)
        have X1_s205 : X1 s205 := X1.fl X1_s197 t_s205 (by decide +kernel)
        have R1_s205 : R1 s205 := R1.fl R1_s197 t_s205 (by decide +kernel)
        have G1_s205 : G1 s205 := G1.fl G1_s197 t_s205 (by decide +kernel)
        have G3_s205 : G3 s205 := G3.fl G3_s197 t_s205 (by decide +kernel)
        have VCj_s205 : VCj s205 := VCj.fl VCj_s197 hG_s197 t_s205 (by decide)
        show xe (some (N, xs)) 231 513 [(0, .ref 2000), (1, .ref 0), (2, .ref 256), (3, vi x3)] [vi z204, vi z196] s205 295 10442 _
        have ez_s205 := ToC.u xp_z196 (ToC.fl (by rw [← q_z201, ← q_z203]; exact xp_z204) hG t_s197 (by decide))
        refine x_ic_eq k231_513 (t := 1300) rfl (by first | exact x_rbe e_z196 g_z196 rfl rfl | exact x_rb g_z196 rfl rfl | exact ⟨by omega, by omega⟩) (by first | exact x_rbe e_z204 g_z204 rfl rfl | exact x_rb g_z204 rfl rfl | exact ⟨by omega, by omega⟩) (fun c208 => ?_) (fun c208 => ?_)
        · skip
          refine x_iinc k231_1300 (ls' := [(3, vi (x3 + 7)), (0, .ref 2000), (1, .ref 0), (2, .ref 256)]) rfl (by decide) rfl ?_
          refine x_goto k231_1303 (t := 18) rfl ?_
          refine x_ls (l := [(0, .ref 2000), (1, .ref 0), (2, .ref 256), (3, vi (x3 + 7))]) (show ([0, 1, 2, 3] : List Nat).Nodup from by decide +kernel) ⟨rfl, rfl, rfl, rfl, trivial⟩ ?_
          exact ih s205 (x3 + 7) hG_s205 trivial ⟨by omega, by omega⟩ J_s205 TR_s205 X1_s205 R1_s205 G1_s205 G3_s205 VCj_s205  (by omega)
        · skip
          refine x_A k231_516 (fun _ => rfl) ?_
          exfalso; omega
      · rw [c5]
        refine x_B k231_33 rfl (fun _ => rfl) (fun _ => rfl) (fun _ _ => rfl) ?_
        show xe (some (N, xs)) 231 518 [(0, .ref 2000), (1, .ref 0), (2, .ref 256), (3, vi x3)] [] s 295 10442 _
        refine x_A k231_518 (fun _ => rfl) ?_
        refine x_A k231_519 (fun _ => rfl) ?_
        refine x_A k231_520 (fun _ => rfl) ?_
        refine x_A k231_521 (fun _ => rfl) ?_
        refine x_iadd k231_522 ?_
        refine x_top (fun z209 e_z209 => ?_)
        refine x_scr k231_523 hN ⟨by omega, by omega⟩ (fun z210 g_z210 e_z210 => ?_)
        unfold in32 at g_z210
        refine x_A k231_524 (fun _ => rfl) ?_
        refine x_A k231_525 (fun _ => rfl) ?_
        refine x_A k231_526 (fun _ => rfl) ?_
        refine x_iadd k231_527 ?_
        refine x_top (fun z211 e_z211 => ?_)
        refine x_scr k231_528 hN ⟨by omega, by omega⟩ (fun z212 g_z212 e_z212 => ?_)
        unfold in32 at g_z212
        refine x_A k231_529 (fun _ => rfl) ?_
        refine x_A k231_530 (fun _ => rfl) ?_
        refine x_A k231_531 (fun _ => rfl) ?_
        refine x_iadd k231_532 ?_
        refine x_top (fun z213 e_z213 => ?_)
        refine x_scr k231_533 hN ⟨by omega, by omega⟩ (fun z214 g_z214 e_z214 => ?_)
        unfold in32 at g_z214
        refine x_callV k231_534 (y := 101) (n := 3) (w0 := 0) (w1 := 3) (as := [vi z210, vi z212, vi z214]) (rest := []) (by decide +kernel) (q := 0) (nq := 12) (kq := 3) ⟨by decide, rfl⟩ rfl rfl rfl rfl (xe_mono (V_X10_means_0 s hG i_J z210 (by first | exact x_rbe e_z210 g_z210 rfl rfl | exact x_rb g_z210 rfl rfl | exact ⟨by omega, by omega⟩) z212 (by first | exact x_rbe e_z212 g_z212 rfl rfl | exact x_rb g_z212 rfl rfl | exact ⟨by omega, by omega⟩) z214 (by first | exact x_rbe e_z214 g_z214 rfl rfl | exact x_rb g_z214 rfl rfl | exact ⟨by omega, by omega⟩) i_R1 i_VCj) ?_)
        rintro s216 v ⟨hG_s216, t_s216, z215, rfl, g_z215, VCj_s216⟩
        have J_s216 : J s216 := J.fl i_J t_s216 (by decide +kernel)
        have TR_s216 : TR s216 := TR.fl i_TR (hG 256 1).2 t_s216 (by decide)
        have X1_s216 : X1 s216 := X1.fl i_X1 t_s216 (by decide +kernel)
        have R1_s216 : R1 s216 := R1.fl i_R1 t_s216 (by decide +kernel)
        have G1_s216 : G1 s216 := G1.fl i_G1 t_s216 (by decide +kernel)
        have G3_s216 : G3 s216 := G3.fl i_G3 t_s216 (by decide +kernel)
        show xe (some (N, xs)) 231 537 [(0, .ref 2000), (1, .ref 0), (2, .ref 256), (3, vi x3)] [vi z215] s216 295 10442 _
        refine x_A k231_537 (fun _ => rfl) ?_
        refine x_A k231_538 (fun _ => rfl) ?_
        refine x_A k231_539 (fun _ => rfl) ?_
        refine x_A k231_540 (fun _ => rfl) ?_
        refine x_A k231_541 (fun _ => rfl) ?_
        refine x_iadd k231_542 ?_
        refine x_top (fun z217 e_z217 => ?_)
        refine x_scr k231_543 hN ⟨by omega, by omega⟩ (fun z218 g_z218 e_z218 => ?_)
        unfold in32 at g_z218
        have q_z218 : z218 = z210 := by rw [e_z218, e_z210, show z217 = z209 by omega]
        refine x_A k231_544 (fun _ => rfl) ?_
        refine x_A k231_545 (fun _ => rfl) ?_
        refine x_A k231_546 (fun _ => rfl) ?_
        refine x_iadd k231_547 ?_
        refine x_top (fun z219 e_z219 => ?_)
        refine x_scr k231_548 hN ⟨by omega, by omega⟩ (fun z220 g_z220 e_z220 => ?_)
        unfold in32 at g_z220
        have q_z220 : z220 = z212 := by rw [e_z220, e_z212, show z219 = z211 by omega]
        refine x_A k231_549 (fun _ => rfl) ?_
        refine x_A k231_550 (fun _ => rfl) ?_
        refine x_A k231_551 (fun _ => rfl) ?_
        refine x_iadd k231_552 ?_
        refine x_top (fun z221 e_z221 => ?_)
        refine x_scr k231_553 hN ⟨by omega, by omega⟩ (fun z222 g_z222 e_z222 => ?_)
        unfold in32 at g_z222
        have q_z222 : z222 = z214 := by rw [e_z222, e_z214, show z221 = z213 by omega]
        refine x_callV k231_554 (y := 172) (n := 3) (w0 := 0) (w1 := 3) (as := [vi z218, vi z220, vi z222]) (rest := []) (by decide +kernel) (q := 256) (nq := 62) (kq := 15) ⟨by decide, rfl⟩ rfl rfl rfl rfl (xe_mono (C_X11_means_256 s216 hG_s216 J_s216 z218 (by first | exact x_rbe e_z218 g_z218 rfl rfl | exact x_rb g_z218 rfl rfl | exact ⟨by omega, by omega⟩) z220 (by first | exact x_rbe e_z220 g_z220 rfl rfl | exact x_rb g_z220 rfl rfl | exact ⟨by omega, by omega⟩) z222 (by first | exact x_rbe e_z222 g_z222 rfl rfl | exact x_rb g_z222 rfl rfl | exact ⟨by omega, by omega⟩)) ?_)
        rintro s224 v ⟨hG_s224, t_s224, z223, rfl, g_z223⟩
        have J_s224 : J s224 := J.fl J_s216 t_s224 (by decide +kernel)
        have TR_s224 : TR s224 := TR.fl TR_s216 (hG_s216 256 1).2 t_s224 (by decide)
        have X1_s224 : X1 s224 := X1.fl X1_s216 t_s224 (by decide +kernel)
        have R1_s224 : R1 s224 := R1.fl R1_s216 t_s224 (by decide +kernel)
        have G1_s224 : G1 s224 := G1.fl G1_s216 t_s224 (by decide +kernel)
        have G3_s224 : G3 s224 := G3.fl G3_s216 t_s224 (by decide +kernel)
        have VCj_s224 : VCj s224 := VCj.fl VCj_s216 hG_s216 t_s224 (by decide)
        show xe (some (N, xs)) 231 557 [(0, .ref 2000), (1, .ref 0), (2, .ref 256), (3, vi x3)] [vi z223] s224 295 10442 _
        refine x_A k231_557 (fun _ => rfl) ?_
        refine x_goto k231_558 (t := 1300) rfl ?_
        refine x_iinc k231_1300 (ls' := [(3, vi (x3 + 7)), (0, .ref 2000), (1, .ref 0), (2, .ref 256)]) rfl (by decide) rfl ?_
        refine x_goto k231_1303 (t := 18) rfl ?_
        refine x_ls (l := [(0, .ref 2000), (1, .ref 0), (2, .ref 256), (3, vi (x3 + 7))]) (show ([0, 1, 2, 3] : List Nat).Nodup from by decide +kernel) ⟨rfl, rfl, rfl, rfl, trivial⟩ ?_
        exact ih s224 (x3 + 7) hG_s224 trivial ⟨by omega, by omega⟩ J_s224 TR_s224 X1_s224 R1_s224 G1_s224 G3_s224 VCj_s224  (by omega)
      · rw [c5]
        refine x_B k231_33 rfl (fun _ => rfl) (fun _ => rfl) (fun _ _ => rfl) ?_
        show xe (some (N, xs)) 231 561 [(0, .ref 2000), (1, .ref 0), (2, .ref 256), (3, vi x3)] [] s 295 10442 _
        refine x_A k231_561 (fun _ => rfl) ?_
        refine x_A k231_562 (fun _ => rfl) ?_
        refine x_A k231_563 (fun _ => rfl) ?_
        refine x_A k231_564 (fun _ => rfl) ?_
        refine x_iadd k231_565 ?_
        refine x_top (fun z225 e_z225 => ?_)
        refine x_scr k231_566 hN ⟨by omega, by omega⟩ (fun z226 g_z226 e_z226 => ?_)
        unfold in32 at g_z226
        refine x_A k231_567 (fun _ => rfl) ?_
        refine x_A k231_568 (fun _ => rfl) ?_
        refine x_A k231_569 (fun _ => rfl) ?_
        refine x_iadd k231_570 ?_
        refine x_top (fun z227 e_z227 => ?_)
        refine x_scr k231_571 hN ⟨by omega, by omega⟩ (fun z228 g_z228 e_z228 => ?_)
        unfold in32 at g_z228
        refine x_A k231_572 (fun _ => rfl) ?_
        refine x_A k231_573 (fun _ => rfl) ?_
        refine x_A k231_574 (fun _ => rfl) ?_
        refine x_iadd k231_575 ?_
        refine x_top (fun z229 e_z229 => ?_)
        refine x_scr k231_576 hN ⟨by omega, by omega⟩ (fun z230 g_z230 e_z230 => ?_)
        unfold in32 at g_z230
        refine x_callV k231_577 (y := 102) (n := 3) (w0 := 0) (w1 := 3) (as := [vi z226, vi z228, vi z230]) (rest := []) (by decide +kernel) (q := 0) (nq := 12) (kq := 3) ⟨by decide, rfl⟩ rfl rfl rfl rfl (xe_mono (V_X10_led_0 s hG i_J z226 (by first | exact x_rbe e_z226 g_z226 rfl rfl | exact x_rb g_z226 rfl rfl | exact ⟨by omega, by omega⟩) z228 (by first | exact x_rbe e_z228 g_z228 rfl rfl | exact x_rb g_z228 rfl rfl | exact ⟨by omega, by omega⟩) z230 (by first | exact x_rbe e_z230 g_z230 rfl rfl | exact x_rb g_z230 rfl rfl | exact ⟨by omega, by omega⟩) i_R1 i_VCj) ?_)
        rintro s232 v ⟨hG_s232, t_s232, z231, rfl, g_z231, VCj_s232⟩
        have J_s232 : J s232 := J.fl i_J t_s232 (by decide +kernel)
        have TR_s232 : TR s232 := TR.fl i_TR (hG 256 1).2 t_s232 (by decide)
        have X1_s232 : X1 s232 := X1.fl i_X1 t_s232 (by decide +kernel)
        have R1_s232 : R1 s232 := R1.fl i_R1 t_s232 (by decide +kernel)
        have G1_s232 : G1 s232 := G1.fl i_G1 t_s232 (by decide +kernel)
        have G3_s232 : G3 s232 := G3.fl i_G3 t_s232 (by decide +kernel)
        show xe (some (N, xs)) 231 580 [(0, .ref 2000), (1, .ref 0), (2, .ref 256), (3, vi x3)] [vi z231] s232 295 10442 _
        refine x_A k231_580 (fun _ => rfl) ?_
        refine x_A k231_581 (fun _ => rfl) ?_
        refine x_A k231_582 (fun _ => rfl) ?_
        refine x_A k231_583 (fun _ => rfl) ?_
        refine x_A k231_584 (fun _ => rfl) ?_
        refine x_iadd k231_585 ?_
        refine x_top (fun z233 e_z233 => ?_)
        refine x_scr k231_586 hN ⟨by omega, by omega⟩ (fun z234 g_z234 e_z234 => ?_)
        unfold in32 at g_z234
        have q_z234 : z234 = z226 := by rw [e_z234, e_z226, show z233 = z225 by omega]
        refine x_A k231_587 (fun _ => rfl) ?_
        refine x_A k231_588 (fun _ => rfl) ?_
        refine x_A k231_589 (fun _ => rfl) ?_
        refine x_iadd k231_590 ?_
        refine x_top (fun z235 e_z235 => ?_)
        refine x_scr k231_591 hN ⟨by omega, by omega⟩ (fun z236 g_z236 e_z236 => ?_)
        unfold in32 at g_z236
        have q_z236 : z236 = z228 := by rw [e_z236, e_z228, show z235 = z227 by omega]
        refine x_A k231_592 (fun _ => rfl) ?_
        refine x_A k231_593 (fun _ => rfl) ?_
        refine x_A k231_594 (fun _ => rfl) ?_
        refine x_iadd k231_595 ?_
        refine x_top (fun z237 e_z237 => ?_)
        refine x_scr k231_596 hN ⟨by omega, by omega⟩ (fun z238 g_z238 e_z238 => ?_)
        unfold in32 at g_z238
        have q_z238 : z238 = z230 := by rw [e_z238, e_z230, show z237 = z229 by omega]
        refine x_callV k231_597 (y := 173) (n := 3) (w0 := 0) (w1 := 3) (as := [vi z234, vi z236, vi z238]) (rest := []) (by decide +kernel) (q := 256) (nq := 62) (kq := 15) ⟨by decide, rfl⟩ rfl rfl rfl rfl (xe_mono (C_X11_led_256 s232 hG_s232 J_s232 z234 (by first | exact x_rbe e_z234 g_z234 rfl rfl | exact x_rb g_z234 rfl rfl | exact ⟨by omega, by omega⟩) z236 (by first | exact x_rbe e_z236 g_z236 rfl rfl | exact x_rb g_z236 rfl rfl | exact ⟨by omega, by omega⟩) z238 (by first | exact x_rbe e_z238 g_z238 rfl rfl | exact x_rb g_z238 rfl rfl | exact ⟨by omega, by omega⟩)) ?_)
        rintro s240 v ⟨hG_s240, t_s240, z239, rfl, g_z239⟩
        have J_s240 : J s240 := J.fl J_s232 t_s240 (by decide +kernel)
        have TR_s240 : TR s240 := TR.fl TR_s232 (hG_s232 256 1).2 t_s240 (by decide)
        have X1_s240 : X1 s240 := X1.fl X1_s232 t_s240 (by decide +kernel)
        have R1_s240 : R1 s240 := R1.fl R1_s232 t_s240 (by decide +kernel)
        have G1_s240 : G1 s240 := G1.fl G1_s232 t_s240 (by decide +kernel)
        have G3_s240 : G3 s240 := G3.fl G3_s232 t_s240 (by decide +kernel)
        have VCj_s240 : VCj s240 := VCj.fl VCj_s232 hG_s232 t_s240 (by decide)
        show xe (some (N, xs)) 231 600 [(0, .ref 2000), (1, .ref 0), (2, .ref 256), (3, vi x3)] [vi z239] s240 295 10442 _
        refine x_A k231_600 (fun _ => rfl) ?_
        refine x_goto k231_601 (t := 1300) rfl ?_
        refine x_iinc k231_1300 (ls' := [(3, vi (x3 + 7)), (0, .ref 2000), (1, .ref 0), (2, .ref 256)]) rfl (by decide) rfl ?_
        refine x_goto k231_1303 (t := 18) rfl ?_
        refine x_ls (l := [(0, .ref 2000), (1, .ref 0), (2, .ref 256), (3, vi (x3 + 7))]) (show ([0, 1, 2, 3] : List Nat).Nodup from by decide +kernel) ⟨rfl, rfl, rfl, rfl, trivial⟩ ?_
        exact ih s240 (x3 + 7) hG_s240 trivial ⟨by omega, by omega⟩ J_s240 TR_s240 X1_s240 R1_s240 G1_s240 G3_s240 VCj_s240  (by omega)
      · rw [c5]
        refine x_B k231_33 rfl (fun _ => rfl) (fun _ => rfl) (fun _ _ => rfl) ?_
        show xe (some (N, xs)) 231 604 [(0, .ref 2000), (1, .ref 0), (2, .ref 256), (3, vi x3)] [] s 295 10442 _
        refine x_A k231_604 (fun _ => rfl) ?_
        refine x_A k231_605 (fun _ => rfl) ?_
        refine x_A k231_606 (fun _ => rfl) ?_
        refine x_A k231_607 (fun _ => rfl) ?_
        refine x_iadd k231_608 ?_
        refine x_top (fun z241 e_z241 => ?_)
        refine x_scr k231_609 hN ⟨by omega, by omega⟩ (fun z242 g_z242 e_z242 => ?_)
        unfold in32 at g_z242
        refine x_callV k231_610 (y := 103) (n := 1) (w0 := 0) (w1 := 1) (as := [vi z242]) (rest := []) (by decide +kernel) (q := 0) (nq := 12) (kq := 3) ⟨by decide, rfl⟩ rfl rfl rfl rfl (xe_mono (V_X10_count_0 s hG i_J z242 (by first | exact x_rbe e_z242 g_z242 rfl rfl | exact x_rb g_z242 rfl rfl | exact ⟨by omega, by omega⟩) i_R1 i_VCj) ?_)
        rintro s244 v ⟨hG_s244, t_s244, z243, rfl, g_z243, VCj_s244⟩
        have J_s244 : J s244 := J.fl i_J t_s244 (by decide +kernel)
        have TR_s244 : TR s244 := TR.fl i_TR (hG 256 1).2 t_s244 (by decide)
        have X1_s244 : X1 s244 := X1.fl i_X1 t_s244 (by decide +kernel)
        have R1_s244 : R1 s244 := R1.fl i_R1 t_s244 (by decide +kernel)
        have G1_s244 : G1 s244 := G1.fl i_G1 t_s244 (by decide +kernel)
        have G3_s244 : G3 s244 := G3.fl i_G3 t_s244 (by decide +kernel)
        show xe (some (N, xs)) 231 613 [(0, .ref 2000), (1, .ref 0), (2, .ref 256), (3, vi x3)] [vi z243] s244 295 10442 _
        refine x_A k231_613 (fun _ => rfl) ?_
        refine x_A k231_614 (fun _ => rfl) ?_
        refine x_A k231_615 (fun _ => rfl) ?_
        refine x_A k231_616 (fun _ => rfl) ?_
        refine x_A k231_617 (fun _ => rfl) ?_
        refine x_iadd k231_618 ?_
        refine x_top (fun z245 e_z245 => ?_)
        refine x_scr k231_619 hN ⟨by omega, by omega⟩ (fun z246 g_z246 e_z246 => ?_)
        unfold in32 at g_z246
        have q_z246 : z246 = z242 := by rw [e_z246, e_z242, show z245 = z241 by omega]
        refine x_callV k231_620 (y := 174) (n := 1) (w0 := 0) (w1 := 1) (as := [vi z246]) (rest := []) (by decide +kernel) (q := 256) (nq := 62) (kq := 15) ⟨by decide, rfl⟩ rfl rfl rfl rfl (xe_mono (C_X11_count_256 s244 hG_s244 J_s244 z246 (by first | exact x_rbe e_z246 g_z246 rfl rfl | exact x_rb g_z246 rfl rfl | exact ⟨by omega, by omega⟩)) ?_)
        rintro s248 v ⟨hG_s248, t_s248, z247, rfl, g_z247⟩
        have J_s248 : J s248 := J.fl J_s244 t_s248 (by decide +kernel)
        have TR_s248 : TR s248 := TR.fl TR_s244 (hG_s244 256 1).2 t_s248 (by decide)
        have X1_s248 : X1 s248 := X1.fl X1_s244 t_s248 (by decide +kernel)
        have R1_s248 : R1 s248 := R1.fl R1_s244 t_s248 (by decide +kernel)
        have G1_s248 : G1 s248 := G1.fl G1_s244 t_s248 (by decide +kernel)
        have G3_s248 : G3 s248 := G3.fl G3_s244 t_s248 (by decide +kernel)
        have VCj_s248 : VCj s248 := VCj.fl VCj_s244 hG_s244 t_s248 (by decide)
        show xe (some (N, xs)) 231 623 [(0, .ref 2000), (1, .ref 0), (2, .ref 256), (3, vi x3)] [vi z247] s248 295 10442 _
        refine x_A k231_623 (fun _ => rfl) ?_
        refine x_goto k231_624 (t := 1300) rfl ?_
        refine x_iinc k231_1300 (ls' := [(3, vi (x3 + 7)), (0, .ref 2000), (1, .ref 0), (2, .ref 256)]) rfl (by decide) rfl ?_
        refine x_goto k231_1303 (t := 18) rfl ?_
        refine x_ls (l := [(0, .ref 2000), (1, .ref 0), (2, .ref 256), (3, vi (x3 + 7))]) (show ([0, 1, 2, 3] : List Nat).Nodup from by decide +kernel) ⟨rfl, rfl, rfl, rfl, trivial⟩ ?_
        exact ih s248 (x3 + 7) hG_s248 trivial ⟨by omega, by omega⟩ J_s248 TR_s248 X1_s248 R1_s248 G1_s248 G3_s248 VCj_s248  (by omega)
      · rw [c5]
        refine x_B k231_33 rfl (fun _ => rfl) (fun _ => rfl) (fun _ _ => rfl) ?_
        show xe (some (N, xs)) 231 627 [(0, .ref 2000), (1, .ref 0), (2, .ref 256), (3, vi x3)] [] s 295 10442 _
        refine x_A k231_627 (fun _ => rfl) ?_
        refine x_A k231_628 (fun _ => rfl) ?_
        refine x_A k231_629 (fun _ => rfl) ?_
        refine x_A k231_630 (fun _ => rfl) ?_
        refine x_iadd k231_631 ?_
        refine x_top (fun z249 e_z249 => ?_)
        refine x_scr k231_632 hN ⟨by omega, by omega⟩ (fun z250 g_z250 e_z250 => ?_)
        unfold in32 at g_z250
        refine x_A k231_633 (fun _ => rfl) ?_
        refine x_A k231_634 (fun _ => rfl) ?_
        refine x_A k231_635 (fun _ => rfl) ?_
        refine x_iadd k231_636 ?_
        refine x_top (fun z251 e_z251 => ?_)
        refine x_scr k231_637 hN ⟨by omega, by omega⟩ (fun z252 g_z252 e_z252 => ?_)
        unfold in32 at g_z252
        refine x_i2l k231_638 (by first | exact x_rbe e_z252 g_z252 rfl rfl | exact x_rb g_z252 rfl rfl | exact ⟨by omega, by omega⟩) ?_
        refine x_bipush k231_639 (by decide +kernel) ?_
        refine x_lshl_f k231_641 (fun z253 b_z253 e_z253 => ?_)
        refine x_A k231_642 (fun _ => rfl) ?_
        refine x_A k231_643 (fun _ => rfl) ?_
        refine x_A k231_644 (fun _ => rfl) ?_
        refine x_iadd k231_645 ?_
        refine x_top (fun z254 e_z254 => ?_)
        refine x_scr k231_646 hN ⟨by omega, by omega⟩ (fun z255 g_z255 e_z255 => ?_)
        unfold in32 at g_z255
        refine x_i2l k231_647 (by first | exact x_rbe e_z255 g_z255 rfl rfl | exact x_rb g_z255 rfl rfl | exact ⟨by omega, by omega⟩) ?_
        refine x_ldc2 k231_648 (z := 4294967295) rfl (by decide +kernel) ?_
        refine x_land_f k231_651 (fun z256 b_z256 e_z256 => ?_)
        refine x_lor_f k231_652 (fun z257 b_z257 e_z257 => ?_)
        refine x_callV k231_653 (y := 104) (n := 2) (w0 := 0) (w1 := 3) (as := [vi z250, vj z257]) (rest := []) (by decide +kernel) (q := 0) (nq := 12) (kq := 3) ⟨by decide, rfl⟩ rfl rfl rfl rfl (xe_mono (E_X10_feed_0 s hG z250 (by first | exact x_rbe e_z250 g_z250 rfl rfl | exact x_rb g_z250 rfl rfl | exact ⟨by omega, by omega⟩) z257 b_z257) ?_)
        rintro s259 v ⟨hG_s259, t_s259, z258, rfl, g_z258, xp_z258⟩
        have J_s259 : J s259 := J.fl i_J t_s259 (by decide +kernel)
        have TR_s259 : TR s259 := TR.fl i_TR (hG 256 1).2 t_s259 (by decide)
        have R1_s259 : R1 s259 := R1.fl i_R1 t_s259 (by decide +kernel)
        have G1_s259 : G1 s259 := G1.fl i_G1 t_s259 (by decide +kernel)
        have G3_s259 : G3 s259 := G3.fl i_G3 t_s259 (by decide +kernel)
        have VCj_s259 : VCj s259 := VCj.fl i_VCj hG t_s259 (by decide)
        obtain ⟨z260, e_z260⟩ : ∃ z, z = s259 177 1 := ⟨_, rfl⟩
        have g_z260 : (0 : Int) ≤ s259 177 1 ∧ s259 177 1 ≤ 160 := hG_s259 177 1
        show xe (some (N, xs)) 231 656 [(0, .ref 2000), (1, .ref 0), (2, .ref 256), (3, vi x3)] [vi z258] s259 295 10442 _
        refine x_A k231_656 (fun _ => rfl) ?_
        refine x_A k231_657 (fun _ => rfl) ?_
        refine x_A k231_658 (fun _ => rfl) ?_
        refine x_A k231_659 (fun _ => rfl) ?_
        refine x_A k231_660 (fun _ => rfl) ?_
        refine x_iadd k231_661 ?_
        refine x_top (fun z261 e_z261 => ?_)
        refine x_scr k231_662 hN ⟨by omega, by omega⟩ (fun z262 g_z262 e_z262 => ?_)
        unfold in32 at g_z262
        have q_z262 : z262 = z250 := by rw [e_z262, e_z250, show z261 = z249 by omega]
        refine x_A k231_663 (fun _ => rfl) ?_
        refine x_A k231_664 (fun _ => rfl) ?_
        refine x_A k231_665 (fun _ => rfl) ?_
        refine x_iadd k231_666 ?_
        refine x_top (fun z263 e_z263 => ?_)
        refine x_scr k231_667 hN ⟨by omega, by omega⟩ (fun z264 g_z264 e_z264 => ?_)
        unfold in32 at g_z264
        have q_z264 : z264 = z252 := by rw [e_z264, e_z252, show z263 = z251 by omega]
        refine x_i2l k231_668 (by first | exact x_rbe e_z264 g_z264 rfl rfl | exact x_rb g_z264 rfl rfl | exact ⟨by omega, by omega⟩) ?_
        refine x_bipush k231_669 (by decide +kernel) ?_
        refine x_lshl_f k231_671 (fun z265 b_z265 e_z265 => ?_)
        refine x_A k231_672 (fun _ => rfl) ?_
        refine x_A k231_673 (fun _ => rfl) ?_
        refine x_A k231_674 (fun _ => rfl) ?_
        refine x_iadd k231_675 ?_
        refine x_top (fun z266 e_z266 => ?_)
        refine x_scr k231_676 hN ⟨by omega, by omega⟩ (fun z267 g_z267 e_z267 => ?_)
        unfold in32 at g_z267
        have q_z267 : z267 = z255 := by rw [e_z267, e_z255, show z266 = z254 by omega]
        refine x_i2l k231_677 (by first | exact x_rbe e_z267 g_z267 rfl rfl | exact x_rb g_z267 rfl rfl | exact ⟨by omega, by omega⟩) ?_
        refine x_ldc2 k231_678 (z := 4294967295) rfl (by decide +kernel) ?_
        refine x_land_f k231_681 (fun z268 b_z268 e_z268 => ?_)
        refine x_lor_f k231_682 (fun z269 b_z269 e_z269 => ?_)
        refine x_callV k231_683 (y := 175) (n := 2) (w0 := 0) (w1 := 3) (as := [vi z262, vj z269]) (rest := []) (by decide +kernel) (q := 256) (nq := 62) (kq := 15) ⟨by decide, rfl⟩ rfl rfl rfl rfl (xe_mono (E_X11_feed_256 s259 hG_s259 z262 (by first | exact x_rbe e_z262 g_z262 rfl rfl | exact x_rb g_z262 rfl rfl | exact ⟨by omega, by omega⟩) z269 b_z269) ?_)
        rintro s271 v ⟨hG_s271, t_s271, z270, rfl, g_z270, xp_z270⟩
        have q272 : s271 177 1 = z260 := (t_s271 177 1 (show 1218 ∉ [4131, 5824] from by decide +kernel)).trans e_z260.symm
        have J_s271 : J s271 := J.fl J_s259 t_s271 (by decide +kernel)
        have TR_s271 : TR s271 := TR.fl TR_s259 (hG_s259 256 1).2 t_s271 (by decide)
        have R1_s271 : R1 s271 := R1.fl R1_s259 t_s271 (by decide +kernel)
        have G1_s271 : G1 s271 := G1.fl G1_s259 t_s271 (by decide +kernel)
        have G3_s271 : G3 s271 := G3.fl G3_s259 t_s271 (by decide +kernel)
        have VCj_s271 : VCj s271 := VCj.fl VCj_s259 hG_s259 t_s271 (by decide)
        obtain ⟨z273, e_z273⟩ : ∃ z, z = s271 256 34 := ⟨_, rfl⟩
        have g_z273 : (0 : Int) ≤ s271 256 34 ∧ s271 256 34 ≤ 160 := hG_s271 256 34
        show xe (some (N, xs)) 231 686 [(0, .ref 2000), (1, .ref 0), (2, .ref 256), (3, vi x3)] [vi z270] s271 295 10442 _
        have q_z269 : z269 = z257 := by rw [e_z269, e_z257, e_z265, e_z253, e_z268, e_z256, q_z264, q_z267]
        obtain ⟨ez_s271, X1_s271⟩ := X1.feed i_X1 t_s259 t_s271 (by decide) (by decide) xp_z258 (by rw [← q_z262, ← q_z269]; exact xp_z270)
        refine x_A k231_686 (fun _ => rfl) ?_
        refine x_goto k231_687 (t := 1300) rfl ?_
        refine x_iinc k231_1300 (ls' := [(3, vi (x3 + 7)), (0, .ref 2000), (1, .ref 0), (2, .ref 256)]) rfl (by decide) rfl ?_
        refine x_goto k231_1303 (t := 18) rfl ?_
        refine x_ls (l := [(0, .ref 2000), (1, .ref 0), (2, .ref 256), (3, vi (x3 + 7))]) (show ([0, 1, 2, 3] : List Nat).Nodup from by decide +kernel) ⟨rfl, rfl, rfl, rfl, trivial⟩ ?_
        exact ih s271 (x3 + 7) hG_s271 trivial ⟨by omega, by omega⟩ J_s271 TR_s271 X1_s271 R1_s271 G1_s271 G3_s271 VCj_s271  (by omega)
      · rw [c5]
        refine x_B k231_33 rfl (fun _ => rfl) (fun _ => rfl) (fun _ _ => rfl) ?_
        show xe (some (N, xs)) 231 690 [(0, .ref 2000), (1, .ref 0), (2, .ref 256), (3, vi x3)] [] s 295 10442 _
        refine x_A k231_690 (fun _ => rfl) ?_
        refine x_A k231_691 (fun _ => rfl) ?_
        refine x_A k231_692 (fun _ => rfl) ?_
        refine x_A k231_693 (fun _ => rfl) ?_
        refine x_iadd k231_694 ?_
        refine x_top (fun z274 e_z274 => ?_)
        refine x_scr k231_695 hN ⟨by omega, by omega⟩ (fun z275 g_z275 e_z275 => ?_)
        unfold in32 at g_z275
        refine x_callV k231_696 (y := 105) (n := 1) (w0 := 0) (w1 := 1) (as := [vi z275]) (rest := []) (by decide +kernel) (q := 0) (nq := 12) (kq := 3) ⟨by decide, rfl⟩ rfl rfl rfl rfl (xe_mono (V_X10_rule_0 s hG z275 (by first | exact x_rbe e_z275 g_z275 rfl rfl | exact x_rb g_z275 rfl rfl | exact ⟨by omega, by omega⟩) i_J i_VCj) ?_)
        rintro s277 v ⟨hG_s277, t_s277, z276, rfl, g_z276, xp_z276, J_s277, VCj_s277⟩
        have TR_s277 : TR s277 := TR.fl i_TR (hG 256 1).2 t_s277 (by decide)
        have G1_s277 : G1 s277 := G1.fl i_G1 t_s277 (by decide +kernel)
        have G3_s277 : G3 s277 := G3.fl i_G3 t_s277 (by decide +kernel)
        obtain ⟨z278, e_z278⟩ : ∃ z, z = s277 177 1 := ⟨_, rfl⟩
        have g_z278 : (0 : Int) ≤ s277 177 1 ∧ s277 177 1 ≤ 160 := hG_s277 177 1
        obtain ⟨z279, e_z279⟩ : ∃ z, z = s277 177 5 := ⟨_, rfl⟩
        have g_z279 : (0 : Int) ≤ s277 177 5 ∧ s277 177 5 ≤ 5 := hG_s277 177 5
        obtain ⟨z280, e_z280⟩ : ∃ z, z = s277 177 6 := ⟨_, rfl⟩
        have g_z280 : (-2147483648) ≤ s277 177 6 ∧ s277 177 6 ≤ 2147483647 := hG_s277 177 6
        obtain ⟨z281, e_z281⟩ : ∃ z, z = s277 0 11 := ⟨_, rfl⟩
        have g_z281 : (-2147483648) ≤ s277 0 11 ∧ s277 0 11 ≤ 2147483647 := hG_s277 0 11
        show xe (some (N, xs)) 231 699 [(0, .ref 2000), (1, .ref 0), (2, .ref 256), (3, vi x3)] [vi z276] s277 295 10442 _
        refine x_A k231_699 (fun _ => rfl) ?_
        refine x_A k231_700 (fun _ => rfl) ?_
        refine x_A k231_701 (fun _ => rfl) ?_
        refine x_A k231_702 (fun _ => rfl) ?_
        refine x_A k231_703 (fun _ => rfl) ?_
        refine x_iadd k231_704 ?_
        refine x_top (fun z282 e_z282 => ?_)
        refine x_scr k231_705 hN ⟨by omega, by omega⟩ (fun z283 g_z283 e_z283 => ?_)
        unfold in32 at g_z283
        have q_z283 : z283 = z275 := by rw [e_z283, e_z275, show z282 = z274 by omega]
        obtain ⟨z284, e_z284⟩ : ∃ z, z = s277 256 20 := ⟨_, rfl⟩
        have g_z284 : (0 : Int) ≤ s277 256 20 ∧ s277 256 20 ≤ 64 := hG_s277 256 20
        obtain ⟨z285, e_z285⟩ : ∃ z, z = s277 256 17 := ⟨_, rfl⟩
        have g_z285 : (0 : Int) ≤ s277 256 17 ∧ s277 256 17 ≤ 8 := hG_s277 256 17
        refine x_callV k231_706 (y := 187) (n := 1) (w0 := 0) (w1 := 1) (as := [vi z283]) (rest := []) (by decide +kernel) (q := 256) (nq := 62) (kq := 15) ⟨by decide, rfl⟩ rfl rfl rfl rfl (xe_mono (E_X11_rule_256 s277 hG_s277 z283 (by first | exact x_rbe e_z283 g_z283 rfl rfl | exact x_rb g_z283 rfl rfl | exact ⟨by omega, by omega⟩) ⟨by omega, by omega⟩ ⟨by omega, by omega⟩ J_s277) ?_)
        rintro s287 v ⟨hG_s287, t_s287, z286, rfl, g_z286, xp_z286, J_s287⟩
        have q288 : s287 177 1 = z278 := (t_s287 177 1 (show 1218 ∉ [4133, 4136, 4132, 4134, 4135, 5120, 5184, 5248, 4131, 4992, 5056, 4117, 4114] from by decide +kernel)).trans e_z278.symm
        have q289 : s287 177 5 = z279 := (t_s287 177 5 (show 1222 ∉ [4133, 4136, 4132, 4134, 4135, 5120, 5184, 5248, 4131, 4992, 5056, 4117, 4114] from by decide +kernel)).trans e_z279.symm
        have q290 : s287 177 6 = z280 := (t_s287 177 6 (show 1223 ∉ [4133, 4136, 4132, 4134, 4135, 5120, 5184, 5248, 4131, 4992, 5056, 4117, 4114] from by decide +kernel)).trans e_z280.symm
        have q291 : s287 0 11 = z281 := (t_s287 0 11 (show 12 ∉ [4133, 4136, 4132, 4134, 4135, 5120, 5184, 5248, 4131, 4992, 5056, 4117, 4114] from by decide +kernel)).trans e_z281.symm
        have TR_s287 : TR s287 := TR.fl TR_s277 (hG_s277 256 1).2 t_s287 (by decide)
        have G1_s287 : G1 s287 := G1.fl G1_s277 t_s287 (by decide +kernel)
        have G3_s287 : G3 s287 := G3.fl G3_s277 t_s287 (by decide +kernel)
        have VCj_s287 : VCj s287 := VCj.fl VCj_s277 hG_s277 t_s287 (by decide)
        obtain ⟨z292, e_z292⟩ : ∃ z, z = s287 256 35 := ⟨_, rfl⟩
        have g_z292 : (-2147483648) ≤ s287 256 35 ∧ s287 256 35 ≤ 2147483647 := hG_s287 256 35
        obtain ⟨z293, e_z293⟩ : ∃ z, z = s287 256 34 := ⟨_, rfl⟩
        have g_z293 : (0 : Int) ≤ s287 256 34 ∧ s287 256 34 ≤ 160 := hG_s287 256 34
        obtain ⟨z294, e_z294⟩ : ∃ z, z = s287 256 17 := ⟨_, rfl⟩
        have g_z294 : (0 : Int) ≤ s287 256 17 ∧ s287 256 17 ≤ 8 := hG_s287 256 17
        obtain ⟨z295, e_z295⟩ : ∃ z, z = s287 256 20 := ⟨_, rfl⟩
        have g_z295 : (0 : Int) ≤ s287 256 20 ∧ s287 256 20 ≤ 64 := hG_s287 256 20
        show xe (some (N, xs)) 231 709 [(0, .ref 2000), (1, .ref 0), (2, .ref 256), (3, vi x3)] [vi z286] s287 295 10442 _
        have R1_s287 := R1.rule i_R1 i_X1 i_J hG t_s277 t_s287 (by decide) (by decide) xp_z276 (by rw [← q_z283]; exact xp_z286)
        obtain ⟨ez_s287, X1_s287⟩ := X1.rule i_X1 hG t_s277 t_s287 (by decide) (by decide) xp_z276 (by rw [← q_z283]; exact xp_z286)
        refine x_A k231_709 (fun _ => rfl) ?_
        refine x_goto k231_710 (t := 1300) rfl ?_
        refine x_iinc k231_1300 (ls' := [(3, vi (x3 + 7)), (0, .ref 2000), (1, .ref 0), (2, .ref 256)]) rfl (by decide) rfl ?_
        refine x_goto k231_1303 (t := 18) rfl ?_
        refine x_ls (l := [(0, .ref 2000), (1, .ref 0), (2, .ref 256), (3, vi (x3 + 7))]) (show ([0, 1, 2, 3] : List Nat).Nodup from by decide +kernel) ⟨rfl, rfl, rfl, rfl, trivial⟩ ?_
        exact ih s287 (x3 + 7) hG_s287 trivial ⟨by omega, by omega⟩ J_s287 TR_s287 X1_s287 R1_s287 G1_s287 G3_s287 VCj_s287  (by omega)
      · rw [c5]
        refine x_B k231_33 rfl (fun _ => rfl) (fun _ => rfl) (fun _ _ => rfl) ?_
        show xe (some (N, xs)) 231 713 [(0, .ref 2000), (1, .ref 0), (2, .ref 256), (3, vi x3)] [] s 295 10442 _
        refine x_A k231_713 (fun _ => rfl) ?_
        refine x_callV k231_714 (y := 106) (n := 0) (w0 := 0) (w1 := 0) (as := []) (rest := []) (by decide +kernel) (q := 0) (nq := 12) (kq := 3) ⟨by decide, rfl⟩ rfl rfl rfl rfl (xe_mono (E_X10_fault_0 s hG) ?_)
        rintro s297 v ⟨-, t_s297, z296, rfl, g_z296, xp_z296⟩
        rw [t_s297.nil]
        try rw [t_s297.nil] at xp_z296
        show xe (some (N, xs)) 231 717 [(0, .ref 2000), (1, .ref 0), (2, .ref 256), (3, vi x3)] [vi z296] s 295 10442 _
        refine x_A k231_717 (fun _ => rfl) ?_
        refine x_A k231_718 (fun _ => rfl) ?_
        refine x_callV k231_719 (y := 188) (n := 0) (w0 := 0) (w1 := 0) (as := []) (rest := []) (by decide +kernel) (q := 256) (nq := 62) (kq := 15) ⟨by decide, rfl⟩ rfl rfl rfl rfl (xe_mono (E_X11_fault_256 s hG) ?_)
        rintro s299 v ⟨-, t_s299, z298, rfl, g_z298, xp_z298⟩
        rw [t_s299.nil]
        try rw [t_s299.nil] at xp_z298
        show xe (some (N, xs)) 231 722 [(0, .ref 2000), (1, .ref 0), (2, .ref 256), (3, vi x3)] [vi z298] s 295 10442 _
        refine x_A k231_722 (fun _ => rfl) ?_
        refine x_goto k231_723 (t := 1300) rfl ?_
        refine x_iinc k231_1300 (ls' := [(3, vi (x3 + 7)), (0, .ref 2000), (1, .ref 0), (2, .ref 256)]) rfl (by decide) rfl ?_
        refine x_goto k231_1303 (t := 18) rfl ?_
        refine x_ls (l := [(0, .ref 2000), (1, .ref 0), (2, .ref 256), (3, vi (x3 + 7))]) (show ([0, 1, 2, 3] : List Nat).Nodup from by decide +kernel) ⟨rfl, rfl, rfl, rfl, trivial⟩ ?_
        exact ih s (x3 + 7) hG f ⟨by omega, by omega⟩ i_J i_TR i_X1 i_R1 i_G1 i_G3 i_VCj  (by omega)
      · rw [c5]
        refine x_B k231_33 rfl (fun _ => rfl) (fun _ => rfl) (fun _ _ => rfl) ?_
        show xe (some (N, xs)) 231 726 [(0, .ref 2000), (1, .ref 0), (2, .ref 256), (3, vi x3)] [] s 295 10442 _
        refine x_A k231_726 (fun _ => rfl) ?_
        refine x_A k231_727 (fun _ => rfl) ?_
        refine x_A k231_728 (fun _ => rfl) ?_
        refine x_A k231_729 (fun _ => rfl) ?_
        refine x_iadd k231_730 ?_
        refine x_top (fun z300 e_z300 => ?_)
        refine x_scr k231_731 hN ⟨by omega, by omega⟩ (fun z301 g_z301 e_z301 => ?_)
        unfold in32 at g_z301
        refine x_A k231_732 (fun _ => rfl) ?_
        refine x_A k231_733 (fun _ => rfl) ?_
        refine x_A k231_734 (fun _ => rfl) ?_
        refine x_iadd k231_735 ?_
        refine x_top (fun z302 e_z302 => ?_)
        refine x_scr k231_736 hN ⟨by omega, by omega⟩ (fun z303 g_z303 e_z303 => ?_)
        unfold in32 at g_z303
        refine x_callV k231_737 (y := 107) (n := 2) (w0 := 0) (w1 := 2) (as := [vi z301, vi z303]) (rest := []) (by decide +kernel) (q := 0) (nq := 12) (kq := 3) ⟨by decide, rfl⟩ rfl rfl rfl rfl (xe_mono (E_X10_force_0 s hG i_J z301 (by first | exact x_rbe e_z301 g_z301 rfl rfl | exact x_rb g_z301 rfl rfl | exact ⟨by omega, by omega⟩) z303 (by first | exact x_rbe e_z303 g_z303 rfl rfl | exact x_rb g_z303 rfl rfl | exact ⟨by omega, by omega⟩) i_R1) ?_)
        rintro s305 v ⟨hG_s305, t_s305, z304, rfl, g_z304, xp_z304⟩
        have J_s305 : J s305 := J.fl i_J t_s305 (by decide +kernel)
        have TR_s305 : TR s305 := TR.fl i_TR (hG 256 1).2 t_s305 (by decide)
        have X1_s305 : X1 s305 := X1.fl i_X1 t_s305 (by decide +kernel)
        have R1_s305 : R1 s305 := R1.fl i_R1 t_s305 (by decide +kernel)
        have G1_s305 : G1 s305 := G1.fl i_G1 t_s305 (by decide +kernel)
        have G3_s305 : G3 s305 := G3.fl i_G3 t_s305 (by decide +kernel)
        have VCj_s305 : VCj s305 := VCj.fl i_VCj hG t_s305 (by decide)
        show xe (some (N, xs)) 231 740 [(0, .ref 2000), (1, .ref 0), (2, .ref 256), (3, vi x3)] [vi z304] s305 295 10442 _
        refine x_A k231_740 (fun _ => rfl) ?_
        refine x_A k231_741 (fun _ => rfl) ?_
        refine x_A k231_742 (fun _ => rfl) ?_
        refine x_A k231_743 (fun _ => rfl) ?_
        refine x_A k231_744 (fun _ => rfl) ?_
        refine x_iadd k231_745 ?_
        refine x_top (fun z306 e_z306 => ?_)
        refine x_scr k231_746 hN ⟨by omega, by omega⟩ (fun z307 g_z307 e_z307 => ?_)
        unfold in32 at g_z307
        have q_z307 : z307 = z301 := by rw [e_z307, e_z301, show z306 = z300 by omega]
        refine x_A k231_747 (fun _ => rfl) ?_
        refine x_A k231_748 (fun _ => rfl) ?_
        refine x_A k231_749 (fun _ => rfl) ?_
        refine x_iadd k231_750 ?_
        refine x_top (fun z308 e_z308 => ?_)
        refine x_scr k231_751 hN ⟨by omega, by omega⟩ (fun z309 g_z309 e_z309 => ?_)
        unfold in32 at g_z309
        have q_z309 : z309 = z303 := by rw [e_z309, e_z303, show z308 = z302 by omega]
        refine x_callV k231_752 (y := 189) (n := 2) (w0 := 0) (w1 := 2) (as := [vi z307, vi z309]) (rest := []) (by decide +kernel) (q := 256) (nq := 62) (kq := 15) ⟨by decide, rfl⟩ rfl rfl rfl rfl (xe_mono (E_X11_force_256 s305 hG_s305 J_s305 z307 (by first | exact x_rbe e_z307 g_z307 rfl rfl | exact x_rb g_z307 rfl rfl | exact ⟨by omega, by omega⟩) z309 (by first | exact x_rbe e_z309 g_z309 rfl rfl | exact x_rb g_z309 rfl rfl | exact ⟨by omega, by omega⟩) R1_s305) ?_)
        rintro s311 v ⟨hG_s311, t_s311, z310, rfl, g_z310, xp_z310⟩
        have J_s311 : J s311 := J.fl J_s305 t_s311 (by decide +kernel)
        have TR_s311 : TR s311 := TR.fl TR_s305 (hG_s305 256 1).2 t_s311 (by decide)
        have X1_s311 : X1 s311 := X1.fl X1_s305 t_s311 (by decide +kernel)
        have R1_s311 : R1 s311 := R1.fl R1_s305 t_s311 (by decide +kernel)
        have G1_s311 : G1 s311 := G1.fl G1_s305 t_s311 (by decide +kernel)
        have G3_s311 : G3 s311 := G3.fl G3_s305 t_s311 (by decide +kernel)
        have VCj_s311 : VCj s311 := VCj.fl VCj_s305 hG_s305 t_s311 (by decide)
        show xe (some (N, xs)) 231 755 [(0, .ref 2000), (1, .ref 0), (2, .ref 256), (3, vi x3)] [vi z310] s311 295 10442 _
        refine x_A k231_755 (fun _ => rfl) ?_
        refine x_goto k231_756 (t := 1300) rfl ?_
        refine x_iinc k231_1300 (ls' := [(3, vi (x3 + 7)), (0, .ref 2000), (1, .ref 0), (2, .ref 256)]) rfl (by decide) rfl ?_
        refine x_goto k231_1303 (t := 18) rfl ?_
        refine x_ls (l := [(0, .ref 2000), (1, .ref 0), (2, .ref 256), (3, vi (x3 + 7))]) (show ([0, 1, 2, 3] : List Nat).Nodup from by decide +kernel) ⟨rfl, rfl, rfl, rfl, trivial⟩ ?_
        exact ih s311 (x3 + 7) hG_s311 trivial ⟨by omega, by omega⟩ J_s311 TR_s311 X1_s311 R1_s311 G1_s311 G3_s311 VCj_s311  (by omega)
      · rw [c5]
        refine x_B k231_33 rfl (fun _ => rfl) (fun _ => rfl) (fun _ _ => rfl) ?_
        show xe (some (N, xs)) 231 759 [(0, .ref 2000), (1, .ref 0), (2, .ref 256), (3, vi x3)] [] s 295 10442 _
        refine x_A k231_759 (fun _ => rfl) ?_
        refine x_A k231_760 (fun _ => rfl) ?_
        refine x_A k231_761 (fun _ => rfl) ?_
        refine x_A k231_762 (fun _ => rfl) ?_
        refine x_iadd k231_763 ?_
        refine x_top (fun z312 e_z312 => ?_)
        refine x_scr k231_764 hN ⟨by omega, by omega⟩ (fun z313 g_z313 e_z313 => ?_)
        unfold in32 at g_z313
        refine x_A k231_765 (fun _ => rfl) ?_
        refine x_A k231_766 (fun _ => rfl) ?_
        refine x_A k231_767 (fun _ => rfl) ?_
        refine x_iadd k231_768 ?_
        refine x_top (fun z314 e_z314 => ?_)
        refine x_scr k231_769 hN ⟨by omega, by omega⟩ (fun z315 g_z315 e_z315 => ?_)
        unfold in32 at g_z315
        refine x_A k231_770 (fun _ => rfl) ?_
        refine x_A k231_771 (fun _ => rfl) ?_
        refine x_A k231_772 (fun _ => rfl) ?_
        refine x_iadd k231_773 ?_
        refine x_top (fun z316 e_z316 => ?_)
        refine x_scr k231_774 hN ⟨by omega, by omega⟩ (fun z317 g_z317 e_z317 => ?_)
        unfold in32 at g_z317
        refine x_callV k231_775 (y := 108) (n := 3) (w0 := 0) (w1 := 3) (as := [vi z313, vi z315, vi z317]) (rest := []) (by decide +kernel) (q := 0) (nq := 12) (kq := 3) ⟨by decide, rfl⟩ rfl rfl rfl rfl (xe_mono (C_X10_word_0 s hG z313 (by first | exact x_rbe e_z313 g_z313 rfl rfl | exact x_rb g_z313 rfl rfl | exact ⟨by omega, by omega⟩) z315 (by first | exact x_rbe e_z315 g_z315 rfl rfl | exact x_rb g_z315 rfl rfl | exact ⟨by omega, by omega⟩) z317 (by first | exact x_rbe e_z317 g_z317 rfl rfl | exact x_rb g_z317 rfl rfl | exact ⟨by omega, by omega⟩)) ?_)
        rintro s319 v ⟨hG_s319, t_s319, z318, rfl, g_z318⟩
        have J_s319 : J s319 := J.fl i_J t_s319 (by decide +kernel)
        have TR_s319 : TR s319 := TR.fl i_TR (hG 256 1).2 t_s319 (by decide)
        have X1_s319 : X1 s319 := X1.fl i_X1 t_s319 (by decide +kernel)
        have R1_s319 : R1 s319 := R1.fl i_R1 t_s319 (by decide +kernel)
        have G1_s319 : G1 s319 := G1.fl i_G1 t_s319 (by decide +kernel)
        have G3_s319 : G3 s319 := G3.fl i_G3 t_s319 (by decide +kernel)
        have VCj_s319 : VCj s319 := VCj.fl i_VCj hG t_s319 (by decide)
        show xe (some (N, xs)) 231 778 [(0, .ref 2000), (1, .ref 0), (2, .ref 256), (3, vi x3)] [vi z318] s319 295 10442 _
        refine x_A k231_778 (fun _ => rfl) ?_
        refine x_A k231_779 (fun _ => rfl) ?_
        refine x_A k231_780 (fun _ => rfl) ?_
        refine x_A k231_781 (fun _ => rfl) ?_
        refine x_A k231_782 (fun _ => rfl) ?_
        refine x_iadd k231_783 ?_
        refine x_top (fun z320 e_z320 => ?_)
        refine x_scr k231_784 hN ⟨by omega, by omega⟩ (fun z321 g_z321 e_z321 => ?_)
        unfold in32 at g_z321
        have q_z321 : z321 = z313 := by rw [e_z321, e_z313, show z320 = z312 by omega]
        refine x_A k231_785 (fun _ => rfl) ?_
        refine x_A k231_786 (fun _ => rfl) ?_
        refine x_A k231_787 (fun _ => rfl) ?_
        refine x_iadd k231_788 ?_
        refine x_top (fun z322 e_z322 => ?_)
        refine x_scr k231_789 hN ⟨by omega, by omega⟩ (fun z323 g_z323 e_z323 => ?_)
        unfold in32 at g_z323
        have q_z323 : z323 = z315 := by rw [e_z323, e_z315, show z322 = z314 by omega]
        refine x_A k231_790 (fun _ => rfl) ?_
        refine x_A k231_791 (fun _ => rfl) ?_
        refine x_A k231_792 (fun _ => rfl) ?_
        refine x_iadd k231_793 ?_
        refine x_top (fun z324 e_z324 => ?_)
        refine x_scr k231_794 hN ⟨by omega, by omega⟩ (fun z325 g_z325 e_z325 => ?_)
        unfold in32 at g_z325
        have q_z325 : z325 = z317 := by rw [e_z325, e_z317, show z324 = z316 by omega]
        refine x_callV k231_795 (y := 192) (n := 3) (w0 := 0) (w1 := 3) (as := [vi z321, vi z323, vi z325]) (rest := []) (by decide +kernel) (q := 256) (nq := 62) (kq := 15) ⟨by decide, rfl⟩ rfl rfl rfl rfl (xe_mono (C_X11_word_256 s319 hG_s319 z321 (by first | exact x_rbe e_z321 g_z321 rfl rfl | exact x_rb g_z321 rfl rfl | exact ⟨by omega, by omega⟩) z323 (by first | exact x_rbe e_z323 g_z323 rfl rfl | exact x_rb g_z323 rfl rfl | exact ⟨by omega, by omega⟩) z325 (by first | exact x_rbe e_z325 g_z325 rfl rfl | exact x_rb g_z325 rfl rfl | exact ⟨by omega, by omega⟩)) ?_)
        rintro s327 v ⟨hG_s327, t_s327, z326, rfl, g_z326⟩
        have J_s327 : J s327 := J.fl J_s319 t_s327 (by decide +kernel)
        have TR_s327 : TR s327 := TR.fl TR_s319 (hG_s319 256 1).2 t_s327 (by decide)
        have X1_s327 : X1 s327 := X1.fl X1_s319 t_s327 (by decide +kernel)
        have R1_s327 : R1 s327 := R1.fl R1_s319 t_s327 (by decide +kernel)
        have G1_s327 : G1 s327 := G1.fl G1_s319 t_s327 (by decide +kernel)
        have G3_s327 : G3 s327 := G3.fl G3_s319 t_s327 (by decide +kernel)
        have VCj_s327 : VCj s327 := VCj.fl VCj_s319 hG_s319 t_s327 (by decide)
        show xe (some (N, xs)) 231 798 [(0, .ref 2000), (1, .ref 0), (2, .ref 256), (3, vi x3)] [vi z326] s327 295 10442 _
        refine x_A k231_798 (fun _ => rfl) ?_
        refine x_goto k231_799 (t := 1300) rfl ?_
        refine x_iinc k231_1300 (ls' := [(3, vi (x3 + 7)), (0, .ref 2000), (1, .ref 0), (2, .ref 256)]) rfl (by decide) rfl ?_
        refine x_goto k231_1303 (t := 18) rfl ?_
        refine x_ls (l := [(0, .ref 2000), (1, .ref 0), (2, .ref 256), (3, vi (x3 + 7))]) (show ([0, 1, 2, 3] : List Nat).Nodup from by decide +kernel) ⟨rfl, rfl, rfl, rfl, trivial⟩ ?_
        exact ih s327 (x3 + 7) hG_s327 trivial ⟨by omega, by omega⟩ J_s327 TR_s327 X1_s327 R1_s327 G1_s327 G3_s327 VCj_s327  (by omega)
      · rw [c5]
        refine x_B k231_33 rfl (fun _ => rfl) (fun _ => rfl) (fun _ _ => rfl) ?_
        show xe (some (N, xs)) 231 802 [(0, .ref 2000), (1, .ref 0), (2, .ref 256), (3, vi x3)] [] s 295 10442 _
        refine x_A k231_802 (fun _ => rfl) ?_
        refine x_A k231_803 (fun _ => rfl) ?_
        refine x_A k231_804 (fun _ => rfl) ?_
        refine x_A k231_805 (fun _ => rfl) ?_
        refine x_iadd k231_806 ?_
        refine x_top (fun z328 e_z328 => ?_)
        refine x_scr k231_807 hN ⟨by omega, by omega⟩ (fun z329 g_z329 e_z329 => ?_)
        unfold in32 at g_z329
        refine x_A k231_808 (fun _ => rfl) ?_
        refine x_A k231_809 (fun _ => rfl) ?_
        refine x_A k231_810 (fun _ => rfl) ?_
        refine x_iadd k231_811 ?_
        refine x_top (fun z330 e_z330 => ?_)
        refine x_scr k231_812 hN ⟨by omega, by omega⟩ (fun z331 g_z331 e_z331 => ?_)
        unfold in32 at g_z331
        refine x_callV k231_813 (y := 109) (n := 2) (w0 := 0) (w1 := 2) (as := [vi z329, vi z331]) (rest := []) (by decide +kernel) (q := 0) (nq := 12) (kq := 3) ⟨by decide, rfl⟩ rfl rfl rfl rfl (xe_mono (C_X10_leads_0 s hG z329 (by first | exact x_rbe e_z329 g_z329 rfl rfl | exact x_rb g_z329 rfl rfl | exact ⟨by omega, by omega⟩) z331 (by first | exact x_rbe e_z331 g_z331 rfl rfl | exact x_rb g_z331 rfl rfl | exact ⟨by omega, by omega⟩)) ?_)
        rintro s333 v ⟨-, t_s333, z332, rfl, g_z332⟩
        rw [t_s333.nil]
        show xe (some (N, xs)) 231 816 [(0, .ref 2000), (1, .ref 0), (2, .ref 256), (3, vi x3)] [vi z332] s 295 10442 _
        refine x_A k231_816 (fun _ => rfl) ?_
        refine x_A k231_817 (fun _ => rfl) ?_
        refine x_A k231_818 (fun _ => rfl) ?_
        refine x_A k231_819 (fun _ => rfl) ?_
        refine x_A k231_820 (fun _ => rfl) ?_
        refine x_iadd k231_821 ?_
        refine x_top (fun z334 e_z334 => ?_)
        refine x_scr k231_822 hN ⟨by omega, by omega⟩ (fun z335 g_z335 e_z335 => ?_)
        unfold in32 at g_z335
        have q_z335 : z335 = z329 := by rw [e_z335, e_z329, show z334 = z328 by omega]
        refine x_A k231_823 (fun _ => rfl) ?_
        refine x_A k231_824 (fun _ => rfl) ?_
        refine x_A k231_825 (fun _ => rfl) ?_
        refine x_iadd k231_826 ?_
        refine x_top (fun z336 e_z336 => ?_)
        refine x_scr k231_827 hN ⟨by omega, by omega⟩ (fun z337 g_z337 e_z337 => ?_)
        unfold in32 at g_z337
        have q_z337 : z337 = z331 := by rw [e_z337, e_z331, show z336 = z330 by omega]
        refine x_callV k231_828 (y := 193) (n := 2) (w0 := 0) (w1 := 2) (as := [vi z335, vi z337]) (rest := []) (by decide +kernel) (q := 256) (nq := 62) (kq := 15) ⟨by decide, rfl⟩ rfl rfl rfl rfl (xe_mono (C_X11_leads_256 s hG z335 (by first | exact x_rbe e_z335 g_z335 rfl rfl | exact x_rb g_z335 rfl rfl | exact ⟨by omega, by omega⟩) z337 (by first | exact x_rbe e_z337 g_z337 rfl rfl | exact x_rb g_z337 rfl rfl | exact ⟨by omega, by omega⟩)) ?_)
        rintro s339 v ⟨-, t_s339, z338, rfl, g_z338⟩
        rw [t_s339.nil]
        show xe (some (N, xs)) 231 831 [(0, .ref 2000), (1, .ref 0), (2, .ref 256), (3, vi x3)] [vi z338] s 295 10442 _
        refine x_A k231_831 (fun _ => rfl) ?_
        refine x_goto k231_832 (t := 1300) rfl ?_
        refine x_iinc k231_1300 (ls' := [(3, vi (x3 + 7)), (0, .ref 2000), (1, .ref 0), (2, .ref 256)]) rfl (by decide) rfl ?_
        refine x_goto k231_1303 (t := 18) rfl ?_
        refine x_ls (l := [(0, .ref 2000), (1, .ref 0), (2, .ref 256), (3, vi (x3 + 7))]) (show ([0, 1, 2, 3] : List Nat).Nodup from by decide +kernel) ⟨rfl, rfl, rfl, rfl, trivial⟩ ?_
        exact ih s (x3 + 7) hG f ⟨by omega, by omega⟩ i_J i_TR i_X1 i_R1 i_G1 i_G3 i_VCj  (by omega)
      · rw [c5]
        refine x_B k231_33 rfl (fun _ => rfl) (fun _ => rfl) (fun _ _ => rfl) ?_
        show xe (some (N, xs)) 231 835 [(0, .ref 2000), (1, .ref 0), (2, .ref 256), (3, vi x3)] [] s 295 10442 _
        refine x_A k231_835 (fun _ => rfl) ?_
        refine x_callV k231_836 (y := 110) (n := 0) (w0 := 0) (w1 := 0) (as := []) (rest := []) (by decide +kernel) (q := 0) (nq := 12) (kq := 3) ⟨by decide, rfl⟩ rfl rfl rfl rfl (xe_mono (E_X10_ask_0 s hG) ?_)
        rintro s341 v ⟨hG_s341, t_s341, z340, rfl, g_z340, xp_z340⟩
        have J_s341 : J s341 := J.fl i_J t_s341 (by decide +kernel)
        have TR_s341 : TR s341 := TR.fl i_TR (hG 256 1).2 t_s341 (by decide)
        have R1_s341 : R1 s341 := R1.fl i_R1 t_s341 (by decide +kernel)
        have G1_s341 : G1 s341 := G1.fl i_G1 t_s341 (by decide +kernel)
        have G3_s341 : G3 s341 := G3.fl i_G3 t_s341 (by decide +kernel)
        have VCj_s341 : VCj s341 := VCj.fl i_VCj hG t_s341 (by decide)
        obtain ⟨z342, e_z342⟩ : ∃ z, z = s341 177 1 := ⟨_, rfl⟩
        have g_z342 : (0 : Int) ≤ s341 177 1 ∧ s341 177 1 ≤ 160 := hG_s341 177 1
        obtain ⟨z343, e_z343⟩ : ∃ z, z = s341 177 5 := ⟨_, rfl⟩
        have g_z343 : (0 : Int) ≤ s341 177 5 ∧ s341 177 5 ≤ 5 := hG_s341 177 5
        obtain ⟨z344, e_z344⟩ : ∃ z, z = s341 177 6 := ⟨_, rfl⟩
        have g_z344 : (-2147483648) ≤ s341 177 6 ∧ s341 177 6 ≤ 2147483647 := hG_s341 177 6
        obtain ⟨z345, e_z345⟩ : ∃ z, z = s341 0 11 := ⟨_, rfl⟩
        have g_z345 : (-2147483648) ≤ s341 0 11 ∧ s341 0 11 ≤ 2147483647 := hG_s341 0 11
        obtain ⟨z346, e_z346⟩ : ∃ z, z = s341 218 6 := ⟨_, rfl⟩
        have g_z346 : (0 : Int) ≤ s341 218 6 ∧ s341 218 6 ≤ 8 := hG_s341 218 6
        show xe (some (N, xs)) 231 839 [(0, .ref 2000), (1, .ref 0), (2, .ref 256), (3, vi x3)] [vi z340] s341 295 10442 _
        refine x_A k231_839 (fun _ => rfl) ?_
        refine x_A k231_840 (fun _ => rfl) ?_
        obtain ⟨z347, e_z347⟩ : ∃ z, z = s341 256 47 := ⟨_, rfl⟩
        have g_z347 : (0 : Int) ≤ s341 256 47 ∧ s341 256 47 ≤ 110 := hG_s341 256 47
        obtain ⟨z348, e_z348⟩ : ∃ z, z = s341 256 48 := ⟨_, rfl⟩
        have g_z348 : (0 : Int) ≤ s341 256 48 ∧ s341 256 48 ≤ 120 := hG_s341 256 48
        obtain ⟨z349, e_z349⟩ : ∃ z, z = s341 256 36 := ⟨_, rfl⟩
        have g_z349 : (0 : Int) ≤ s341 256 36 ∧ s341 256 36 ≤ 160 := hG_s341 256 36
        obtain ⟨z350, e_z350⟩ : ∃ z, z = s341 256 34 := ⟨_, rfl⟩
        have g_z350 : (0 : Int) ≤ s341 256 34 ∧ s341 256 34 ≤ 160 := hG_s341 256 34
        obtain ⟨z351, e_z351⟩ : ∃ z, z = s341 256 43 := ⟨_, rfl⟩
        have g_z351 : (0 : Int) ≤ s341 256 43 ∧ s341 256 43 ≤ 8 := hG_s341 256 43
        obtain ⟨z352, e_z352⟩ : ∃ z, z = s341 256 50 := ⟨_, rfl⟩
        have g_z352 : (0 : Int) ≤ s341 256 50 ∧ s341 256 50 ≤ 5 := hG_s341 256 50
        obtain ⟨z353, e_z353⟩ : ∃ z, z = s341 256 51 := ⟨_, rfl⟩
        have g_z353 : (0 : Int) ≤ s341 256 51 ∧ s341 256 51 ≤ 1 := hG_s341 256 51
        refine x_callV k231_841 (y := 200) (n := 0) (w0 := 0) (w1 := 0) (as := []) (rest := []) (by decide +kernel) (q := 256) (nq := 62) (kq := 15) ⟨by decide, rfl⟩ rfl rfl rfl rfl (xe_mono (E_X11_ask_256 s341 hG_s341 ⟨by omega, by omega⟩ ⟨by omega, by omega⟩ ⟨by omega, by omega⟩ ⟨by omega, by omega⟩ ⟨by omega, by omega⟩ ⟨by omega, by omega⟩ ⟨by omega, by omega⟩ J_s341) ?_)
        rintro s355 v ⟨hG_s355, t_s355, z354, rfl, g_z354, xp_z354, J_s355⟩
        have q356 : s355 177 1 = z342 := (t_s355 177 1 (show 1218 ∉ [4133, 4136, 4132, 4134, 4135, 6080, 6144, 4144, 4145, 4148, 4147, 6208, 4131, 6016, 4140] from by decide +kernel)).trans e_z342.symm
        have q357 : s355 177 5 = z343 := (t_s355 177 5 (show 1222 ∉ [4133, 4136, 4132, 4134, 4135, 6080, 6144, 4144, 4145, 4148, 4147, 6208, 4131, 6016, 4140] from by decide +kernel)).trans e_z343.symm
        have q358 : s355 177 6 = z344 := (t_s355 177 6 (show 1223 ∉ [4133, 4136, 4132, 4134, 4135, 6080, 6144, 4144, 4145, 4148, 4147, 6208, 4131, 6016, 4140] from by decide +kernel)).trans e_z344.symm
        have q359 : s355 0 11 = z345 := (t_s355 0 11 (show 12 ∉ [4133, 4136, 4132, 4134, 4135, 6080, 6144, 4144, 4145, 4148, 4147, 6208, 4131, 6016, 4140] from by decide +kernel)).trans e_z345.symm
        have q360 : s355 218 6 = z346 := (t_s355 218 6 (show 2503 ∉ [4133, 4136, 4132, 4134, 4135, 6080, 6144, 4144, 4145, 4148, 4147, 6208, 4131, 6016, 4140] from by decide +kernel)).trans e_z346.symm
        have TR_s355 : TR s355 := TR.fl TR_s341 (hG_s341 256 1).2 t_s355 (by decide)
        have R1_s355 : R1 s355 := R1.fl R1_s341 t_s355 (by decide +kernel)
        have G1_s355 : G1 s355 := G1.fl G1_s341 t_s355 (by decide +kernel)
        have G3_s355 : G3 s355 := G3.fl G3_s341 t_s355 (by decide +kernel)
        have VCj_s355 : VCj s355 := VCj.fl VCj_s341 hG_s341 t_s355 (by decide)
        obtain ⟨z361, e_z361⟩ : ∃ z, z = s355 256 35 := ⟨_, rfl⟩
        have g_z361 : (-2147483648) ≤ s355 256 35 ∧ s355 256 35 ≤ 2147483647 := hG_s355 256 35
        obtain ⟨z362, e_z362⟩ : ∃ z, z = s355 256 34 := ⟨_, rfl⟩
        have g_z362 : (0 : Int) ≤ s355 256 34 ∧ s355 256 34 ≤ 160 := hG_s355 256 34
        obtain ⟨z363, e_z363⟩ : ∃ z, z = s355 256 43 := ⟨_, rfl⟩
        have g_z363 : (0 : Int) ≤ s355 256 43 ∧ s355 256 43 ≤ 8 := hG_s355 256 43
        show xe (some (N, xs)) 231 844 [(0, .ref 2000), (1, .ref 0), (2, .ref 256), (3, vi x3)] [vi z354] s355 295 10442 _
        obtain ⟨ez_s355, X1_s355⟩ := X1.ask i_X1 hG t_s341 t_s355 (by decide) (by decide) xp_z340 xp_z354
        refine x_A k231_844 (fun _ => rfl) ?_
        refine x_goto k231_845 (t := 1300) rfl ?_
        refine x_iinc k231_1300 (ls' := [(3, vi (x3 + 7)), (0, .ref 2000), (1, .ref 0), (2, .ref 256)]) rfl (by decide) rfl ?_
        refine x_goto k231_1303 (t := 18) rfl ?_
        refine x_ls (l := [(0, .ref 2000), (1, .ref 0), (2, .ref 256), (3, vi (x3 + 7))]) (show ([0, 1, 2, 3] : List Nat).Nodup from by decide +kernel) ⟨rfl, rfl, rfl, rfl, trivial⟩ ?_
        exact ih s355 (x3 + 7) hG_s355 trivial ⟨by omega, by omega⟩ J_s355 TR_s355 X1_s355 R1_s355 G1_s355 G3_s355 VCj_s355  (by omega)
      · rw [c5]
        refine x_B k231_33 rfl (fun _ => rfl) (fun _ => rfl) (fun _ _ => rfl) ?_
        show xe (some (N, xs)) 231 848 [(0, .ref 2000), (1, .ref 0), (2, .ref 256), (3, vi x3)] [] s 295 10442 _
        refine x_A k231_848 (fun _ => rfl) ?_
        refine x_A k231_849 (fun _ => rfl) ?_
        refine x_A k231_850 (fun _ => rfl) ?_
        refine x_A k231_851 (fun _ => rfl) ?_
        refine x_iadd k231_852 ?_
        refine x_top (fun z364 e_z364 => ?_)
        refine x_scr k231_853 hN ⟨by omega, by omega⟩ (fun z365 g_z365 e_z365 => ?_)
        unfold in32 at g_z365
        refine x_A k231_854 (fun _ => rfl) ?_
        refine x_A k231_855 (fun _ => rfl) ?_
        refine x_A k231_856 (fun _ => rfl) ?_
        refine x_iadd k231_857 ?_
        refine x_top (fun z366 e_z366 => ?_)
        refine x_scr k231_858 hN ⟨by omega, by omega⟩ (fun z367 g_z367 e_z367 => ?_)
        unfold in32 at g_z367
        refine x_A k231_859 (fun _ => rfl) ?_
        refine x_A k231_860 (fun _ => rfl) ?_
        refine x_A k231_861 (fun _ => rfl) ?_
        refine x_iadd k231_862 ?_
        refine x_top (fun z368 e_z368 => ?_)
        refine x_scr k231_863 hN ⟨by omega, by omega⟩ (fun z369 g_z369 e_z369 => ?_)
        unfold in32 at g_z369
        refine x_callV k231_864 (y := 111) (n := 3) (w0 := 0) (w1 := 3) (as := [vi z365, vi z367, vi z369]) (rest := []) (by decide +kernel) (q := 0) (nq := 12) (kq := 3) ⟨by decide, rfl⟩ rfl rfl rfl rfl (xe_mono (V_X10_met_0 s hG i_J z365 (by first | exact x_rbe e_z365 g_z365 rfl rfl | exact x_rb g_z365 rfl rfl | exact ⟨by omega, by omega⟩) z367 (by first | exact x_rbe e_z367 g_z367 rfl rfl | exact x_rb g_z367 rfl rfl | exact ⟨by omega, by omega⟩) z369 (by first | exact x_rbe e_z369 g_z369 rfl rfl | exact x_rb g_z369 rfl rfl | exact ⟨by omega, by omega⟩) i_R1 i_VCj) ?_)
        rintro s371 v ⟨hG_s371, t_s371, z370, rfl, g_z370, VCj_s371⟩
        have J_s371 : J s371 := J.fl i_J t_s371 (by decide +kernel)
        have TR_s371 : TR s371 := TR.fl i_TR (hG 256 1).2 t_s371 (by decide)
        have X1_s371 : X1 s371 := X1.fl i_X1 t_s371 (by decide +kernel)
        have R1_s371 : R1 s371 := R1.fl i_R1 t_s371 (by decide +kernel)
        have G1_s371 : G1 s371 := G1.fl i_G1 t_s371 (by decide +kernel)
        have G3_s371 : G3 s371 := G3.fl i_G3 t_s371 (by decide +kernel)
        show xe (some (N, xs)) 231 867 [(0, .ref 2000), (1, .ref 0), (2, .ref 256), (3, vi x3)] [vi z370] s371 295 10442 _
        refine x_A k231_867 (fun _ => rfl) ?_
        refine x_A k231_868 (fun _ => rfl) ?_
        refine x_A k231_869 (fun _ => rfl) ?_
        refine x_A k231_870 (fun _ => rfl) ?_
        refine x_A k231_871 (fun _ => rfl) ?_
        refine x_iadd k231_872 ?_
        refine x_top (fun z372 e_z372 => ?_)
        refine x_scr k231_873 hN ⟨by omega, by omega⟩ (fun z373 g_z373 e_z373 => ?_)
        unfold in32 at g_z373
        have q_z373 : z373 = z365 := by rw [e_z373, e_z365, show z372 = z364 by omega]
        refine x_A k231_874 (fun _ => rfl) ?_
        refine x_A k231_875 (fun _ => rfl) ?_
        refine x_A k231_876 (fun _ => rfl) ?_
        refine x_iadd k231_877 ?_
        refine x_top (fun z374 e_z374 => ?_)
        refine x_scr k231_878 hN ⟨by omega, by omega⟩ (fun z375 g_z375 e_z375 => ?_)
        unfold in32 at g_z375
        have q_z375 : z375 = z367 := by rw [e_z375, e_z367, show z374 = z366 by omega]
        refine x_A k231_879 (fun _ => rfl) ?_
        refine x_A k231_880 (fun _ => rfl) ?_
        refine x_A k231_881 (fun _ => rfl) ?_
        refine x_iadd k231_882 ?_
        refine x_top (fun z376 e_z376 => ?_)
        refine x_scr k231_883 hN ⟨by omega, by omega⟩ (fun z377 g_z377 e_z377 => ?_)
        unfold in32 at g_z377
        have q_z377 : z377 = z369 := by rw [e_z377, e_z369, show z376 = z368 by omega]
        refine x_callV k231_884 (y := 204) (n := 3) (w0 := 0) (w1 := 3) (as := [vi z373, vi z375, vi z377]) (rest := []) (by decide +kernel) (q := 256) (nq := 62) (kq := 15) ⟨by decide, rfl⟩ rfl rfl rfl rfl (xe_mono (C_X11_met_256 s371 hG_s371 J_s371 z373 (by first | exact x_rbe e_z373 g_z373 rfl rfl | exact x_rb g_z373 rfl rfl | exact ⟨by omega, by omega⟩) z375 (by first | exact x_rbe e_z375 g_z375 rfl rfl | exact x_rb g_z375 rfl rfl | exact ⟨by omega, by omega⟩) z377 (by first | exact x_rbe e_z377 g_z377 rfl rfl | exact x_rb g_z377 rfl rfl | exact ⟨by omega, by omega⟩)) ?_)
        rintro s379 v ⟨hG_s379, t_s379, z378, rfl, g_z378⟩
        have J_s379 : J s379 := J.fl J_s371 t_s379 (by decide +kernel)
        have TR_s379 : TR s379 := TR.fl TR_s371 (hG_s371 256 1).2 t_s379 (by decide)
        have X1_s379 : X1 s379 := X1.fl X1_s371 t_s379 (by decide +kernel)
        have R1_s379 : R1 s379 := R1.fl R1_s371 t_s379 (by decide +kernel)
        have G1_s379 : G1 s379 := G1.fl G1_s371 t_s379 (by decide +kernel)
        have G3_s379 : G3 s379 := G3.fl G3_s371 t_s379 (by decide +kernel)
        have VCj_s379 : VCj s379 := VCj.fl VCj_s371 hG_s371 t_s379 (by decide)
        show xe (some (N, xs)) 231 887 [(0, .ref 2000), (1, .ref 0), (2, .ref 256), (3, vi x3)] [vi z378] s379 295 10442 _
        refine x_A k231_887 (fun _ => rfl) ?_
        refine x_goto k231_888 (t := 1300) rfl ?_
        refine x_iinc k231_1300 (ls' := [(3, vi (x3 + 7)), (0, .ref 2000), (1, .ref 0), (2, .ref 256)]) rfl (by decide) rfl ?_
        refine x_goto k231_1303 (t := 18) rfl ?_
        refine x_ls (l := [(0, .ref 2000), (1, .ref 0), (2, .ref 256), (3, vi (x3 + 7))]) (show ([0, 1, 2, 3] : List Nat).Nodup from by decide +kernel) ⟨rfl, rfl, rfl, rfl, trivial⟩ ?_
        exact ih s379 (x3 + 7) hG_s379 trivial ⟨by omega, by omega⟩ J_s379 TR_s379 X1_s379 R1_s379 G1_s379 G3_s379 VCj_s379  (by omega)
      · rw [c5]
        refine x_B k231_33 rfl (fun _ => rfl) (fun _ => rfl) (fun _ _ => rfl) ?_
        show xe (some (N, xs)) 231 891 [(0, .ref 2000), (1, .ref 0), (2, .ref 256), (3, vi x3)] [] s 295 10442 _
        refine x_A k231_891 (fun _ => rfl) ?_
        refine x_A k231_892 (fun _ => rfl) ?_
        refine x_A k231_893 (fun _ => rfl) ?_
        refine x_A k231_894 (fun _ => rfl) ?_
        refine x_iadd k231_895 ?_
        refine x_top (fun z380 e_z380 => ?_)
        refine x_scr k231_896 hN ⟨by omega, by omega⟩ (fun z381 g_z381 e_z381 => ?_)
        unfold in32 at g_z381
        refine x_A k231_897 (fun _ => rfl) ?_
        refine x_A k231_898 (fun _ => rfl) ?_
        refine x_A k231_899 (fun _ => rfl) ?_
        refine x_iadd k231_900 ?_
        refine x_top (fun z382 e_z382 => ?_)
        refine x_scr k231_901 hN ⟨by omega, by omega⟩ (fun z383 g_z383 e_z383 => ?_)
        unfold in32 at g_z383
        refine x_A k231_902 (fun _ => rfl) ?_
        refine x_A k231_903 (fun _ => rfl) ?_
        refine x_A k231_904 (fun _ => rfl) ?_
        refine x_iadd k231_905 ?_
        refine x_top (fun z384 e_z384 => ?_)
        refine x_scr k231_906 hN ⟨by omega, by omega⟩ (fun z385 g_z385 e_z385 => ?_)
        unfold in32 at g_z385
        refine x_A k231_907 (fun _ => rfl) ?_
        refine x_A k231_908 (fun _ => rfl) ?_
        refine x_A k231_909 (fun _ => rfl) ?_
        refine x_iadd k231_910 ?_
        refine x_top (fun z386 e_z386 => ?_)
        refine x_scr k231_911 hN ⟨by omega, by omega⟩ (fun z387 g_z387 e_z387 => ?_)
        unfold in32 at g_z387
        refine x_A k231_912 (fun _ => rfl) ?_
        refine x_A k231_913 (fun _ => rfl) ?_
        refine x_A k231_914 (fun _ => rfl) ?_
        refine x_iadd k231_915 ?_
        refine x_top (fun z388 e_z388 => ?_)
        refine x_scr k231_916 hN ⟨by omega, by omega⟩ (fun z389 g_z389 e_z389 => ?_)
        unfold in32 at g_z389
        refine x_callV k231_917 (y := 112) (n := 5) (w0 := 0) (w1 := 5) (as := [vi z381, vi z383, vi z385, vi z387, vi z389]) (rest := []) (by decide +kernel) (q := 0) (nq := 12) (kq := 3) ⟨by decide, rfl⟩ rfl rfl rfl rfl (xe_mono (V_X10_hands_0 s hG i_J z381 (by first | exact x_rbe e_z381 g_z381 rfl rfl | exact x_rb g_z381 rfl rfl | exact ⟨by omega, by omega⟩) z383 (by first | exact x_rbe e_z383 g_z383 rfl rfl | exact x_rb g_z383 rfl rfl | exact ⟨by omega, by omega⟩) z385 (by first | exact x_rbe e_z385 g_z385 rfl rfl | exact x_rb g_z385 rfl rfl | exact ⟨by omega, by omega⟩) z387 (by first | exact x_rbe e_z387 g_z387 rfl rfl | exact x_rb g_z387 rfl rfl | exact ⟨by omega, by omega⟩) z389 (by first | exact x_rbe e_z389 g_z389 rfl rfl | exact x_rb g_z389 rfl rfl | exact ⟨by omega, by omega⟩) i_R1 i_VCj) ?_)
        rintro s391 v ⟨hG_s391, t_s391, z390, rfl, g_z390, VCj_s391⟩
        have J_s391 : J s391 := J.fl i_J t_s391 (by decide +kernel)
        have TR_s391 : TR s391 := TR.fl i_TR (hG 256 1).2 t_s391 (by decide)
        have X1_s391 : X1 s391 := X1.fl i_X1 t_s391 (by decide +kernel)
        have R1_s391 : R1 s391 := R1.fl i_R1 t_s391 (by decide +kernel)
        have G1_s391 : G1 s391 := G1.fl i_G1 t_s391 (by decide +kernel)
        have G3_s391 : G3 s391 := G3.fl i_G3 t_s391 (by decide +kernel)
        show xe (some (N, xs)) 231 920 [(0, .ref 2000), (1, .ref 0), (2, .ref 256), (3, vi x3)] [vi z390] s391 295 10442 _
        refine x_A k231_920 (fun _ => rfl) ?_
        refine x_A k231_921 (fun _ => rfl) ?_
        refine x_A k231_922 (fun _ => rfl) ?_
        refine x_A k231_923 (fun _ => rfl) ?_
        refine x_A k231_924 (fun _ => rfl) ?_
        refine x_iadd k231_925 ?_
        refine x_top (fun z392 e_z392 => ?_)
        refine x_scr k231_926 hN ⟨by omega, by omega⟩ (fun z393 g_z393 e_z393 => ?_)
        unfold in32 at g_z393
        have q_z393 : z393 = z381 := by rw [e_z393, e_z381, show z392 = z380 by omega]
        refine x_A k231_927 (fun _ => rfl) ?_
        refine x_A k231_928 (fun _ => rfl) ?_
        refine x_A k231_929 (fun _ => rfl) ?_
        refine x_iadd k231_930 ?_
        refine x_top (fun z394 e_z394 => ?_)
        refine x_scr k231_931 hN ⟨by omega, by omega⟩ (fun z395 g_z395 e_z395 => ?_)
        unfold in32 at g_z395
        have q_z395 : z395 = z383 := by rw [e_z395, e_z383, show z394 = z382 by omega]
        refine x_A k231_932 (fun _ => rfl) ?_
        refine x_A k231_933 (fun _ => rfl) ?_
        refine x_A k231_934 (fun _ => rfl) ?_
        refine x_iadd k231_935 ?_
        refine x_top (fun z396 e_z396 => ?_)
        refine x_scr k231_936 hN ⟨by omega, by omega⟩ (fun z397 g_z397 e_z397 => ?_)
        unfold in32 at g_z397
        have q_z397 : z397 = z385 := by rw [e_z397, e_z385, show z396 = z384 by omega]
        refine x_A k231_937 (fun _ => rfl) ?_
        refine x_A k231_938 (fun _ => rfl) ?_
        refine x_A k231_939 (fun _ => rfl) ?_
        refine x_iadd k231_940 ?_
        refine x_top (fun z398 e_z398 => ?_)
        refine x_scr k231_941 hN ⟨by omega, by omega⟩ (fun z399 g_z399 e_z399 => ?_)
        unfold in32 at g_z399
        have q_z399 : z399 = z387 := by rw [e_z399, e_z387, show z398 = z386 by omega]
        refine x_A k231_942 (fun _ => rfl) ?_
        refine x_A k231_943 (fun _ => rfl) ?_
        refine x_A k231_944 (fun _ => rfl) ?_
        refine x_iadd k231_945 ?_
        refine x_top (fun z400 e_z400 => ?_)
        refine x_scr k231_946 hN ⟨by omega, by omega⟩ (fun z401 g_z401 e_z401 => ?_)
        unfold in32 at g_z401
        have q_z401 : z401 = z389 := by rw [e_z401, e_z389, show z400 = z388 by omega]
        refine x_callV k231_947 (y := 206) (n := 5) (w0 := 0) (w1 := 5) (as := [vi z393, vi z395, vi z397, vi z399, vi z401]) (rest := []) (by decide +kernel) (q := 256) (nq := 62) (kq := 15) ⟨by decide, rfl⟩ rfl rfl rfl rfl (xe_mono (C_X11_hands_256 s391 hG_s391 J_s391 z393 (by first | exact x_rbe e_z393 g_z393 rfl rfl | exact x_rb g_z393 rfl rfl | exact ⟨by omega, by omega⟩) z395 (by first | exact x_rbe e_z395 g_z395 rfl rfl | exact x_rb g_z395 rfl rfl | exact ⟨by omega, by omega⟩) z397 (by first | exact x_rbe e_z397 g_z397 rfl rfl | exact x_rb g_z397 rfl rfl | exact ⟨by omega, by omega⟩) z399 (by first | exact x_rbe e_z399 g_z399 rfl rfl | exact x_rb g_z399 rfl rfl | exact ⟨by omega, by omega⟩) z401 (by first | exact x_rbe e_z401 g_z401 rfl rfl | exact x_rb g_z401 rfl rfl | exact ⟨by omega, by omega⟩)) ?_)
        rintro s403 v ⟨hG_s403, t_s403, z402, rfl, g_z402⟩
        have J_s403 : J s403 := J.fl J_s391 t_s403 (by decide +kernel)
        have TR_s403 : TR s403 := TR.fl TR_s391 (hG_s391 256 1).2 t_s403 (by decide)
        have X1_s403 : X1 s403 := X1.fl X1_s391 t_s403 (by decide +kernel)
        have R1_s403 : R1 s403 := R1.fl R1_s391 t_s403 (by decide +kernel)
        have G1_s403 : G1 s403 := G1.fl G1_s391 t_s403 (by decide +kernel)
        have G3_s403 : G3 s403 := G3.fl G3_s391 t_s403 (by decide +kernel)
        have VCj_s403 : VCj s403 := VCj.fl VCj_s391 hG_s391 t_s403 (by decide)
        show xe (some (N, xs)) 231 950 [(0, .ref 2000), (1, .ref 0), (2, .ref 256), (3, vi x3)] [vi z402] s403 295 10442 _
        refine x_A k231_950 (fun _ => rfl) ?_
        refine x_goto k231_951 (t := 1300) rfl ?_
        refine x_iinc k231_1300 (ls' := [(3, vi (x3 + 7)), (0, .ref 2000), (1, .ref 0), (2, .ref 256)]) rfl (by decide) rfl ?_
        refine x_goto k231_1303 (t := 18) rfl ?_
        refine x_ls (l := [(0, .ref 2000), (1, .ref 0), (2, .ref 256), (3, vi (x3 + 7))]) (show ([0, 1, 2, 3] : List Nat).Nodup from by decide +kernel) ⟨rfl, rfl, rfl, rfl, trivial⟩ ?_
        exact ih s403 (x3 + 7) hG_s403 trivial ⟨by omega, by omega⟩ J_s403 TR_s403 X1_s403 R1_s403 G1_s403 G3_s403 VCj_s403  (by omega)
      · rw [c5]
        refine x_B k231_33 rfl (fun _ => rfl) (fun _ => rfl) (fun _ _ => rfl) ?_
        show xe (some (N, xs)) 231 954 [(0, .ref 2000), (1, .ref 0), (2, .ref 256), (3, vi x3)] [] s 295 10442 _
        refine x_A k231_954 (fun _ => rfl) ?_
        refine x_A k231_955 (fun _ => rfl) ?_
        refine x_A k231_956 (fun _ => rfl) ?_
        refine x_A k231_957 (fun _ => rfl) ?_
        refine x_iadd k231_958 ?_
        refine x_top (fun z404 e_z404 => ?_)
        refine x_scr k231_959 hN ⟨by omega, by omega⟩ (fun z405 g_z405 e_z405 => ?_)
        unfold in32 at g_z405
        refine x_A k231_960 (fun _ => rfl) ?_
        refine x_A k231_961 (fun _ => rfl) ?_
        refine x_A k231_962 (fun _ => rfl) ?_
        refine x_iadd k231_963 ?_
        refine x_top (fun z406 e_z406 => ?_)
        refine x_scr k231_964 hN ⟨by omega, by omega⟩ (fun z407 g_z407 e_z407 => ?_)
        unfold in32 at g_z407
        refine x_A k231_965 (fun _ => rfl) ?_
        refine x_A k231_966 (fun _ => rfl) ?_
        refine x_A k231_967 (fun _ => rfl) ?_
        refine x_iadd k231_968 ?_
        refine x_top (fun z408 e_z408 => ?_)
        refine x_scr k231_969 hN ⟨by omega, by omega⟩ (fun z409 g_z409 e_z409 => ?_)
        unfold in32 at g_z409
        refine x_A k231_970 (fun _ => rfl) ?_
        refine x_A k231_971 (fun _ => rfl) ?_
        refine x_A k231_972 (fun _ => rfl) ?_
        refine x_iadd k231_973 ?_
        refine x_top (fun z410 e_z410 => ?_)
        refine x_scr k231_974 hN ⟨by omega, by omega⟩ (fun z411 g_z411 e_z411 => ?_)
        unfold in32 at g_z411
        refine x_A k231_975 (fun _ => rfl) ?_
        refine x_A k231_976 (fun _ => rfl) ?_
        refine x_A k231_977 (fun _ => rfl) ?_
        refine x_iadd k231_978 ?_
        refine x_top (fun z412 e_z412 => ?_)
        refine x_scr k231_979 hN ⟨by omega, by omega⟩ (fun z413 g_z413 e_z413 => ?_)
        unfold in32 at g_z413
        refine x_A k231_980 (fun _ => rfl) ?_
        refine x_A k231_981 (fun _ => rfl) ?_
        refine x_bipush k231_982 (by decide +kernel) ?_
        refine x_iadd k231_984 ?_
        refine x_top (fun z414 e_z414 => ?_)
        refine x_scr k231_985 hN ⟨by omega, by omega⟩ (fun z415 g_z415 e_z415 => ?_)
        unfold in32 at g_z415
        refine x_callV k231_986 (y := 113) (n := 6) (w0 := 0) (w1 := 6) (as := [vi z405, vi z407, vi z409, vi z411, vi z413, vi z415]) (rest := []) (by decide +kernel) (q := 0) (nq := 12) (kq := 3) ⟨by decide, rfl⟩ rfl rfl rfl rfl (xe_mono (V_X10_together_0 s hG i_J z405 (by first | exact x_rbe e_z405 g_z405 rfl rfl | exact x_rb g_z405 rfl rfl | exact ⟨by omega, by omega⟩) z407 (by first | exact x_rbe e_z407 g_z407 rfl rfl | exact x_rb g_z407 rfl rfl | exact ⟨by omega, by omega⟩) z409 (by first | exact x_rbe e_z409 g_z409 rfl rfl | exact x_rb g_z409 rfl rfl | exact ⟨by omega, by omega⟩) z411 (by first | exact x_rbe e_z411 g_z411 rfl rfl | exact x_rb g_z411 rfl rfl | exact ⟨by omega, by omega⟩) z413 (by first | exact x_rbe e_z413 g_z413 rfl rfl | exact x_rb g_z413 rfl rfl | exact ⟨by omega, by omega⟩) z415 (by first | exact x_rbe e_z415 g_z415 rfl rfl | exact x_rb g_z415 rfl rfl | exact ⟨by omega, by omega⟩) i_R1 i_VCj) ?_)
        rintro s417 v ⟨hG_s417, t_s417, z416, rfl, g_z416, VCj_s417⟩
        have J_s417 : J s417 := J.fl i_J t_s417 (by decide +kernel)
        have TR_s417 : TR s417 := TR.fl i_TR (hG 256 1).2 t_s417 (by decide)
        have X1_s417 : X1 s417 := X1.fl i_X1 t_s417 (by decide +kernel)
        have R1_s417 : R1 s417 := R1.fl i_R1 t_s417 (by decide +kernel)
        have G1_s417 : G1 s417 := G1.fl i_G1 t_s417 (by decide +kernel)
        have G3_s417 : G3 s417 := G3.fl i_G3 t_s417 (by decide +kernel)
        show xe (some (N, xs)) 231 989 [(0, .ref 2000), (1, .ref 0), (2, .ref 256), (3, vi x3)] [vi z416] s417 295 10442 _
        refine x_A k231_989 (fun _ => rfl) ?_
        refine x_A k231_990 (fun _ => rfl) ?_
        refine x_A k231_991 (fun _ => rfl) ?_
        refine x_A k231_992 (fun _ => rfl) ?_
        refine x_A k231_993 (fun _ => rfl) ?_
        refine x_iadd k231_994 ?_
        refine x_top (fun z418 e_z418 => ?_)
        refine x_scr k231_995 hN ⟨by omega, by omega⟩ (fun z419 g_z419 e_z419 => ?_)
        unfold in32 at g_z419
        have q_z419 : z419 = z405 := by rw [e_z419, e_z405, show z418 = z404 by omega]
        refine x_A k231_996 (fun _ => rfl) ?_
        refine x_A k231_997 (fun _ => rfl) ?_
        refine x_A k231_998 (fun _ => rfl) ?_
        refine x_iadd k231_999 ?_
        refine x_top (fun z420 e_z420 => ?_)
        refine x_scr k231_1000 hN ⟨by omega, by omega⟩ (fun z421 g_z421 e_z421 => ?_)
        unfold in32 at g_z421
        have q_z421 : z421 = z407 := by rw [e_z421, e_z407, show z420 = z406 by omega]
        refine x_A k231_1001 (fun _ => rfl) ?_
        refine x_A k231_1002 (fun _ => rfl) ?_
        refine x_A k231_1003 (fun _ => rfl) ?_
        refine x_iadd k231_1004 ?_
        refine x_top (fun z422 e_z422 => ?_)
        refine x_scr k231_1005 hN ⟨by omega, by omega⟩ (fun z423 g_z423 e_z423 => ?_)
        unfold in32 at g_z423
        have q_z423 : z423 = z409 := by rw [e_z423, e_z409, show z422 = z408 by omega]
        refine x_A k231_1006 (fun _ => rfl) ?_
        refine x_A k231_1007 (fun _ => rfl) ?_
        refine x_A k231_1008 (fun _ => rfl) ?_
        refine x_iadd k231_1009 ?_
        refine x_top (fun z424 e_z424 => ?_)
        refine x_scr k231_1010 hN ⟨by omega, by omega⟩ (fun z425 g_z425 e_z425 => ?_)
        unfold in32 at g_z425
        have q_z425 : z425 = z411 := by rw [e_z425, e_z411, show z424 = z410 by omega]
        refine x_A k231_1011 (fun _ => rfl) ?_
        refine x_A k231_1012 (fun _ => rfl) ?_
        refine x_A k231_1013 (fun _ => rfl) ?_
        refine x_iadd k231_1014 ?_
        refine x_top (fun z426 e_z426 => ?_)
        refine x_scr k231_1015 hN ⟨by omega, by omega⟩ (fun z427 g_z427 e_z427 => ?_)
        unfold in32 at g_z427
        have q_z427 : z427 = z413 := by rw [e_z427, e_z413, show z426 = z412 by omega]
        refine x_A k231_1016 (fun _ => rfl) ?_
        refine x_A k231_1017 (fun _ => rfl) ?_
        refine x_bipush k231_1018 (by decide +kernel) ?_
        refine x_iadd k231_1020 ?_
        refine x_top (fun z428 e_z428 => ?_)
        refine x_scr k231_1021 hN ⟨by omega, by omega⟩ (fun z429 g_z429 e_z429 => ?_)
        unfold in32 at g_z429
        have q_z429 : z429 = z415 := by rw [e_z429, e_z415, show z428 = z414 by omega]
        refine x_callV k231_1022 (y := 208) (n := 6) (w0 := 0) (w1 := 6) (as := [vi z419, vi z421, vi z423, vi z425, vi z427, vi z429]) (rest := []) (by decide +kernel) (q := 256) (nq := 62) (kq := 15) ⟨by decide, rfl⟩ rfl rfl rfl rfl (xe_mono (C_X11_together_256 s417 hG_s417 J_s417 z419 (by first | exact x_rbe e_z419 g_z419 rfl rfl | exact x_rb g_z419 rfl rfl | exact ⟨by omega, by omega⟩) z421 (by first | exact x_rbe e_z421 g_z421 rfl rfl | exact x_rb g_z421 rfl rfl | exact ⟨by omega, by omega⟩) z423 (by first | exact x_rbe e_z423 g_z423 rfl rfl | exact x_rb g_z423 rfl rfl | exact ⟨by omega, by omega⟩) z425 (by first | exact x_rbe e_z425 g_z425 rfl rfl | exact x_rb g_z425 rfl rfl | exact ⟨by omega, by omega⟩) z427 (by first | exact x_rbe e_z427 g_z427 rfl rfl | exact x_rb g_z427 rfl rfl | exact ⟨by omega, by omega⟩) z429 (by first | exact x_rbe e_z429 g_z429 rfl rfl | exact x_rb g_z429 rfl rfl | exact ⟨by omega, by omega⟩)) ?_)
        rintro s431 v ⟨hG_s431, t_s431, z430, rfl, g_z430⟩
        have J_s431 : J s431 := J.fl J_s417 t_s431 (by decide +kernel)
        have TR_s431 : TR s431 := TR.fl TR_s417 (hG_s417 256 1).2 t_s431 (by decide)
        have X1_s431 : X1 s431 := X1.fl X1_s417 t_s431 (by decide +kernel)
        have R1_s431 : R1 s431 := R1.fl R1_s417 t_s431 (by decide +kernel)
        have G1_s431 : G1 s431 := G1.fl G1_s417 t_s431 (by decide +kernel)
        have G3_s431 : G3 s431 := G3.fl G3_s417 t_s431 (by decide +kernel)
        have VCj_s431 : VCj s431 := VCj.fl VCj_s417 hG_s417 t_s431 (by decide)
        show xe (some (N, xs)) 231 1025 [(0, .ref 2000), (1, .ref 0), (2, .ref 256), (3, vi x3)] [vi z430] s431 295 10442 _
        refine x_A k231_1025 (fun _ => rfl) ?_
        refine x_goto k231_1026 (t := 1300) rfl ?_
        refine x_iinc k231_1300 (ls' := [(3, vi (x3 + 7)), (0, .ref 2000), (1, .ref 0), (2, .ref 256)]) rfl (by decide) rfl ?_
        refine x_goto k231_1303 (t := 18) rfl ?_
        refine x_ls (l := [(0, .ref 2000), (1, .ref 0), (2, .ref 256), (3, vi (x3 + 7))]) (show ([0, 1, 2, 3] : List Nat).Nodup from by decide +kernel) ⟨rfl, rfl, rfl, rfl, trivial⟩ ?_
        exact ih s431 (x3 + 7) hG_s431 trivial ⟨by omega, by omega⟩ J_s431 TR_s431 X1_s431 R1_s431 G1_s431 G3_s431 VCj_s431  (by omega)
      · rw [c5]
        refine x_B k231_33 rfl (fun _ => rfl) (fun _ => rfl) (fun _ _ => rfl) ?_
        show xe (some (N, xs)) 231 1029 [(0, .ref 2000), (1, .ref 0), (2, .ref 256), (3, vi x3)] [] s 295 10442 _
        refine x_A k231_1029 (fun _ => rfl) ?_
        refine x_A k231_1030 (fun _ => rfl) ?_
        refine x_A k231_1031 (fun _ => rfl) ?_
        refine x_A k231_1032 (fun _ => rfl) ?_
        refine x_iadd k231_1033 ?_
        refine x_top (fun z432 e_z432 => ?_)
        refine x_scr k231_1034 hN ⟨by omega, by omega⟩ (fun z433 g_z433 e_z433 => ?_)
        unfold in32 at g_z433
        refine x_A k231_1035 (fun _ => rfl) ?_
        refine x_A k231_1036 (fun _ => rfl) ?_
        refine x_A k231_1037 (fun _ => rfl) ?_
        refine x_iadd k231_1038 ?_
        refine x_top (fun z434 e_z434 => ?_)
        refine x_scr k231_1039 hN ⟨by omega, by omega⟩ (fun z435 g_z435 e_z435 => ?_)
        unfold in32 at g_z435
        refine x_A k231_1040 (fun _ => rfl) ?_
        refine x_A k231_1041 (fun _ => rfl) ?_
        refine x_A k231_1042 (fun _ => rfl) ?_
        refine x_iadd k231_1043 ?_
        refine x_top (fun z436 e_z436 => ?_)
        refine x_scr k231_1044 hN ⟨by omega, by omega⟩ (fun z437 g_z437 e_z437 => ?_)
        unfold in32 at g_z437
        refine x_callV k231_1045 (y := 114) (n := 3) (w0 := 0) (w1 := 3) (as := [vi z433, vi z435, vi z437]) (rest := []) (by decide +kernel) (q := 0) (nq := 12) (kq := 3) ⟨by decide, rfl⟩ rfl rfl rfl rfl (xe_mono (V_X10_along_0 s hG i_J z433 (by first | exact x_rbe e_z433 g_z433 rfl rfl | exact x_rb g_z433 rfl rfl | exact ⟨by omega, by omega⟩) z435 (by first | exact x_rbe e_z435 g_z435 rfl rfl | exact x_rb g_z435 rfl rfl | exact ⟨by omega, by omega⟩) z437 (by first | exact x_rbe e_z437 g_z437 rfl rfl | exact x_rb g_z437 rfl rfl | exact ⟨by omega, by omega⟩) i_R1 i_VCj) ?_)
        rintro s439 v ⟨hG_s439, t_s439, z438, rfl, g_z438, VCj_s439⟩
        have J_s439 : J s439 := J.fl i_J t_s439 (by decide +kernel)
        have TR_s439 : TR s439 := TR.fl i_TR (hG 256 1).2 t_s439 (by decide)
        have X1_s439 : X1 s439 := X1.fl i_X1 t_s439 (by decide +kernel)
        have R1_s439 : R1 s439 := R1.fl i_R1 t_s439 (by decide +kernel)
        have G1_s439 : G1 s439 := G1.fl i_G1 t_s439 (by decide +kernel)
        have G3_s439 : G3 s439 := G3.fl i_G3 t_s439 (by decide +kernel)
        show xe (some (N, xs)) 231 1048 [(0, .ref 2000), (1, .ref 0), (2, .ref 256), (3, vi x3)] [vi z438] s439 295 10442 _
        refine x_A k231_1048 (fun _ => rfl) ?_
        refine x_A k231_1049 (fun _ => rfl) ?_
        refine x_A k231_1050 (fun _ => rfl) ?_
        refine x_A k231_1051 (fun _ => rfl) ?_
        refine x_A k231_1052 (fun _ => rfl) ?_
        refine x_iadd k231_1053 ?_
        refine x_top (fun z440 e_z440 => ?_)
        refine x_scr k231_1054 hN ⟨by omega, by omega⟩ (fun z441 g_z441 e_z441 => ?_)
        unfold in32 at g_z441
        have q_z441 : z441 = z433 := by rw [e_z441, e_z433, show z440 = z432 by omega]
        refine x_A k231_1055 (fun _ => rfl) ?_
        refine x_A k231_1056 (fun _ => rfl) ?_
        refine x_A k231_1057 (fun _ => rfl) ?_
        refine x_iadd k231_1058 ?_
        refine x_top (fun z442 e_z442 => ?_)
        refine x_scr k231_1059 hN ⟨by omega, by omega⟩ (fun z443 g_z443 e_z443 => ?_)
        unfold in32 at g_z443
        have q_z443 : z443 = z435 := by rw [e_z443, e_z435, show z442 = z434 by omega]
        refine x_A k231_1060 (fun _ => rfl) ?_
        refine x_A k231_1061 (fun _ => rfl) ?_
        refine x_A k231_1062 (fun _ => rfl) ?_
        refine x_iadd k231_1063 ?_
        refine x_top (fun z444 e_z444 => ?_)
        refine x_scr k231_1064 hN ⟨by omega, by omega⟩ (fun z445 g_z445 e_z445 => ?_)
        unfold in32 at g_z445
        have q_z445 : z445 = z437 := by rw [e_z445, e_z437, show z444 = z436 by omega]
        refine x_callV k231_1065 (y := 211) (n := 3) (w0 := 0) (w1 := 3) (as := [vi z441, vi z443, vi z445]) (rest := []) (by decide +kernel) (q := 256) (nq := 62) (kq := 15) ⟨by decide, rfl⟩ rfl rfl rfl rfl (xe_mono (C_X11_along_256 s439 hG_s439 J_s439 z441 (by first | exact x_rbe e_z441 g_z441 rfl rfl | exact x_rb g_z441 rfl rfl | exact ⟨by omega, by omega⟩) z443 (by first | exact x_rbe e_z443 g_z443 rfl rfl | exact x_rb g_z443 rfl rfl | exact ⟨by omega, by omega⟩) z445 (by first | exact x_rbe e_z445 g_z445 rfl rfl | exact x_rb g_z445 rfl rfl | exact ⟨by omega, by omega⟩)) ?_)
        rintro s447 v ⟨hG_s447, t_s447, z446, rfl, g_z446⟩
        have J_s447 : J s447 := J.fl J_s439 t_s447 (by decide +kernel)
        have TR_s447 : TR s447 := TR.fl TR_s439 (hG_s439 256 1).2 t_s447 (by decide)
        have X1_s447 : X1 s447 := X1.fl X1_s439 t_s447 (by decide +kernel)
        have R1_s447 : R1 s447 := R1.fl R1_s439 t_s447 (by decide +kernel)
        have G1_s447 : G1 s447 := G1.fl G1_s439 t_s447 (by decide +kernel)
        have G3_s447 : G3 s447 := G3.fl G3_s439 t_s447 (by decide +kernel)
        have VCj_s447 : VCj s447 := VCj.fl VCj_s439 hG_s439 t_s447 (by decide)
        show xe (some (N, xs)) 231 1068 [(0, .ref 2000), (1, .ref 0), (2, .ref 256), (3, vi x3)] [vi z446] s447 295 10442 _
        refine x_A k231_1068 (fun _ => rfl) ?_
        refine x_goto k231_1069 (t := 1300) rfl ?_
        refine x_iinc k231_1300 (ls' := [(3, vi (x3 + 7)), (0, .ref 2000), (1, .ref 0), (2, .ref 256)]) rfl (by decide) rfl ?_
        refine x_goto k231_1303 (t := 18) rfl ?_
        refine x_ls (l := [(0, .ref 2000), (1, .ref 0), (2, .ref 256), (3, vi (x3 + 7))]) (show ([0, 1, 2, 3] : List Nat).Nodup from by decide +kernel) ⟨rfl, rfl, rfl, rfl, trivial⟩ ?_
        exact ih s447 (x3 + 7) hG_s447 trivial ⟨by omega, by omega⟩ J_s447 TR_s447 X1_s447 R1_s447 G1_s447 G3_s447 VCj_s447  (by omega)
      · rw [c5]
        refine x_B k231_33 rfl (fun _ => rfl) (fun _ => rfl) (fun _ _ => rfl) ?_
        show xe (some (N, xs)) 231 1072 [(0, .ref 2000), (1, .ref 0), (2, .ref 256), (3, vi x3)] [] s 295 10442 _
        refine x_A k231_1072 (fun _ => rfl) ?_
        refine x_A k231_1073 (fun _ => rfl) ?_
        refine x_A k231_1074 (fun _ => rfl) ?_
        refine x_A k231_1075 (fun _ => rfl) ?_
        refine x_iadd k231_1076 ?_
        refine x_top (fun z448 e_z448 => ?_)
        refine x_scr k231_1077 hN ⟨by omega, by omega⟩ (fun z449 g_z449 e_z449 => ?_)
        unfold in32 at g_z449
        refine x_A k231_1078 (fun _ => rfl) ?_
        refine x_A k231_1079 (fun _ => rfl) ?_
        refine x_A k231_1080 (fun _ => rfl) ?_
        refine x_iadd k231_1081 ?_
        refine x_top (fun z450 e_z450 => ?_)
        refine x_scr k231_1082 hN ⟨by omega, by omega⟩ (fun z451 g_z451 e_z451 => ?_)
        unfold in32 at g_z451
        refine x_A k231_1083 (fun _ => rfl) ?_
        refine x_A k231_1084 (fun _ => rfl) ?_
        refine x_A k231_1085 (fun _ => rfl) ?_
        refine x_iadd k231_1086 ?_
        refine x_top (fun z452 e_z452 => ?_)
        refine x_scr k231_1087 hN ⟨by omega, by omega⟩ (fun z453 g_z453 e_z453 => ?_)
        unfold in32 at g_z453
        refine x_callV k231_1088 (y := 115) (n := 3) (w0 := 0) (w1 := 3) (as := [vi z449, vi z451, vi z453]) (rest := []) (by decide +kernel) (q := 0) (nq := 12) (kq := 3) ⟨by decide, rfl⟩ rfl rfl rfl rfl (xe_mono (V_X10_likely_0 s hG i_J z449 (by first | exact x_rbe e_z449 g_z449 rfl rfl | exact x_rb g_z449 rfl rfl | exact ⟨by omega, by omega⟩) z451 (by first | exact x_rbe e_z451 g_z451 rfl rfl | exact x_rb g_z451 rfl rfl | exact ⟨by omega, by omega⟩) z453 (by first | exact x_rbe e_z453 g_z453 rfl rfl | exact x_rb g_z453 rfl rfl | exact ⟨by omega, by omega⟩) i_R1 i_VCj) ?_)
        rintro s455 v ⟨hG_s455, t_s455, z454, rfl, g_z454, VCj_s455⟩
        have J_s455 : J s455 := J.fl i_J t_s455 (by decide +kernel)
        have TR_s455 : TR s455 := TR.fl i_TR (hG 256 1).2 t_s455 (by decide)
        have X1_s455 : X1 s455 := X1.fl i_X1 t_s455 (by decide +kernel)
        have R1_s455 : R1 s455 := R1.fl i_R1 t_s455 (by decide +kernel)
        have G1_s455 : G1 s455 := G1.fl i_G1 t_s455 (by decide +kernel)
        have G3_s455 : G3 s455 := G3.fl i_G3 t_s455 (by decide +kernel)
        show xe (some (N, xs)) 231 1091 [(0, .ref 2000), (1, .ref 0), (2, .ref 256), (3, vi x3)] [vi z454] s455 295 10442 _
        refine x_A k231_1091 (fun _ => rfl) ?_
        refine x_A k231_1092 (fun _ => rfl) ?_
        refine x_A k231_1093 (fun _ => rfl) ?_
        refine x_A k231_1094 (fun _ => rfl) ?_
        refine x_A k231_1095 (fun _ => rfl) ?_
        refine x_iadd k231_1096 ?_
        refine x_top (fun z456 e_z456 => ?_)
        refine x_scr k231_1097 hN ⟨by omega, by omega⟩ (fun z457 g_z457 e_z457 => ?_)
        unfold in32 at g_z457
        have q_z457 : z457 = z449 := by rw [e_z457, e_z449, show z456 = z448 by omega]
        refine x_A k231_1098 (fun _ => rfl) ?_
        refine x_A k231_1099 (fun _ => rfl) ?_
        refine x_A k231_1100 (fun _ => rfl) ?_
        refine x_iadd k231_1101 ?_
        refine x_top (fun z458 e_z458 => ?_)
        refine x_scr k231_1102 hN ⟨by omega, by omega⟩ (fun z459 g_z459 e_z459 => ?_)
        unfold in32 at g_z459
        have q_z459 : z459 = z451 := by rw [e_z459, e_z451, show z458 = z450 by omega]
        refine x_A k231_1103 (fun _ => rfl) ?_
        refine x_A k231_1104 (fun _ => rfl) ?_
        refine x_A k231_1105 (fun _ => rfl) ?_
        refine x_iadd k231_1106 ?_
        refine x_top (fun z460 e_z460 => ?_)
        refine x_scr k231_1107 hN ⟨by omega, by omega⟩ (fun z461 g_z461 e_z461 => ?_)
        unfold in32 at g_z461
        have q_z461 : z461 = z453 := by rw [e_z461, e_z453, show z460 = z452 by omega]
        refine x_callV k231_1108 (y := 212) (n := 3) (w0 := 0) (w1 := 3) (as := [vi z457, vi z459, vi z461]) (rest := []) (by decide +kernel) (q := 256) (nq := 62) (kq := 15) ⟨by decide, rfl⟩ rfl rfl rfl rfl (xe_mono (C_X11_likely_256 s455 hG_s455 J_s455 z457 (by first | exact x_rbe e_z457 g_z457 rfl rfl | exact x_rb g_z457 rfl rfl | exact ⟨by omega, by omega⟩) z459 (by first | exact x_rbe e_z459 g_z459 rfl rfl | exact x_rb g_z459 rfl rfl | exact ⟨by omega, by omega⟩) z461 (by first | exact x_rbe e_z461 g_z461 rfl rfl | exact x_rb g_z461 rfl rfl | exact ⟨by omega, by omega⟩)) ?_)
        rintro s463 v ⟨hG_s463, t_s463, z462, rfl, g_z462⟩
        have J_s463 : J s463 := J.fl J_s455 t_s463 (by decide +kernel)
        have TR_s463 : TR s463 := TR.fl TR_s455 (hG_s455 256 1).2 t_s463 (by decide)
        have X1_s463 : X1 s463 := X1.fl X1_s455 t_s463 (by decide +kernel)
        have R1_s463 : R1 s463 := R1.fl R1_s455 t_s463 (by decide +kernel)
        have G1_s463 : G1 s463 := G1.fl G1_s455 t_s463 (by decide +kernel)
        have G3_s463 : G3 s463 := G3.fl G3_s455 t_s463 (by decide +kernel)
        have VCj_s463 : VCj s463 := VCj.fl VCj_s455 hG_s455 t_s463 (by decide)
        show xe (some (N, xs)) 231 1111 [(0, .ref 2000), (1, .ref 0), (2, .ref 256), (3, vi x3)] [vi z462] s463 295 10442 _
        refine x_A k231_1111 (fun _ => rfl) ?_
        refine x_goto k231_1112 (t := 1300) rfl ?_
        refine x_iinc k231_1300 (ls' := [(3, vi (x3 + 7)), (0, .ref 2000), (1, .ref 0), (2, .ref 256)]) rfl (by decide) rfl ?_
        refine x_goto k231_1303 (t := 18) rfl ?_
        refine x_ls (l := [(0, .ref 2000), (1, .ref 0), (2, .ref 256), (3, vi (x3 + 7))]) (show ([0, 1, 2, 3] : List Nat).Nodup from by decide +kernel) ⟨rfl, rfl, rfl, rfl, trivial⟩ ?_
        exact ih s463 (x3 + 7) hG_s463 trivial ⟨by omega, by omega⟩ J_s463 TR_s463 X1_s463 R1_s463 G1_s463 G3_s463 VCj_s463  (by omega)
      · rw [c5]
        refine x_B k231_33 rfl (fun _ => rfl) (fun _ => rfl) (fun _ _ => rfl) ?_
        show xe (some (N, xs)) 231 1115 [(0, .ref 2000), (1, .ref 0), (2, .ref 256), (3, vi x3)] [] s 295 10442 _
        refine x_A k231_1115 (fun _ => rfl) ?_
        refine x_A k231_1116 (fun _ => rfl) ?_
        refine x_A k231_1117 (fun _ => rfl) ?_
        refine x_A k231_1118 (fun _ => rfl) ?_
        refine x_iadd k231_1119 ?_
        refine x_top (fun z464 e_z464 => ?_)
        refine x_scr k231_1120 hN ⟨by omega, by omega⟩ (fun z465 g_z465 e_z465 => ?_)
        unfold in32 at g_z465
        refine x_A k231_1121 (fun _ => rfl) ?_
        refine x_A k231_1122 (fun _ => rfl) ?_
        refine x_A k231_1123 (fun _ => rfl) ?_
        refine x_iadd k231_1124 ?_
        refine x_top (fun z466 e_z466 => ?_)
        refine x_scr k231_1125 hN ⟨by omega, by omega⟩ (fun z467 g_z467 e_z467 => ?_)
        unfold in32 at g_z467
        refine x_callV k231_1126 (y := 116) (n := 2) (w0 := 0) (w1 := 2) (as := [vi z465, vi z467]) (rest := []) (by decide +kernel) (q := 0) (nq := 12) (kq := 3) ⟨by decide, rfl⟩ rfl rfl rfl rfl (xe_mono (V_X10_lacking_0 s hG i_J z465 (by first | exact x_rbe e_z465 g_z465 rfl rfl | exact x_rb g_z465 rfl rfl | exact ⟨by omega, by omega⟩) z467 (by first | exact x_rbe e_z467 g_z467 rfl rfl | exact x_rb g_z467 rfl rfl | exact ⟨by omega, by omega⟩) i_R1 i_VCj) ?_)
        rintro s469 v ⟨hG_s469, t_s469, z468, rfl, b_z468, VCj_s469⟩
        have J_s469 : J s469 := J.fl i_J t_s469 (by decide +kernel)
        have TR_s469 : TR s469 := TR.fl i_TR (hG 256 1).2 t_s469 (by decide)
        have X1_s469 : X1 s469 := X1.fl i_X1 t_s469 (by decide +kernel)
        have R1_s469 : R1 s469 := R1.fl i_R1 t_s469 (by decide +kernel)
        have G1_s469 : G1 s469 := G1.fl i_G1 t_s469 (by decide +kernel)
        have G3_s469 : G3 s469 := G3.fl i_G3 t_s469 (by decide +kernel)
        show xe (some (N, xs)) 231 1129 [(0, .ref 2000), (1, .ref 0), (2, .ref 256), (3, vi x3)] [vj z468] s469 295 10442 _
        refine x_A k231_1129 (fun _ => rfl) ?_
        refine x_A k231_1130 (fun _ => rfl) ?_
        refine x_A k231_1131 (fun _ => rfl) ?_
        refine x_A k231_1132 (fun _ => rfl) ?_
        refine x_A k231_1133 (fun _ => rfl) ?_
        refine x_iadd k231_1134 ?_
        refine x_top (fun z470 e_z470 => ?_)
        refine x_scr k231_1135 hN ⟨by omega, by omega⟩ (fun z471 g_z471 e_z471 => ?_)
        unfold in32 at g_z471
        have q_z471 : z471 = z465 := by rw [e_z471, e_z465, show z470 = z464 by omega]
        refine x_A k231_1136 (fun _ => rfl) ?_
        refine x_A k231_1137 (fun _ => rfl) ?_
        refine x_A k231_1138 (fun _ => rfl) ?_
        refine x_iadd k231_1139 ?_
        refine x_top (fun z472 e_z472 => ?_)
        refine x_scr k231_1140 hN ⟨by omega, by omega⟩ (fun z473 g_z473 e_z473 => ?_)
        unfold in32 at g_z473
        have q_z473 : z473 = z467 := by rw [e_z473, e_z467, show z472 = z466 by omega]
        refine x_callV k231_1141 (y := 214) (n := 2) (w0 := 0) (w1 := 2) (as := [vi z471, vi z473]) (rest := []) (by decide +kernel) (q := 256) (nq := 62) (kq := 15) ⟨by decide, rfl⟩ rfl rfl rfl rfl (xe_mono (C_X11_lacking_256 s469 hG_s469 J_s469 z471 (by first | exact x_rbe e_z471 g_z471 rfl rfl | exact x_rb g_z471 rfl rfl | exact ⟨by omega, by omega⟩) z473 (by first | exact x_rbe e_z473 g_z473 rfl rfl | exact x_rb g_z473 rfl rfl | exact ⟨by omega, by omega⟩)) ?_)
        rintro s475 v ⟨hG_s475, t_s475, z474, rfl, b_z474⟩
        have J_s475 : J s475 := J.fl J_s469 t_s475 (by decide +kernel)
        have TR_s475 : TR s475 := TR.fl TR_s469 (hG_s469 256 1).2 t_s475 (by decide)
        have X1_s475 : X1 s475 := X1.fl X1_s469 t_s475 (by decide +kernel)
        have R1_s475 : R1 s475 := R1.fl R1_s469 t_s475 (by decide +kernel)
        have G1_s475 : G1 s475 := G1.fl G1_s469 t_s475 (by decide +kernel)
        have G3_s475 : G3 s475 := G3.fl G3_s469 t_s475 (by decide +kernel)
        have VCj_s475 : VCj s475 := VCj.fl VCj_s469 hG_s469 t_s475 (by decide)
        show xe (some (N, xs)) 231 1144 [(0, .ref 2000), (1, .ref 0), (2, .ref 256), (3, vi x3)] [vj z474] s475 295 10442 _
        refine x_A k231_1144 (fun _ => rfl) ?_
        refine x_goto k231_1145 (t := 1300) rfl ?_
        refine x_iinc k231_1300 (ls' := [(3, vi (x3 + 7)), (0, .ref 2000), (1, .ref 0), (2, .ref 256)]) rfl (by decide) rfl ?_
        refine x_goto k231_1303 (t := 18) rfl ?_
        refine x_ls (l := [(0, .ref 2000), (1, .ref 0), (2, .ref 256), (3, vi (x3 + 7))]) (show ([0, 1, 2, 3] : List Nat).Nodup from by decide +kernel) ⟨rfl, rfl, rfl, rfl, trivial⟩ ?_
        exact ih s475 (x3 + 7) hG_s475 trivial ⟨by omega, by omega⟩ J_s475 TR_s475 X1_s475 R1_s475 G1_s475 G3_s475 VCj_s475  (by omega)
      · rw [c5]
        refine x_B k231_33 rfl (fun _ => rfl) (fun _ => rfl) (fun _ _ => rfl) ?_
        show xe (some (N, xs)) 231 1148 [(0, .ref 2000), (1, .ref 0), (2, .ref 256), (3, vi x3)] [] s 295 10442 _
        refine x_A k231_1148 (fun _ => rfl) ?_
        refine x_callV k231_1149 (y := 117) (n := 0) (w0 := 0) (w1 := 0) (as := []) (rest := []) (by decide +kernel) (q := 0) (nq := 12) (kq := 3) ⟨by decide, rfl⟩ rfl rfl rfl rfl (xe_mono (C_X10_story_0 s hG) ?_)
        rintro s477 v ⟨hG_s477, t_s477, z476, rfl, g_z476⟩
        have J_s477 : J s477 := J.fl i_J t_s477 (by decide +kernel)
        have TR_s477 : TR s477 := TR.fl i_TR (hG 256 1).2 t_s477 (by decide)
        have X1_s477 : X1 s477 := X1.fl i_X1 t_s477 (by decide +kernel)
        have R1_s477 : R1 s477 := R1.fl i_R1 t_s477 (by decide +kernel)
        have G1_s477 : G1 s477 := G1.fl i_G1 t_s477 (by decide +kernel)
        have G3_s477 : G3 s477 := G3.fl i_G3 t_s477 (by decide +kernel)
        have VCj_s477 : VCj s477 := VCj.fl i_VCj hG t_s477 (by decide)
        show xe (some (N, xs)) 231 1152 [(0, .ref 2000), (1, .ref 0), (2, .ref 256), (3, vi x3)] [vi z476] s477 295 10442 _
        refine x_A k231_1152 (fun _ => rfl) ?_
        refine x_A k231_1153 (fun _ => rfl) ?_
        refine x_callV k231_1154 (y := 215) (n := 0) (w0 := 0) (w1 := 0) (as := []) (rest := []) (by decide +kernel) (q := 256) (nq := 62) (kq := 15) ⟨by decide, rfl⟩ rfl rfl rfl rfl (xe_mono (C_X11_story_256 s477 hG_s477) ?_)
        rintro s479 v ⟨hG_s479, t_s479, z478, rfl, g_z478⟩
        have J_s479 : J s479 := J.fl J_s477 t_s479 (by decide +kernel)
        have TR_s479 : TR s479 := TR.fl TR_s477 (hG_s477 256 1).2 t_s479 (by decide)
        have X1_s479 : X1 s479 := X1.fl X1_s477 t_s479 (by decide +kernel)
        have R1_s479 : R1 s479 := R1.fl R1_s477 t_s479 (by decide +kernel)
        have G1_s479 : G1 s479 := G1.fl G1_s477 t_s479 (by decide +kernel)
        have G3_s479 : G3 s479 := G3.fl G3_s477 t_s479 (by decide +kernel)
        have VCj_s479 : VCj s479 := VCj.fl VCj_s477 hG_s477 t_s479 (by decide)
        show xe (some (N, xs)) 231 1157 [(0, .ref 2000), (1, .ref 0), (2, .ref 256), (3, vi x3)] [vi z478] s479 295 10442 _
        refine x_A k231_1157 (fun _ => rfl) ?_
        refine x_goto k231_1158 (t := 1300) rfl ?_
        refine x_iinc k231_1300 (ls' := [(3, vi (x3 + 7)), (0, .ref 2000), (1, .ref 0), (2, .ref 256)]) rfl (by decide) rfl ?_
        refine x_goto k231_1303 (t := 18) rfl ?_
        refine x_ls (l := [(0, .ref 2000), (1, .ref 0), (2, .ref 256), (3, vi (x3 + 7))]) (show ([0, 1, 2, 3] : List Nat).Nodup from by decide +kernel) ⟨rfl, rfl, rfl, rfl, trivial⟩ ?_
        exact ih s479 (x3 + 7) hG_s479 trivial ⟨by omega, by omega⟩ J_s479 TR_s479 X1_s479 R1_s479 G1_s479 G3_s479 VCj_s479  (by omega)
      · rw [c5]
        refine x_B k231_33 rfl (fun _ => rfl) (fun _ => rfl) (fun _ _ => rfl) ?_
        show xe (some (N, xs)) 231 1161 [(0, .ref 2000), (1, .ref 0), (2, .ref 256), (3, vi x3)] [] s 295 10442 _
        refine x_A k231_1161 (fun _ => rfl) ?_
        refine x_A k231_1162 (fun _ => rfl) ?_
        refine x_A k231_1163 (fun _ => rfl) ?_
        refine x_A k231_1164 (fun _ => rfl) ?_
        refine x_iadd k231_1165 ?_
        refine x_top (fun z480 e_z480 => ?_)
        refine x_scr k231_1166 hN ⟨by omega, by omega⟩ (fun z481 g_z481 e_z481 => ?_)
        unfold in32 at g_z481
        refine x_A k231_1167 (fun _ => rfl) ?_
        refine x_A k231_1168 (fun _ => rfl) ?_
        refine x_A k231_1169 (fun _ => rfl) ?_
        refine x_iadd k231_1170 ?_
        refine x_top (fun z482 e_z482 => ?_)
        refine x_scr k231_1171 hN ⟨by omega, by omega⟩ (fun z483 g_z483 e_z483 => ?_)
        unfold in32 at g_z483
        refine x_A k231_1172 (fun _ => rfl) ?_
        refine x_A k231_1173 (fun _ => rfl) ?_
        refine x_A k231_1174 (fun _ => rfl) ?_
        refine x_iadd k231_1175 ?_
        refine x_top (fun z484 e_z484 => ?_)
        refine x_scr k231_1176 hN ⟨by omega, by omega⟩ (fun z485 g_z485 e_z485 => ?_)
        unfold in32 at g_z485
        refine x_callV k231_1177 (y := 118) (n := 3) (w0 := 0) (w1 := 3) (as := [vi z481, vi z483, vi z485]) (rest := []) (by decide +kernel) (q := 0) (nq := 12) (kq := 3) ⟨by decide, rfl⟩ rfl rfl rfl rfl (xe_mono (C_X10_moment_0 s hG z481 (by first | exact x_rbe e_z481 g_z481 rfl rfl | exact x_rb g_z481 rfl rfl | exact ⟨by omega, by omega⟩) z483 (by first | exact x_rbe e_z483 g_z483 rfl rfl | exact x_rb g_z483 rfl rfl | exact ⟨by omega, by omega⟩) z485 (by first | exact x_rbe e_z485 g_z485 rfl rfl | exact x_rb g_z485 rfl rfl | exact ⟨by omega, by omega⟩)) ?_)
        rintro s487 v ⟨hG_s487, t_s487, z486, rfl, g_z486⟩
        have J_s487 : J s487 := J.fl i_J t_s487 (by decide +kernel)
        have TR_s487 : TR s487 := TR.fl i_TR (hG 256 1).2 t_s487 (by decide)
        have X1_s487 : X1 s487 := X1.fl i_X1 t_s487 (by decide +kernel)
        have R1_s487 : R1 s487 := R1.fl i_R1 t_s487 (by decide +kernel)
        have G1_s487 : G1 s487 := G1.fl i_G1 t_s487 (by decide +kernel)
        have G3_s487 : G3 s487 := G3.fl i_G3 t_s487 (by decide +kernel)
        have VCj_s487 : VCj s487 := VCj.fl i_VCj hG t_s487 (by decide)
        show xe (some (N, xs)) 231 1180 [(0, .ref 2000), (1, .ref 0), (2, .ref 256), (3, vi x3)] [vi z486] s487 295 10442 _
        refine x_A k231_1180 (fun _ => rfl) ?_
        refine x_A k231_1181 (fun _ => rfl) ?_
        refine x_A k231_1182 (fun _ => rfl) ?_
        refine x_A k231_1183 (fun _ => rfl) ?_
        refine x_A k231_1184 (fun _ => rfl) ?_
        refine x_iadd k231_1185 ?_
        refine x_top (fun z488 e_z488 => ?_)
        refine x_scr k231_1186 hN ⟨by omega, by omega⟩ (fun z489 g_z489 e_z489 => ?_)
        unfold in32 at g_z489
        have q_z489 : z489 = z481 := by rw [e_z489, e_z481, show z488 = z480 by omega]
        refine x_A k231_1187 (fun _ => rfl) ?_
        refine x_A k231_1188 (fun _ => rfl) ?_
        refine x_A k231_1189 (fun _ => rfl) ?_
        refine x_iadd k231_1190 ?_
        refine x_top (fun z490 e_z490 => ?_)
        refine x_scr k231_1191 hN ⟨by omega, by omega⟩ (fun z491 g_z491 e_z491 => ?_)
        unfold in32 at g_z491
        have q_z491 : z491 = z483 := by rw [e_z491, e_z483, show z490 = z482 by omega]
        refine x_A k231_1192 (fun _ => rfl) ?_
        refine x_A k231_1193 (fun _ => rfl) ?_
        refine x_A k231_1194 (fun _ => rfl) ?_
        refine x_iadd k231_1195 ?_
        refine x_top (fun z492 e_z492 => ?_)
        refine x_scr k231_1196 hN ⟨by omega, by omega⟩ (fun z493 g_z493 e_z493 => ?_)
        unfold in32 at g_z493
        have q_z493 : z493 = z485 := by rw [e_z493, e_z485, show z492 = z484 by omega]
        refine x_callV k231_1197 (y := 216) (n := 3) (w0 := 0) (w1 := 3) (as := [vi z489, vi z491, vi z493]) (rest := []) (by decide +kernel) (q := 256) (nq := 62) (kq := 15) ⟨by decide, rfl⟩ rfl rfl rfl rfl (xe_mono (C_X11_moment_256 s487 hG_s487 z489 (by first | exact x_rbe e_z489 g_z489 rfl rfl | exact x_rb g_z489 rfl rfl | exact ⟨by omega, by omega⟩) z491 (by first | exact x_rbe e_z491 g_z491 rfl rfl | exact x_rb g_z491 rfl rfl | exact ⟨by omega, by omega⟩) z493 (by first | exact x_rbe e_z493 g_z493 rfl rfl | exact x_rb g_z493 rfl rfl | exact ⟨by omega, by omega⟩)) ?_)
        rintro s495 v ⟨hG_s495, t_s495, z494, rfl, g_z494⟩
        have J_s495 : J s495 := J.fl J_s487 t_s495 (by decide +kernel)
        have TR_s495 : TR s495 := TR.fl TR_s487 (hG_s487 256 1).2 t_s495 (by decide)
        have X1_s495 : X1 s495 := X1.fl X1_s487 t_s495 (by decide +kernel)
        have R1_s495 : R1 s495 := R1.fl R1_s487 t_s495 (by decide +kernel)
        have G1_s495 : G1 s495 := G1.fl G1_s487 t_s495 (by decide +kernel)
        have G3_s495 : G3 s495 := G3.fl G3_s487 t_s495 (by decide +kernel)
        have VCj_s495 : VCj s495 := VCj.fl VCj_s487 hG_s487 t_s495 (by decide)
        show xe (some (N, xs)) 231 1200 [(0, .ref 2000), (1, .ref 0), (2, .ref 256), (3, vi x3)] [vi z494] s495 295 10442 _
        refine x_A k231_1200 (fun _ => rfl) ?_
        refine x_goto k231_1201 (t := 1300) rfl ?_
        refine x_iinc k231_1300 (ls' := [(3, vi (x3 + 7)), (0, .ref 2000), (1, .ref 0), (2, .ref 256)]) rfl (by decide) rfl ?_
        refine x_goto k231_1303 (t := 18) rfl ?_
        refine x_ls (l := [(0, .ref 2000), (1, .ref 0), (2, .ref 256), (3, vi (x3 + 7))]) (show ([0, 1, 2, 3] : List Nat).Nodup from by decide +kernel) ⟨rfl, rfl, rfl, rfl, trivial⟩ ?_
        exact ih s495 (x3 + 7) hG_s495 trivial ⟨by omega, by omega⟩ J_s495 TR_s495 X1_s495 R1_s495 G1_s495 G3_s495 VCj_s495  (by omega)
      · rw [c5]
        refine x_B k231_33 rfl (fun _ => rfl) (fun _ => rfl) (fun _ _ => rfl) ?_
        show xe (some (N, xs)) 231 1204 [(0, .ref 2000), (1, .ref 0), (2, .ref 256), (3, vi x3)] [] s 295 10442 _
        refine x_A k231_1204 (fun _ => rfl) ?_
        refine x_A k231_1205 (fun _ => rfl) ?_
        refine x_A k231_1206 (fun _ => rfl) ?_
        refine x_A k231_1207 (fun _ => rfl) ?_
        refine x_iadd k231_1208 ?_
        refine x_top (fun z496 e_z496 => ?_)
        refine x_scr k231_1209 hN ⟨by omega, by omega⟩ (fun z497 g_z497 e_z497 => ?_)
        unfold in32 at g_z497
        refine x_A k231_1210 (fun _ => rfl) ?_
        refine x_A k231_1211 (fun _ => rfl) ?_
        refine x_A k231_1212 (fun _ => rfl) ?_
        refine x_iadd k231_1213 ?_
        refine x_top (fun z498 e_z498 => ?_)
        refine x_scr k231_1214 hN ⟨by omega, by omega⟩ (fun z499 g_z499 e_z499 => ?_)
        unfold in32 at g_z499
        refine x_A k231_1215 (fun _ => rfl) ?_
        refine x_A k231_1216 (fun _ => rfl) ?_
        refine x_A k231_1217 (fun _ => rfl) ?_
        refine x_iadd k231_1218 ?_
        refine x_top (fun z500 e_z500 => ?_)
        refine x_scr k231_1219 hN ⟨by omega, by omega⟩ (fun z501 g_z501 e_z501 => ?_)
        unfold in32 at g_z501
        refine x_A k231_1220 (fun _ => rfl) ?_
        refine x_A k231_1221 (fun _ => rfl) ?_
        refine x_A k231_1222 (fun _ => rfl) ?_
        refine x_iadd k231_1223 ?_
        refine x_top (fun z502 e_z502 => ?_)
        refine x_scr k231_1224 hN ⟨by omega, by omega⟩ (fun z503 g_z503 e_z503 => ?_)
        unfold in32 at g_z503
        refine x_callV k231_1225 (y := 119) (n := 4) (w0 := 0) (w1 := 4) (as := [vi z497, vi z499, vi z501, vi z503]) (rest := []) (by decide +kernel) (q := 0) (nq := 12) (kq := 3) ⟨by decide, rfl⟩ rfl rfl rfl rfl (xe_mono (V_X10_of_0 s hG i_J z497 (by first | exact x_rbe e_z497 g_z497 rfl rfl | exact x_rb g_z497 rfl rfl | exact ⟨by omega, by omega⟩) z499 (by first | exact x_rbe e_z499 g_z499 rfl rfl | exact x_rb g_z499 rfl rfl | exact ⟨by omega, by omega⟩) z501 (by first | exact x_rbe e_z501 g_z501 rfl rfl | exact x_rb g_z501 rfl rfl | exact ⟨by omega, by omega⟩) z503 (by first | exact x_rbe e_z503 g_z503 rfl rfl | exact x_rb g_z503 rfl rfl | exact ⟨by omega, by omega⟩) i_R1 i_VCj) ?_)
        rintro s505 v ⟨hG_s505, t_s505, z504, rfl, g_z504, VCj_s505⟩
        have J_s505 : J s505 := J.fl i_J t_s505 (by decide +kernel)
        have TR_s505 : TR s505 := TR.fl i_TR (hG 256 1).2 t_s505 (by decide)
        have X1_s505 : X1 s505 := X1.fl i_X1 t_s505 (by decide +kernel)
        have R1_s505 : R1 s505 := R1.fl i_R1 t_s505 (by decide +kernel)
        have G1_s505 : G1 s505 := G1.fl i_G1 t_s505 (by decide +kernel)
        have G3_s505 : G3 s505 := G3.fl i_G3 t_s505 (by decide +kernel)
        show xe (some (N, xs)) 231 1228 [(0, .ref 2000), (1, .ref 0), (2, .ref 256), (3, vi x3)] [vi z504] s505 295 10442 _
        refine x_A k231_1228 (fun _ => rfl) ?_
        refine x_A k231_1229 (fun _ => rfl) ?_
        refine x_A k231_1230 (fun _ => rfl) ?_
        refine x_A k231_1231 (fun _ => rfl) ?_
        refine x_A k231_1232 (fun _ => rfl) ?_
        refine x_iadd k231_1233 ?_
        refine x_top (fun z506 e_z506 => ?_)
        refine x_scr k231_1234 hN ⟨by omega, by omega⟩ (fun z507 g_z507 e_z507 => ?_)
        unfold in32 at g_z507
        have q_z507 : z507 = z497 := by rw [e_z507, e_z497, show z506 = z496 by omega]
        refine x_A k231_1235 (fun _ => rfl) ?_
        refine x_A k231_1236 (fun _ => rfl) ?_
        refine x_A k231_1237 (fun _ => rfl) ?_
        refine x_iadd k231_1238 ?_
        refine x_top (fun z508 e_z508 => ?_)
        refine x_scr k231_1239 hN ⟨by omega, by omega⟩ (fun z509 g_z509 e_z509 => ?_)
        unfold in32 at g_z509
        have q_z509 : z509 = z499 := by rw [e_z509, e_z499, show z508 = z498 by omega]
        refine x_A k231_1240 (fun _ => rfl) ?_
        refine x_A k231_1241 (fun _ => rfl) ?_
        refine x_A k231_1242 (fun _ => rfl) ?_
        refine x_iadd k231_1243 ?_
        refine x_top (fun z510 e_z510 => ?_)
        refine x_scr k231_1244 hN ⟨by omega, by omega⟩ (fun z511 g_z511 e_z511 => ?_)
        unfold in32 at g_z511
        have q_z511 : z511 = z501 := by rw [e_z511, e_z501, show z510 = z500 by omega]
        refine x_A k231_1245 (fun _ => rfl) ?_
        refine x_A k231_1246 (fun _ => rfl) ?_
        refine x_A k231_1247 (fun _ => rfl) ?_
        refine x_iadd k231_1248 ?_
        refine x_top (fun z512 e_z512 => ?_)
        refine x_scr k231_1249 hN ⟨by omega, by omega⟩ (fun z513 g_z513 e_z513 => ?_)
        unfold in32 at g_z513
        have q_z513 : z513 = z503 := by rw [e_z513, e_z503, show z512 = z502 by omega]
        refine x_callV k231_1250 (y := 217) (n := 4) (w0 := 0) (w1 := 4) (as := [vi z507, vi z509, vi z511, vi z513]) (rest := []) (by decide +kernel) (q := 256) (nq := 62) (kq := 15) ⟨by decide, rfl⟩ rfl rfl rfl rfl (xe_mono (C_X11_of_256 s505 hG_s505 J_s505 z507 (by first | exact x_rbe e_z507 g_z507 rfl rfl | exact x_rb g_z507 rfl rfl | exact ⟨by omega, by omega⟩) z509 (by first | exact x_rbe e_z509 g_z509 rfl rfl | exact x_rb g_z509 rfl rfl | exact ⟨by omega, by omega⟩) z511 (by first | exact x_rbe e_z511 g_z511 rfl rfl | exact x_rb g_z511 rfl rfl | exact ⟨by omega, by omega⟩) z513 (by first | exact x_rbe e_z513 g_z513 rfl rfl | exact x_rb g_z513 rfl rfl | exact ⟨by omega, by omega⟩)) ?_)
        rintro s515 v ⟨hG_s515, t_s515, z514, rfl, g_z514⟩
        have J_s515 : J s515 := J.fl J_s505 t_s515 (by decide +kernel)
        have TR_s515 : TR s515 := TR.fl TR_s505 (hG_s505 256 1).2 t_s515 (by decide)
        have X1_s515 : X1 s515 := X1.fl X1_s505 t_s515 (by decide +kernel)
        have R1_s515 : R1 s515 := R1.fl R1_s505 t_s515 (by decide +kernel)
        have G1_s515 : G1 s515 := G1.fl G1_s505 t_s515 (by decide +kernel)
        have G3_s515 : G3 s515 := G3.fl G3_s505 t_s515 (by decide +kernel)
        have VCj_s515 : VCj s515 := VCj.fl VCj_s505 hG_s505 t_s515 (by decide)
        show xe (some (N, xs)) 231 1253 [(0, .ref 2000), (1, .ref 0), (2, .ref 256), (3, vi x3)] [vi z514] s515 295 10442 _
        refine x_A k231_1253 (fun _ => rfl) ?_
        refine x_goto k231_1254 (t := 1300) rfl ?_
        refine x_iinc k231_1300 (ls' := [(3, vi (x3 + 7)), (0, .ref 2000), (1, .ref 0), (2, .ref 256)]) rfl (by decide) rfl ?_
        refine x_goto k231_1303 (t := 18) rfl ?_
        refine x_ls (l := [(0, .ref 2000), (1, .ref 0), (2, .ref 256), (3, vi (x3 + 7))]) (show ([0, 1, 2, 3] : List Nat).Nodup from by decide +kernel) ⟨rfl, rfl, rfl, rfl, trivial⟩ ?_
        exact ih s515 (x3 + 7) hG_s515 trivial ⟨by omega, by omega⟩ J_s515 TR_s515 X1_s515 R1_s515 G1_s515 G3_s515 VCj_s515  (by omega)
      · rw [c5]
        refine x_B k231_33 rfl (fun _ => rfl) (fun _ => rfl) (fun _ _ => rfl) ?_
        show xe (some (N, xs)) 231 1257 [(0, .ref 2000), (1, .ref 0), (2, .ref 256), (3, vi x3)] [] s 295 10442 _
        refine x_A k231_1257 (fun _ => rfl) ?_
        refine x_A k231_1258 (fun _ => rfl) ?_
        refine x_A k231_1259 (fun _ => rfl) ?_
        refine x_A k231_1260 (fun _ => rfl) ?_
        refine x_iadd k231_1261 ?_
        refine x_top (fun z516 e_z516 => ?_)
        refine x_scr k231_1262 hN ⟨by omega, by omega⟩ (fun z517 g_z517 e_z517 => ?_)
        unfold in32 at g_z517
        refine x_A k231_1263 (fun _ => rfl) ?_
        refine x_A k231_1264 (fun _ => rfl) ?_
        refine x_A k231_1265 (fun _ => rfl) ?_
        refine x_iadd k231_1266 ?_
        refine x_top (fun z518 e_z518 => ?_)
        refine x_scr k231_1267 hN ⟨by omega, by omega⟩ (fun z519 g_z519 e_z519 => ?_)
        unfold in32 at g_z519
        refine x_A k231_1268 (fun _ => rfl) ?_
        refine x_A k231_1269 (fun _ => rfl) ?_
        refine x_A k231_1270 (fun _ => rfl) ?_
        refine x_iadd k231_1271 ?_
        refine x_top (fun z520 e_z520 => ?_)
        refine x_scr k231_1272 hN ⟨by omega, by omega⟩ (fun z521 g_z521 e_z521 => ?_)
        unfold in32 at g_z521
        refine x_callV k231_1273 (y := 120) (n := 3) (w0 := 0) (w1 := 3) (as := [vi z517, vi z519, vi z521]) (rest := []) (by decide +kernel) (q := 0) (nq := 12) (kq := 3) ⟨by decide, rfl⟩ rfl rfl rfl rfl (xe_mono (V_X10_split_0 s hG i_J z517 (by first | exact x_rbe e_z517 g_z517 rfl rfl | exact x_rb g_z517 rfl rfl | exact ⟨by omega, by omega⟩) z519 (by first | exact x_rbe e_z519 g_z519 rfl rfl | exact x_rb g_z519 rfl rfl | exact ⟨by omega, by omega⟩) z521 (by first | exact x_rbe e_z521 g_z521 rfl rfl | exact x_rb g_z521 rfl rfl | exact ⟨by omega, by omega⟩) i_R1 i_VCj) ?_)
        rintro s523 v ⟨hG_s523, t_s523, z522, rfl, g_z522, VCj_s523⟩
        have J_s523 : J s523 := J.fl i_J t_s523 (by decide +kernel)
        have TR_s523 : TR s523 := TR.fl i_TR (hG 256 1).2 t_s523 (by decide)
        have X1_s523 : X1 s523 := X1.fl i_X1 t_s523 (by decide +kernel)
        have R1_s523 : R1 s523 := R1.fl i_R1 t_s523 (by decide +kernel)
        have G1_s523 : G1 s523 := G1.fl i_G1 t_s523 (by decide +kernel)
        have G3_s523 : G3 s523 := G3.fl i_G3 t_s523 (by decide +kernel)
        show xe (some (N, xs)) 231 1276 [(0, .ref 2000), (1, .ref 0), (2, .ref 256), (3, vi x3)] [vi z522] s523 295 10442 _
        refine x_A k231_1276 (fun _ => rfl) ?_
        refine x_A k231_1277 (fun _ => rfl) ?_
        refine x_A k231_1278 (fun _ => rfl) ?_
        refine x_A k231_1279 (fun _ => rfl) ?_
        refine x_A k231_1280 (fun _ => rfl) ?_
        refine x_iadd k231_1281 ?_
        refine x_top (fun z524 e_z524 => ?_)
        refine x_scr k231_1282 hN ⟨by omega, by omega⟩ (fun z525 g_z525 e_z525 => ?_)
        unfold in32 at g_z525
        have q_z525 : z525 = z517 := by rw [e_z525, e_z517, show z524 = z516 by omega]
        refine x_A k231_1283 (fun _ => rfl) ?_
        refine x_A k231_1284 (fun _ => rfl) ?_
        refine x_A k231_1285 (fun _ => rfl) ?_
        refine x_iadd k231_1286 ?_
        refine x_top (fun z526 e_z526 => ?_)
        refine x_scr k231_1287 hN ⟨by omega, by omega⟩ (fun z527 g_z527 e_z527 => ?_)
        unfold in32 at g_z527
        have q_z527 : z527 = z519 := by rw [e_z527, e_z519, show z526 = z518 by omega]
        refine x_A k231_1288 (fun _ => rfl) ?_
        refine x_A k231_1289 (fun _ => rfl) ?_
        refine x_A k231_1290 (fun _ => rfl) ?_
        refine x_iadd k231_1291 ?_
        refine x_top (fun z528 e_z528 => ?_)
        refine x_scr k231_1292 hN ⟨by omega, by omega⟩ (fun z529 g_z529 e_z529 => ?_)
        unfold in32 at g_z529
        have q_z529 : z529 = z521 := by rw [e_z529, e_z521, show z528 = z520 by omega]
        refine x_callV k231_1293 (y := 218) (n := 3) (w0 := 0) (w1 := 3) (as := [vi z525, vi z527, vi z529]) (rest := []) (by decide +kernel) (q := 256) (nq := 62) (kq := 15) ⟨by decide, rfl⟩ rfl rfl rfl rfl (xe_mono (C_X11_split_256 s523 hG_s523 J_s523 z525 (by first | exact x_rbe e_z525 g_z525 rfl rfl | exact x_rb g_z525 rfl rfl | exact ⟨by omega, by omega⟩) z527 (by first | exact x_rbe e_z527 g_z527 rfl rfl | exact x_rb g_z527 rfl rfl | exact ⟨by omega, by omega⟩) z529 (by first | exact x_rbe e_z529 g_z529 rfl rfl | exact x_rb g_z529 rfl rfl | exact ⟨by omega, by omega⟩)) ?_)
        rintro s531 v ⟨hG_s531, t_s531, z530, rfl, g_z530⟩
        have J_s531 : J s531 := J.fl J_s523 t_s531 (by decide +kernel)
        have TR_s531 : TR s531 := TR.fl TR_s523 (hG_s523 256 1).2 t_s531 (by decide)
        have X1_s531 : X1 s531 := X1.fl X1_s523 t_s531 (by decide +kernel)
        have R1_s531 : R1 s531 := R1.fl R1_s523 t_s531 (by decide +kernel)
        have G1_s531 : G1 s531 := G1.fl G1_s523 t_s531 (by decide +kernel)
        have G3_s531 : G3 s531 := G3.fl G3_s523 t_s531 (by decide +kernel)
        have VCj_s531 : VCj s531 := VCj.fl VCj_s523 hG_s523 t_s531 (by decide)
        show xe (some (N, xs)) 231 1296 [(0, .ref 2000), (1, .ref 0), (2, .ref 256), (3, vi x3)] [vi z530] s531 295 10442 _
        refine x_A k231_1296 (fun _ => rfl) ?_
        refine x_goto k231_1297 (t := 1300) rfl ?_
        refine x_iinc k231_1300 (ls' := [(3, vi (x3 + 7)), (0, .ref 2000), (1, .ref 0), (2, .ref 256)]) rfl (by decide) rfl ?_
        refine x_goto k231_1303 (t := 18) rfl ?_
        refine x_ls (l := [(0, .ref 2000), (1, .ref 0), (2, .ref 256), (3, vi (x3 + 7))]) (show ([0, 1, 2, 3] : List Nat).Nodup from by decide +kernel) ⟨rfl, rfl, rfl, rfl, trivial⟩ ?_
        exact ih s531 (x3 + 7) hG_s531 trivial ⟨by omega, by omega⟩ J_s531 TR_s531 X1_s531 R1_s531 G1_s531 G3_s531 VCj_s531  (by omega)
      · refine x_tabD k231_33 ⟨by omega, by omega⟩ c5 (t0 := 1300) rfl ?_
        refine x_iinc k231_1300 (ls' := [(3, vi (x3 + 7)), (0, .ref 2000), (1, .ref 0), (2, .ref 256)]) rfl (by decide) rfl ?_
        refine x_goto k231_1303 (t := 18) rfl ?_
        refine x_ls (l := [(0, .ref 2000), (1, .ref 0), (2, .ref 256), (3, vi (x3 + 7))]) (show ([0, 1, 2, 3] : List Nat).Nodup from by decide +kernel) ⟨rfl, rfl, rfl, rfl, trivial⟩ ?_
        exact ih s (x3 + 7) hG f ⟨by omega, by omega⟩ i_J i_TR i_X1 i_R1 i_G1 i_G3 i_VCj  (by omega)
