set_option maxHeartbeats 8000000 in
theorem law_loop (N : Nat) (xs : Nat → Int32) (hN : N ≤ 3584)  : ∀ (n : Nat) (s : xS) (x3 : Int) (hG : GI s) (f : True) (b_x3 : 0 ≤ x3 ∧ x3 ≤ 3584) (i_J : J s) (i_TR : TR s) (i_X1 : X1 s) (i_R1 : R1 s) (i_G1 : G1 s) (i_G3 : G3 s) (i_VCj : VCj s) (i_VCl : VCl s)  (hm : (3584 - x3) < (n : Int)), xe (some (N, xs)) 231 18 [(0, .ref 2000), (1, .ref 0), (2, .ref 256), (3, vi x3)] [] s 295 10442 (fun _ v => v = some (vi 1)) := by
  intro n
  induction n with
  | zero => intro s x3 hG f b_x3 i_J i_TR i_X1 i_R1 i_G1 i_G3 i_VCj i_VCl  hm; exfalso; omega
  | succ n ih =>
    intro s x3 hG f b_x3 i_J i_TR i_X1 i_R1 i_G1 i_G3 i_VCj i_VCl  hm
    refine x_A k231_18 (fun _ => rfl) ?_
    refine x_A k231_19 (fun _ => rfl) ?_
    refine x_slen k231_20 ?_
    refine x_bipush k231_21 (by decide +kernel) ?_
    refine x_isub k231_23 ?_
    refine x_top (fun z1 e_z1 => ?_)
    refine x_ic_gt k231_24 (t := 1306) rfl (by first | exact x_rb b_x3 rfl rfl | exact ⟨by omega, by omega⟩) (by first | exact x_rbe e_z1 g_z1 rfl rfl | exact x_rb g_z1 rfl rfl | exact ⟨by omega, by omega⟩) (fun c2 => ?_) (fun c2 => ?_)
    · skip
      refine x_A k231_1306 (fun _ => rfl) ?_
      exact x_zret k231_1307 rfl ⟨by omega, by omega⟩ rfl
    · skip
      refine x_A k231_27 (fun _ => rfl) ?_
      refine x_A k231_28 (fun _ => rfl) ?_
      refine x_scr k231_29 hN ⟨by omega, by omega⟩ (fun z3 g_z3 e_z3 => ?_)
      unfold in32 at g_z3
      refine x_bipush k231_30 (by decide +kernel) ?_
      refine x_and_mask k231_32 ⟨by omega, by omega⟩ (fun z4 g_z4 => ?_)
      have c5 : z4 = 0 ∨ z4 = 1 ∨ z4 = 2 ∨ z4 = 3 ∨ z4 = 4 ∨ z4 = 5 ∨ z4 = 6 ∨ z4 = 7 ∨ z4 = 8 ∨ z4 = 9 ∨ z4 = 10 ∨ z4 = 11 ∨ z4 = 12 ∨ z4 = 13 ∨ z4 = 14 ∨ z4 = 15 ∨ z4 = 16 ∨ z4 = 17 ∨ z4 = 18 ∨ z4 = 19 ∨ z4 = 20 ∨ z4 = 21 ∨ z4 = 22 ∨ z4 = 23 ∨ z4 = 24 ∨ z4 = 25 ∨ z4 = 26 ∨ z4 = 27 ∨ z4 = 28 ∨ z4 = 29 ∨ ¬ (0 ≤ z4 ∧ z4 ≤ 29) := by omega
      rcases c5 with c5 | c5 | c5 | c5 | c5 | c5 | c5 | c5 | c5 | c5 | c5 | c5 | c5 | c5 | c5 | c5 | c5 | c5 | c5 | c5 | c5 | c5 | c5 | c5 | c5 | c5 | c5 | c5 | c5 | c5 | c5
      · rw [c5]
        refine x_B k231_33 rfl (fun _ => rfl) (fun _ => rfl) (fun _ _ => rfl) ?_
        show xe (some (N, xs)) 231 168 [(0, .ref 2000), (1, .ref 0), (2, .ref 256), (3, vi x3)] [] s 295 10442 _
        refine x_A k231_168 (fun _ => rfl) ?_
        refine x_callV k231_169 (y := 91) (n := 0) (w0 := 0) (w1 := 0) (as := []) (rest := []) (by decide +kernel) (q := 0) (nq := 12) (kq := 3) ⟨by decide, rfl⟩ rfl rfl rfl rfl (xe_mono (C_X10_edition_0 s hG) ?_)
        rintro s7 v ⟨hG_s7, t_s7, z6, rfl, g_z6, xp_z6⟩
        have J_s7 : J s7 := J.fl i_J t_s7 (by decide +kernel)
        have X1_s7 : X1 s7 := X1.fl i_X1 t_s7 (by decide +kernel)
        have R1_s7 : R1 s7 := R1.fl i_R1 t_s7 (by decide +kernel)
        have G1_s7 : G1 s7 := G1.fl i_G1 t_s7 (by decide +kernel)
        have VCj_s7 : VCj s7 := VCj.fl i_VCj hG t_s7 (by decide)
        have VCl_s7 : VCl s7 := VCl.fl i_VCl hG t_s7 (by decide)
        obtain ⟨z8, e_z8⟩ : ∃ z, z = s7 0 10 := ⟨_, rfl⟩
        have g_z8 : (0 : Int) ≤ s7 0 10 ∧ s7 0 10 ≤ 9 := hG_s7 0 10
        show xe (some (N, xs)) 231 172 [(0, .ref 2000), (1, .ref 0), (2, .ref 256), (3, vi x3)] [vi z6] s7 295 10442 _
        refine x_A k231_172 (fun _ => rfl) ?_
        refine x_A k231_173 (fun _ => rfl) ?_
        refine x_callV k231_174 (y := 145) (n := 0) (w0 := 0) (w1 := 0) (as := []) (rest := []) (by decide +kernel) (q := 256) (nq := 62) (kq := 15) ⟨by decide, rfl⟩ rfl rfl rfl rfl (xe_mono (D_X11_edition_256 s7 hG_s7 J_s7) ?_)
        rintro s10 v ⟨hG_s10, t_s10, z9, rfl, g_z9, xp_z9, J_s10⟩
        have q11 : s10 0 10 = z8 := (t_s10 0 10 (show 11 ∉ [4097] from by decide +kernel)).trans e_z8.symm
        have X1_s10 : X1 s10 := X1.fl X1_s7 t_s10 (by decide +kernel)
        have R1_s10 : R1 s10 := R1.fl R1_s7 t_s10 (by decide +kernel)
        have G1_s10 : G1 s10 := G1.fl G1_s7 t_s10 (by decide +kernel)
        have VCj_s10 : VCj s10 := VCj.fl VCj_s7 hG_s7 t_s10 (by decide)
        have VCl_s10 : VCl s10 := VCl.fl VCl_s7 hG_s7 t_s10 (by decide)
        obtain ⟨z12, e_z12⟩ : ∃ z, z = s10 256 0 := ⟨_, rfl⟩
        have g_z12 : (0 : Int) ≤ s10 256 0 ∧ s10 256 0 ≤ 9 := hG_s10 256 0
        show xe (some (N, xs)) 231 177 [(0, .ref 2000), (1, .ref 0), (2, .ref 256), (3, vi x3)] [vi z9] s10 295 10442 _
        obtain ⟨ez_s10, TR_s10⟩ := TR.ed i_TR hG t_s7 t_s10 (by decide) (by decide) xp_z6 xp_z9
        have G3_s10 := G3.ed i_G3 t_s7 t_s10 (by decide) (by decide) xp_z6
        refine x_A k231_177 (fun _ => rfl) ?_
        refine x_goto k231_178 (t := 1300) rfl ?_
        refine x_iinc k231_1300 (ls' := [(3, vi (x3 + 7)), (0, .ref 2000), (1, .ref 0), (2, .ref 256)]) rfl (by decide) rfl ?_
        refine x_goto k231_1303 (t := 18) rfl ?_
        refine x_ls (l := [(0, .ref 2000), (1, .ref 0), (2, .ref 256), (3, vi (x3 + 7))]) (show ([0, 1, 2, 3] : List Nat).Nodup from by decide +kernel) ⟨rfl, rfl, rfl, rfl, trivial⟩ ?_
        exact ih s10 (x3 + 7) hG_s10 trivial ⟨by omega, by omega⟩ J_s10 TR_s10 X1_s10 R1_s10 G1_s10 G3_s10 VCj_s10 VCl_s10  (by omega)
      · rw [c5]
        refine x_B k231_33 rfl (fun _ => rfl) (fun _ => rfl) (fun _ _ => rfl) ?_
        show xe (some (N, xs)) 231 181 [(0, .ref 2000), (1, .ref 0), (2, .ref 256), (3, vi x3)] [] s 295 10442 _
        refine x_A k231_181 (fun _ => rfl) ?_
        refine x_A k231_182 (fun _ => rfl) ?_
        refine x_A k231_183 (fun _ => rfl) ?_
        refine x_A k231_184 (fun _ => rfl) ?_
        refine x_iadd k231_185 ?_
        refine x_top (fun z13 e_z13 => ?_)
        refine x_scr k231_186 hN ⟨by omega, by omega⟩ (fun z14 g_z14 e_z14 => ?_)
        unfold in32 at g_z14
        obtain ⟨z15, e_z15⟩ : ∃ z, z = s 1 4 := ⟨_, rfl⟩
        have g_z15 : (1 : Int) ≤ s 1 4 ∧ s 1 4 ≤ 40 := hG 1 4
        obtain ⟨z16, e_z16⟩ : ∃ z, z = s 0 10 := ⟨_, rfl⟩
        have g_z16 : (0 : Int) ≤ s 0 10 ∧ s 0 10 ≤ 9 := hG 0 10
        refine x_callV k231_187 (y := 92) (n := 1) (w0 := 0) (w1 := 1) (as := [vi z14]) (rest := []) (by decide +kernel) (q := 0) (nq := 12) (kq := 3) ⟨by decide, rfl⟩ rfl rfl rfl rfl (xe_mono (V_X10_mark_0 s hG z14 (by first | exact x_rbe e_z14 g_z14 rfl rfl | exact x_rb g_z14 rfl rfl | exact ⟨by omega, by omega⟩) ⟨by omega, by omega⟩ ⟨by omega, by omega⟩ i_VCj i_VCl) ?_)
        rintro s18 v ⟨hG_s18, t_s18, z17, rfl, g_z17, xp_z17, VCj_s18, VCl_s18⟩
        have q19 : s18 0 10 = z16 := (t_s18 0 10 (show 11 ∉ [69, 128, 384, 3276, 3277] from by decide +kernel)).trans e_z16.symm
        have J_s18 : J s18 := J.fl i_J t_s18 (by decide +kernel)
        have X1_s18 : X1 s18 := X1.fl i_X1 t_s18 (by decide +kernel)
        have R1_s18 : R1 s18 := R1.fl i_R1 t_s18 (by decide +kernel)
        have G1_s18 : G1 s18 := G1.fl i_G1 t_s18 (by decide +kernel)
        obtain ⟨z20, e_z20⟩ : ∃ z, z = s18 1 4 := ⟨_, rfl⟩
        have g_z20 : (1 : Int) ≤ s18 1 4 ∧ s18 1 4 ≤ 40 := hG_s18 1 4
        show xe (some (N, xs)) 231 190 [(0, .ref 2000), (1, .ref 0), (2, .ref 256), (3, vi x3)] [vi z17] s18 295 10442 _
        refine x_A k231_190 (fun _ => rfl) ?_
        refine x_A k231_191 (fun _ => rfl) ?_
        refine x_A k231_192 (fun _ => rfl) ?_
        refine x_A k231_193 (fun _ => rfl) ?_
        refine x_A k231_194 (fun _ => rfl) ?_
        refine x_iadd k231_195 ?_
        refine x_top (fun z21 e_z21 => ?_)
        refine x_scr k231_196 hN ⟨by omega, by omega⟩ (fun z22 g_z22 e_z22 => ?_)
        unfold in32 at g_z22
        have q_z22 : z22 = z14 := by rw [e_z22, e_z14, show z21 = z13 by omega]
        obtain ⟨z23, e_z23⟩ : ∃ z, z = s18 256 1 := ⟨_, rfl⟩
        have g_z23 : (1 : Int) ≤ s18 256 1 ∧ s18 256 1 ≤ 40 := hG_s18 256 1
        obtain ⟨z24, e_z24⟩ : ∃ z, z = s18 256 0 := ⟨_, rfl⟩
        have g_z24 : (0 : Int) ≤ s18 256 0 ∧ s18 256 0 ≤ 9 := hG_s18 256 0
        refine x_callV k231_197 (y := 146) (n := 1) (w0 := 0) (w1 := 1) (as := [vi z22]) (rest := []) (by decide +kernel) (q := 256) (nq := 62) (kq := 15) ⟨by decide, rfl⟩ rfl rfl rfl rfl (xe_mono (V_X11_mark_256 s18 hG_s18 z22 (by first | exact x_rbe e_z22 g_z22 rfl rfl | exact x_rb g_z22 rfl rfl | exact ⟨by omega, by omega⟩) ⟨by omega, by omega⟩ ⟨by omega, by omega⟩ J_s18) ?_)
        rintro s26 v ⟨hG_s26, t_s26, z25, rfl, g_z25, xp_z25, J_s26⟩
        have q27 : s26 0 10 = z16 := (t_s26 0 10 (show 11 ∉ [4098, 4160, 4224, 4288, 4352] from by decide +kernel)).trans q19
        have q28 : s26 1 4 = z20 := (t_s26 1 4 (show 69 ∉ [4098, 4160, 4224, 4288, 4352] from by decide +kernel)).trans e_z20.symm
        have q29 : s26 256 0 = z24 := (t_s26 256 0 (show 4097 ∉ [4098, 4160, 4224, 4288, 4352] from by decide +kernel)).trans e_z24.symm
        have X1_s26 : X1 s26 := X1.fl X1_s18 t_s26 (by decide +kernel)
        have R1_s26 : R1 s26 := R1.fl R1_s18 t_s26 (by decide +kernel)
        have G1_s26 : G1 s26 := G1.fl G1_s18 t_s26 (by decide +kernel)
        have VCj_s26 : VCj s26 := VCj.fl VCj_s18 hG_s18 t_s26 (by decide)
        have VCl_s26 : VCl s26 := VCl.fl VCl_s18 hG_s18 t_s26 (by decide)
        obtain ⟨z30, e_z30⟩ : ∃ z, z = s26 256 1 := ⟨_, rfl⟩
        have g_z30 : (1 : Int) ≤ s26 256 1 ∧ s26 256 1 ≤ 40 := hG_s26 256 1
        show xe (some (N, xs)) 231 200 [(0, .ref 2000), (1, .ref 0), (2, .ref 256), (3, vi x3)] [vi z25] s26 295 10442 _
        obtain ⟨ez_s26, TR_s26⟩ := TR.mark i_TR hG t_s18 t_s26 (by decide) (by decide) xp_z17 (by rw [← q_z22]; exact xp_z25)
        have G3_s26 := G3.mark i_G3 hG t_s18 t_s26 (by decide) (by decide) xp_z17.1
        refine x_A k231_200 (fun _ => rfl) ?_
        refine x_goto k231_201 (t := 1300) rfl ?_
        refine x_iinc k231_1300 (ls' := [(3, vi (x3 + 7)), (0, .ref 2000), (1, .ref 0), (2, .ref 256)]) rfl (by decide) rfl ?_
        refine x_goto k231_1303 (t := 18) rfl ?_
        refine x_ls (l := [(0, .ref 2000), (1, .ref 0), (2, .ref 256), (3, vi (x3 + 7))]) (show ([0, 1, 2, 3] : List Nat).Nodup from by decide +kernel) ⟨rfl, rfl, rfl, rfl, trivial⟩ ?_
        exact ih s26 (x3 + 7) hG_s26 trivial ⟨by omega, by omega⟩ J_s26 TR_s26 X1_s26 R1_s26 G1_s26 G3_s26 VCj_s26 VCl_s26  (by omega)
      · rw [c5]
        refine x_B k231_33 rfl (fun _ => rfl) (fun _ => rfl) (fun _ _ => rfl) ?_
        show xe (some (N, xs)) 231 204 [(0, .ref 2000), (1, .ref 0), (2, .ref 256), (3, vi x3)] [] s 295 10442 _
        refine x_A k231_204 (fun _ => rfl) ?_
        refine x_A k231_205 (fun _ => rfl) ?_
        refine x_A k231_206 (fun _ => rfl) ?_
        refine x_A k231_207 (fun _ => rfl) ?_
        refine x_iadd k231_208 ?_
        refine x_top (fun z31 e_z31 => ?_)
        refine x_scr k231_209 hN ⟨by omega, by omega⟩ (fun z32 g_z32 e_z32 => ?_)
        unfold in32 at g_z32
        refine x_A k231_210 (fun _ => rfl) ?_
        refine x_A k231_211 (fun _ => rfl) ?_
        refine x_A k231_212 (fun _ => rfl) ?_
        refine x_iadd k231_213 ?_
        refine x_top (fun z33 e_z33 => ?_)
        refine x_scr k231_214 hN ⟨by omega, by omega⟩ (fun z34 g_z34 e_z34 => ?_)
        unfold in32 at g_z34
        obtain ⟨z35, e_z35⟩ : ∃ z, z = s 1 4 := ⟨_, rfl⟩
        have g_z35 : (1 : Int) ≤ s 1 4 ∧ s 1 4 ≤ 40 := hG 1 4
        obtain ⟨z36, e_z36⟩ : ∃ z, z = s 0 10 := ⟨_, rfl⟩
        have g_z36 : (0 : Int) ≤ s 0 10 ∧ s 0 10 ≤ 9 := hG 0 10
        refine x_callV k231_215 (y := 93) (n := 2) (w0 := 0) (w1 := 2) (as := [vi z32, vi z34]) (rest := []) (by decide +kernel) (q := 0) (nq := 12) (kq := 3) ⟨by decide, rfl⟩ rfl rfl rfl rfl (xe_mono (V_X10_move_0 s hG z32 (by first | exact x_rbe e_z32 g_z32 rfl rfl | exact x_rb g_z32 rfl rfl | exact ⟨by omega, by omega⟩) z34 (by first | exact x_rbe e_z34 g_z34 rfl rfl | exact x_rb g_z34 rfl rfl | exact ⟨by omega, by omega⟩) ⟨by omega, by omega⟩ ⟨by omega, by omega⟩ i_VCj i_VCl) ?_)
        rintro s38 v ⟨hG_s38, t_s38, z37, rfl, g_z37, xp_z37, VCj_s38, VCl_s38⟩
        have q39 : s38 1 4 = z35 := (t_s38 1 4 (show 69 ∉ [384, 3276, 3277] from by decide +kernel)).trans e_z35.symm
        have q40 : s38 0 10 = z36 := (t_s38 0 10 (show 11 ∉ [384, 3276, 3277] from by decide +kernel)).trans e_z36.symm
        have J_s38 : J s38 := J.fl i_J t_s38 (by decide +kernel)
        have X1_s38 : X1 s38 := X1.fl i_X1 t_s38 (by decide +kernel)
        have R1_s38 : R1 s38 := R1.fl i_R1 t_s38 (by decide +kernel)
        have G1_s38 : G1 s38 := G1.fl i_G1 t_s38 (by decide +kernel)
        have G3_s38 : G3 s38 := G3.fl i_G3 t_s38 (by decide +kernel)
        show xe (some (N, xs)) 231 218 [(0, .ref 2000), (1, .ref 0), (2, .ref 256), (3, vi x3)] [vi z37] s38 295 10442 _
        refine x_A k231_218 (fun _ => rfl) ?_
        refine x_A k231_219 (fun _ => rfl) ?_
        refine x_A k231_220 (fun _ => rfl) ?_
        refine x_A k231_221 (fun _ => rfl) ?_
        refine x_A k231_222 (fun _ => rfl) ?_
        refine x_iadd k231_223 ?_
        refine x_top (fun z41 e_z41 => ?_)
        refine x_scr k231_224 hN ⟨by omega, by omega⟩ (fun z42 g_z42 e_z42 => ?_)
        unfold in32 at g_z42
        have q_z42 : z42 = z32 := by rw [e_z42, e_z32, show z41 = z31 by omega]
        refine x_A k231_225 (fun _ => rfl) ?_
        refine x_A k231_226 (fun _ => rfl) ?_
        refine x_A k231_227 (fun _ => rfl) ?_
        refine x_iadd k231_228 ?_
        refine x_top (fun z43 e_z43 => ?_)
        refine x_scr k231_229 hN ⟨by omega, by omega⟩ (fun z44 g_z44 e_z44 => ?_)
        unfold in32 at g_z44
        have q_z44 : z44 = z34 := by rw [e_z44, e_z34, show z43 = z33 by omega]
        obtain ⟨z45, e_z45⟩ : ∃ z, z = s38 256 1 := ⟨_, rfl⟩
        have g_z45 : (1 : Int) ≤ s38 256 1 ∧ s38 256 1 ≤ 40 := hG_s38 256 1
        obtain ⟨z46, e_z46⟩ : ∃ z, z = s38 256 0 := ⟨_, rfl⟩
        have g_z46 : (0 : Int) ≤ s38 256 0 ∧ s38 256 0 ≤ 9 := hG_s38 256 0
        refine x_callV k231_230 (y := 147) (n := 2) (w0 := 0) (w1 := 2) (as := [vi z42, vi z44]) (rest := []) (by decide +kernel) (q := 256) (nq := 62) (kq := 15) ⟨by decide, rfl⟩ rfl rfl rfl rfl (xe_mono (E_X11_move_256 s38 hG_s38 z42 (by first | exact x_rbe e_z42 g_z42 rfl rfl | exact x_rb g_z42 rfl rfl | exact ⟨by omega, by omega⟩) z44 (by first | exact x_rbe e_z44 g_z44 rfl rfl | exact x_rb g_z44 rfl rfl | exact ⟨by omega, by omega⟩) ⟨by omega, by omega⟩ ⟨by omega, by omega⟩ J_s38) ?_)
        rintro s48 v ⟨hG_s48, t_s48, z47, rfl, g_z47, xp_z47, J_s48⟩
        have q49 : s48 1 4 = z35 := (t_s48 1 4 (show 69 ∉ [4352] from by decide +kernel)).trans q39
        have q50 : s48 0 10 = z36 := (t_s48 0 10 (show 11 ∉ [4352] from by decide +kernel)).trans q40
        have q51 : s48 256 1 = z45 := (t_s48 256 1 (show 4098 ∉ [4352] from by decide +kernel)).trans e_z45.symm
        have q52 : s48 256 0 = z46 := (t_s48 256 0 (show 4097 ∉ [4352] from by decide +kernel)).trans e_z46.symm
        have X1_s48 : X1 s48 := X1.fl X1_s38 t_s48 (by decide +kernel)
        have R1_s48 : R1 s48 := R1.fl R1_s38 t_s48 (by decide +kernel)
        have G1_s48 : G1 s48 := G1.fl G1_s38 t_s48 (by decide +kernel)
        have G3_s48 : G3 s48 := G3.fl G3_s38 t_s48 (by decide +kernel)
        have VCj_s48 : VCj s48 := VCj.fl VCj_s38 hG_s38 t_s48 (by decide)
        have VCl_s48 : VCl s48 := VCl.fl VCl_s38 hG_s38 t_s48 (by decide)
        show xe (some (N, xs)) 231 233 [(0, .ref 2000), (1, .ref 0), (2, .ref 256), (3, vi x3)] [vi z47] s48 295 10442 _
        obtain ⟨ez_s48, TR_s48⟩ := TR.move i_TR i_J hG t_s38 t_s48 (by decide) (by decide) xp_z37 (by rw [← q_z42, ← q_z44]; exact xp_z47)
        refine x_A k231_233 (fun _ => rfl) ?_
        refine x_goto k231_234 (t := 1300) rfl ?_
        refine x_iinc k231_1300 (ls' := [(3, vi (x3 + 7)), (0, .ref 2000), (1, .ref 0), (2, .ref 256)]) rfl (by decide) rfl ?_
        refine x_goto k231_1303 (t := 18) rfl ?_
        refine x_ls (l := [(0, .ref 2000), (1, .ref 0), (2, .ref 256), (3, vi (x3 + 7))]) (show ([0, 1, 2, 3] : List Nat).Nodup from by decide +kernel) ⟨rfl, rfl, rfl, rfl, trivial⟩ ?_
        exact ih s48 (x3 + 7) hG_s48 trivial ⟨by omega, by omega⟩ J_s48 TR_s48 X1_s48 R1_s48 G1_s48 G3_s48 VCj_s48 VCl_s48  (by omega)
      · rw [c5]
        refine x_B k231_33 rfl (fun _ => rfl) (fun _ => rfl) (fun _ _ => rfl) ?_
        show xe (some (N, xs)) 231 237 [(0, .ref 2000), (1, .ref 0), (2, .ref 256), (3, vi x3)] [] s 295 10442 _
        refine x_A k231_237 (fun _ => rfl) ?_
        refine x_A k231_238 (fun _ => rfl) ?_
        refine x_A k231_239 (fun _ => rfl) ?_
        refine x_A k231_240 (fun _ => rfl) ?_
        refine x_iadd k231_241 ?_
        refine x_top (fun z53 e_z53 => ?_)
        refine x_scr k231_242 hN ⟨by omega, by omega⟩ (fun z54 g_z54 e_z54 => ?_)
        unfold in32 at g_z54
        refine x_A k231_243 (fun _ => rfl) ?_
        refine x_A k231_244 (fun _ => rfl) ?_
        refine x_A k231_245 (fun _ => rfl) ?_
        refine x_iadd k231_246 ?_
        refine x_top (fun z55 e_z55 => ?_)
        refine x_scr k231_247 hN ⟨by omega, by omega⟩ (fun z56 g_z56 e_z56 => ?_)
        unfold in32 at g_z56
        obtain ⟨z57, e_z57⟩ : ∃ z, z = s 1 4 := ⟨_, rfl⟩
        have g_z57 : (1 : Int) ≤ s 1 4 ∧ s 1 4 ≤ 40 := hG 1 4
        obtain ⟨z58, e_z58⟩ : ∃ z, z = s 0 10 := ⟨_, rfl⟩
        have g_z58 : (0 : Int) ≤ s 0 10 ∧ s 0 10 ≤ 9 := hG 0 10
        refine x_callV k231_248 (y := 94) (n := 2) (w0 := 0) (w1 := 2) (as := [vi z54, vi z56]) (rest := []) (by decide +kernel) (q := 0) (nq := 12) (kq := 3) ⟨by decide, rfl⟩ rfl rfl rfl rfl (xe_mono (V_X10_end_0 s hG z54 (by first | exact x_rbe e_z54 g_z54 rfl rfl | exact x_rb g_z54 rfl rfl | exact ⟨by omega, by omega⟩) z56 (by first | exact x_rbe e_z56 g_z56 rfl rfl | exact x_rb g_z56 rfl rfl | exact ⟨by omega, by omega⟩) ⟨by omega, by omega⟩ ⟨by omega, by omega⟩ i_VCj i_VCl) ?_)
        rintro s60 v ⟨hG_s60, t_s60, z59, rfl, g_z59, xp_z59, VCj_s60, VCl_s60⟩
        have q61 : s60 1 4 = z57 := (t_s60 1 4 (show 69 ∉ [192, 256, 3276, 3277] from by decide +kernel)).trans e_z57.symm
        have q62 : s60 0 10 = z58 := (t_s60 0 10 (show 11 ∉ [192, 256, 3276, 3277] from by decide +kernel)).trans e_z58.symm
        have J_s60 : J s60 := J.fl i_J t_s60 (by decide +kernel)
        have X1_s60 : X1 s60 := X1.fl i_X1 t_s60 (by decide +kernel)
        have R1_s60 : R1 s60 := R1.fl i_R1 t_s60 (by decide +kernel)
        have G1_s60 : G1 s60 := G1.fl i_G1 t_s60 (by decide +kernel)
        have G3_s60 : G3 s60 := G3.fl i_G3 t_s60 (by decide +kernel)
        show xe (some (N, xs)) 231 251 [(0, .ref 2000), (1, .ref 0), (2, .ref 256), (3, vi x3)] [vi z59] s60 295 10442 _
        refine x_A k231_251 (fun _ => rfl) ?_
        refine x_A k231_252 (fun _ => rfl) ?_
        refine x_A k231_253 (fun _ => rfl) ?_
        refine x_A k231_254 (fun _ => rfl) ?_
        refine x_A k231_255 (fun _ => rfl) ?_
        refine x_iadd k231_256 ?_
        refine x_top (fun z63 e_z63 => ?_)
        refine x_scr k231_257 hN ⟨by omega, by omega⟩ (fun z64 g_z64 e_z64 => ?_)
        unfold in32 at g_z64
        have q_z64 : z64 = z54 := by rw [e_z64, e_z54, show z63 = z53 by omega]
        refine x_A k231_258 (fun _ => rfl) ?_
        refine x_A k231_259 (fun _ => rfl) ?_
        refine x_A k231_260 (fun _ => rfl) ?_
        refine x_iadd k231_261 ?_
        refine x_top (fun z65 e_z65 => ?_)
        refine x_scr k231_262 hN ⟨by omega, by omega⟩ (fun z66 g_z66 e_z66 => ?_)
        unfold in32 at g_z66
        have q_z66 : z66 = z56 := by rw [e_z66, e_z56, show z65 = z55 by omega]
        obtain ⟨z67, e_z67⟩ : ∃ z, z = s60 256 1 := ⟨_, rfl⟩
        have g_z67 : (1 : Int) ≤ s60 256 1 ∧ s60 256 1 ≤ 40 := hG_s60 256 1
        obtain ⟨z68, e_z68⟩ : ∃ z, z = s60 256 0 := ⟨_, rfl⟩
        have g_z68 : (0 : Int) ≤ s60 256 0 ∧ s60 256 0 ≤ 9 := hG_s60 256 0
        refine x_callV k231_263 (y := 148) (n := 2) (w0 := 0) (w1 := 2) (as := [vi z64, vi z66]) (rest := []) (by decide +kernel) (q := 256) (nq := 62) (kq := 15) ⟨by decide, rfl⟩ rfl rfl rfl rfl (xe_mono (V_X11_end_256 s60 hG_s60 z64 (by first | exact x_rbe e_z64 g_z64 rfl rfl | exact x_rb g_z64 rfl rfl | exact ⟨by omega, by omega⟩) z66 (by first | exact x_rbe e_z66 g_z66 rfl rfl | exact x_rb g_z66 rfl rfl | exact ⟨by omega, by omega⟩) ⟨by omega, by omega⟩ ⟨by omega, by omega⟩ J_s60) ?_)
        rintro s70 v ⟨hG_s70, t_s70, z69, rfl, g_z69, xp_z69, J_s70⟩
        have q71 : s70 1 4 = z57 := (t_s70 1 4 (show 69 ∉ [4224, 4288] from by decide +kernel)).trans q61
        have q72 : s70 0 10 = z58 := (t_s70 0 10 (show 11 ∉ [4224, 4288] from by decide +kernel)).trans q62
        have q73 : s70 256 1 = z67 := (t_s70 256 1 (show 4098 ∉ [4224, 4288] from by decide +kernel)).trans e_z67.symm
        have q74 : s70 256 0 = z68 := (t_s70 256 0 (show 4097 ∉ [4224, 4288] from by decide +kernel)).trans e_z68.symm
        have X1_s70 : X1 s70 := X1.fl X1_s60 t_s70 (by decide +kernel)
        have R1_s70 : R1 s70 := R1.fl R1_s60 t_s70 (by decide +kernel)
        have G1_s70 : G1 s70 := G1.fl G1_s60 t_s70 (by decide +kernel)
        have G3_s70 : G3 s70 := G3.fl G3_s60 t_s70 (by decide +kernel)
        have VCj_s70 : VCj s70 := VCj.fl VCj_s60 hG_s60 t_s70 (by decide)
        have VCl_s70 : VCl s70 := VCl.fl VCl_s60 hG_s60 t_s70 (by decide)
        show xe (some (N, xs)) 231 266 [(0, .ref 2000), (1, .ref 0), (2, .ref 256), (3, vi x3)] [vi z69] s70 295 10442 _
        have TR_s70 := TR.end i_TR hG t_s60 t_s70 (by decide) (by decide) xp_z59 (by rw [← q_z64, ← q_z66]; exact xp_z69)
        refine x_A k231_266 (fun _ => rfl) ?_
        refine x_goto k231_267 (t := 1300) rfl ?_
        refine x_iinc k231_1300 (ls' := [(3, vi (x3 + 7)), (0, .ref 2000), (1, .ref 0), (2, .ref 256)]) rfl (by decide) rfl ?_
        refine x_goto k231_1303 (t := 18) rfl ?_
        refine x_ls (l := [(0, .ref 2000), (1, .ref 0), (2, .ref 256), (3, vi (x3 + 7))]) (show ([0, 1, 2, 3] : List Nat).Nodup from by decide +kernel) ⟨rfl, rfl, rfl, rfl, trivial⟩ ?_
        exact ih s70 (x3 + 7) hG_s70 trivial ⟨by omega, by omega⟩ J_s70 TR_s70 X1_s70 R1_s70 G1_s70 G3_s70 VCj_s70 VCl_s70  (by omega)
      · rw [c5]
        refine x_B k231_33 rfl (fun _ => rfl) (fun _ => rfl) (fun _ _ => rfl) ?_
        show xe (some (N, xs)) 231 270 [(0, .ref 2000), (1, .ref 0), (2, .ref 256), (3, vi x3)] [] s 295 10442 _
        refine x_A k231_270 (fun _ => rfl) ?_
        refine x_A k231_271 (fun _ => rfl) ?_
        refine x_A k231_272 (fun _ => rfl) ?_
        refine x_A k231_273 (fun _ => rfl) ?_
        refine x_iadd k231_274 ?_
        refine x_top (fun z75 e_z75 => ?_)
        refine x_scr k231_275 hN ⟨by omega, by omega⟩ (fun z76 g_z76 e_z76 => ?_)
        unfold in32 at g_z76
        refine x_A k231_276 (fun _ => rfl) ?_
        refine x_A k231_277 (fun _ => rfl) ?_
        refine x_A k231_278 (fun _ => rfl) ?_
        refine x_iadd k231_279 ?_
        refine x_top (fun z77 e_z77 => ?_)
        refine x_scr k231_280 hN ⟨by omega, by omega⟩ (fun z78 g_z78 e_z78 => ?_)
        unfold in32 at g_z78
        refine x_A k231_281 (fun _ => rfl) ?_
        refine x_A k231_282 (fun _ => rfl) ?_
        refine x_A k231_283 (fun _ => rfl) ?_
        refine x_iadd k231_284 ?_
        refine x_top (fun z79 e_z79 => ?_)
        refine x_scr k231_285 hN ⟨by omega, by omega⟩ (fun z80 g_z80 e_z80 => ?_)
        unfold in32 at g_z80
        refine x_callV k231_286 (y := 95) (n := 3) (w0 := 0) (w1 := 3) (as := [vi z76, vi z78, vi z80]) (rest := []) (by decide +kernel) (q := 0) (nq := 12) (kq := 3) ⟨by decide, rfl⟩ rfl rfl rfl rfl (xe_mono (V_X10_tree_0 s hG i_J z76 (by first | exact x_rbe e_z76 g_z76 rfl rfl | exact x_rb g_z76 rfl rfl | exact ⟨by omega, by omega⟩) z78 (by first | exact x_rbe e_z78 g_z78 rfl rfl | exact x_rb g_z78 rfl rfl | exact ⟨by omega, by omega⟩) z80 (by first | exact x_rbe e_z80 g_z80 rfl rfl | exact x_rb g_z80 rfl rfl | exact ⟨by omega, by omega⟩) i_R1 i_VCj i_VCl) ?_)
        rintro s82 v ⟨hG_s82, t_s82, z81, rfl, g_z81, VCj_s82, VCl_s82⟩
        have J_s82 : J s82 := J.fl i_J t_s82 (by decide +kernel)
        have TR_s82 : TR s82 := TR.fl i_TR (hG 256 1).2 t_s82 (by decide)
        have X1_s82 : X1 s82 := X1.fl i_X1 t_s82 (by decide +kernel)
        have R1_s82 : R1 s82 := R1.fl i_R1 t_s82 (by decide +kernel)
        have G1_s82 : G1 s82 := G1.fl i_G1 t_s82 (by decide +kernel)
        have G3_s82 : G3 s82 := G3.fl i_G3 t_s82 (by decide +kernel)
        show xe (some (N, xs)) 231 289 [(0, .ref 2000), (1, .ref 0), (2, .ref 256), (3, vi x3)] [vi z81] s82 295 10442 _
        refine x_A k231_289 (fun _ => rfl) ?_
        refine x_A k231_290 (fun _ => rfl) ?_
        refine x_A k231_291 (fun _ => rfl) ?_
        refine x_A k231_292 (fun _ => rfl) ?_
        refine x_A k231_293 (fun _ => rfl) ?_
        refine x_iadd k231_294 ?_
        refine x_top (fun z83 e_z83 => ?_)
        refine x_scr k231_295 hN ⟨by omega, by omega⟩ (fun z84 g_z84 e_z84 => ?_)
        unfold in32 at g_z84
        have q_z84 : z84 = z76 := by rw [e_z84, e_z76, show z83 = z75 by omega]
        refine x_A k231_296 (fun _ => rfl) ?_
        refine x_A k231_297 (fun _ => rfl) ?_
        refine x_A k231_298 (fun _ => rfl) ?_
        refine x_iadd k231_299 ?_
        refine x_top (fun z85 e_z85 => ?_)
        refine x_scr k231_300 hN ⟨by omega, by omega⟩ (fun z86 g_z86 e_z86 => ?_)
        unfold in32 at g_z86
        have q_z86 : z86 = z78 := by rw [e_z86, e_z78, show z85 = z77 by omega]
        refine x_A k231_301 (fun _ => rfl) ?_
        refine x_A k231_302 (fun _ => rfl) ?_
        refine x_A k231_303 (fun _ => rfl) ?_
        refine x_iadd k231_304 ?_
        refine x_top (fun z87 e_z87 => ?_)
        refine x_scr k231_305 hN ⟨by omega, by omega⟩ (fun z88 g_z88 e_z88 => ?_)
        unfold in32 at g_z88
        have q_z88 : z88 = z80 := by rw [e_z88, e_z80, show z87 = z79 by omega]
        refine x_callV k231_306 (y := 149) (n := 3) (w0 := 0) (w1 := 3) (as := [vi z84, vi z86, vi z88]) (rest := []) (by decide +kernel) (q := 256) (nq := 62) (kq := 15) ⟨by decide, rfl⟩ rfl rfl rfl rfl (xe_mono (C_X11_tree_256 s82 hG_s82 J_s82 z84 (by first | exact x_rbe e_z84 g_z84 rfl rfl | exact x_rb g_z84 rfl rfl | exact ⟨by omega, by omega⟩) z86 (by first | exact x_rbe e_z86 g_z86 rfl rfl | exact x_rb g_z86 rfl rfl | exact ⟨by omega, by omega⟩) z88 (by first | exact x_rbe e_z88 g_z88 rfl rfl | exact x_rb g_z88 rfl rfl | exact ⟨by omega, by omega⟩)) ?_)
        rintro s90 v ⟨hG_s90, t_s90, z89, rfl, g_z89⟩
        have J_s90 : J s90 := J.fl J_s82 t_s90 (by decide +kernel)
        have TR_s90 : TR s90 := TR.fl TR_s82 (hG_s82 256 1).2 t_s90 (by decide)
        have X1_s90 : X1 s90 := X1.fl X1_s82 t_s90 (by decide +kernel)
        have R1_s90 : R1 s90 := R1.fl R1_s82 t_s90 (by decide +kernel)
        have G1_s90 : G1 s90 := G1.fl G1_s82 t_s90 (by decide +kernel)
        have G3_s90 : G3 s90 := G3.fl G3_s82 t_s90 (by decide +kernel)
        have VCj_s90 : VCj s90 := VCj.fl VCj_s82 hG_s82 t_s90 (by decide)
        have VCl_s90 : VCl s90 := VCl.fl VCl_s82 hG_s82 t_s90 (by decide)
        show xe (some (N, xs)) 231 309 [(0, .ref 2000), (1, .ref 0), (2, .ref 256), (3, vi x3)] [vi z89] s90 295 10442 _
        refine x_A k231_309 (fun _ => rfl) ?_
        refine x_goto k231_310 (t := 1300) rfl ?_
        refine x_iinc k231_1300 (ls' := [(3, vi (x3 + 7)), (0, .ref 2000), (1, .ref 0), (2, .ref 256)]) rfl (by decide) rfl ?_
        refine x_goto k231_1303 (t := 18) rfl ?_
        refine x_ls (l := [(0, .ref 2000), (1, .ref 0), (2, .ref 256), (3, vi (x3 + 7))]) (show ([0, 1, 2, 3] : List Nat).Nodup from by decide +kernel) ⟨rfl, rfl, rfl, rfl, trivial⟩ ?_
        exact ih s90 (x3 + 7) hG_s90 trivial ⟨by omega, by omega⟩ J_s90 TR_s90 X1_s90 R1_s90 G1_s90 G3_s90 VCj_s90 VCl_s90  (by omega)
      · rw [c5]
        refine x_B k231_33 rfl (fun _ => rfl) (fun _ => rfl) (fun _ _ => rfl) ?_
        show xe (some (N, xs)) 231 313 [(0, .ref 2000), (1, .ref 0), (2, .ref 256), (3, vi x3)] [] s 295 10442 _
        refine x_A k231_313 (fun _ => rfl) ?_
        refine x_A k231_314 (fun _ => rfl) ?_
        refine x_A k231_315 (fun _ => rfl) ?_
        refine x_A k231_316 (fun _ => rfl) ?_
        refine x_iadd k231_317 ?_
        refine x_top (fun z91 e_z91 => ?_)
        refine x_scr k231_318 hN ⟨by omega, by omega⟩ (fun z92 g_z92 e_z92 => ?_)
        unfold in32 at g_z92
        refine x_A k231_319 (fun _ => rfl) ?_
        refine x_A k231_320 (fun _ => rfl) ?_
        refine x_A k231_321 (fun _ => rfl) ?_
        refine x_iadd k231_322 ?_
        refine x_top (fun z93 e_z93 => ?_)
        refine x_scr k231_323 hN ⟨by omega, by omega⟩ (fun z94 g_z94 e_z94 => ?_)
        unfold in32 at g_z94
        refine x_A k231_324 (fun _ => rfl) ?_
        refine x_A k231_325 (fun _ => rfl) ?_
        refine x_A k231_326 (fun _ => rfl) ?_
        refine x_iadd k231_327 ?_
        refine x_top (fun z95 e_z95 => ?_)
        refine x_scr k231_328 hN ⟨by omega, by omega⟩ (fun z96 g_z96 e_z96 => ?_)
        unfold in32 at g_z96
        refine x_callV k231_329 (y := 96) (n := 3) (w0 := 0) (w1 := 3) (as := [vi z92, vi z94, vi z96]) (rest := []) (by decide +kernel) (q := 0) (nq := 12) (kq := 3) ⟨by decide, rfl⟩ rfl rfl rfl rfl (xe_mono (C_X10_below_0 s hG z92 (by first | exact x_rbe e_z92 g_z92 rfl rfl | exact x_rb g_z92 rfl rfl | exact ⟨by omega, by omega⟩) z94 (by first | exact x_rbe e_z94 g_z94 rfl rfl | exact x_rb g_z94 rfl rfl | exact ⟨by omega, by omega⟩) z96 (by first | exact x_rbe e_z96 g_z96 rfl rfl | exact x_rb g_z96 rfl rfl | exact ⟨by omega, by omega⟩)) ?_)
        rintro s98 v ⟨-, t_s98, z97, rfl, g_z97⟩
        rw [t_s98.nil]
        show xe (some (N, xs)) 231 332 [(0, .ref 2000), (1, .ref 0), (2, .ref 256), (3, vi x3)] [vi z97] s 295 10442 _
        refine x_A k231_332 (fun _ => rfl) ?_
        refine x_A k231_333 (fun _ => rfl) ?_
        refine x_A k231_334 (fun _ => rfl) ?_
        refine x_A k231_335 (fun _ => rfl) ?_
        refine x_A k231_336 (fun _ => rfl) ?_
        refine x_iadd k231_337 ?_
        refine x_top (fun z99 e_z99 => ?_)
        refine x_scr k231_338 hN ⟨by omega, by omega⟩ (fun z100 g_z100 e_z100 => ?_)
        unfold in32 at g_z100
        have q_z100 : z100 = z92 := by rw [e_z100, e_z92, show z99 = z91 by omega]
        refine x_A k231_339 (fun _ => rfl) ?_
        refine x_A k231_340 (fun _ => rfl) ?_
        refine x_A k231_341 (fun _ => rfl) ?_
        refine x_iadd k231_342 ?_
        refine x_top (fun z101 e_z101 => ?_)
        refine x_scr k231_343 hN ⟨by omega, by omega⟩ (fun z102 g_z102 e_z102 => ?_)
        unfold in32 at g_z102
        have q_z102 : z102 = z94 := by rw [e_z102, e_z94, show z101 = z93 by omega]
        refine x_A k231_344 (fun _ => rfl) ?_
        refine x_A k231_345 (fun _ => rfl) ?_
        refine x_A k231_346 (fun _ => rfl) ?_
        refine x_iadd k231_347 ?_
        refine x_top (fun z103 e_z103 => ?_)
        refine x_scr k231_348 hN ⟨by omega, by omega⟩ (fun z104 g_z104 e_z104 => ?_)
        unfold in32 at g_z104
        have q_z104 : z104 = z96 := by rw [e_z104, e_z96, show z103 = z95 by omega]
        refine x_callV k231_349 (y := 150) (n := 3) (w0 := 0) (w1 := 3) (as := [vi z100, vi z102, vi z104]) (rest := []) (by decide +kernel) (q := 256) (nq := 62) (kq := 15) ⟨by decide, rfl⟩ rfl rfl rfl rfl (xe_mono (C_X11_below_256 s hG i_J z100 (by first | exact x_rbe e_z100 g_z100 rfl rfl | exact x_rb g_z100 rfl rfl | exact ⟨by omega, by omega⟩) z102 (by first | exact x_rbe e_z102 g_z102 rfl rfl | exact x_rb g_z102 rfl rfl | exact ⟨by omega, by omega⟩) z104 (by first | exact x_rbe e_z104 g_z104 rfl rfl | exact x_rb g_z104 rfl rfl | exact ⟨by omega, by omega⟩)) ?_)
        rintro s106 v ⟨-, t_s106, z105, rfl, g_z105⟩
        rw [t_s106.nil]
        show xe (some (N, xs)) 231 352 [(0, .ref 2000), (1, .ref 0), (2, .ref 256), (3, vi x3)] [vi z105] s 295 10442 _
        refine x_A k231_352 (fun _ => rfl) ?_
        refine x_goto k231_353 (t := 1300) rfl ?_
        refine x_iinc k231_1300 (ls' := [(3, vi (x3 + 7)), (0, .ref 2000), (1, .ref 0), (2, .ref 256)]) rfl (by decide) rfl ?_
        refine x_goto k231_1303 (t := 18) rfl ?_
        refine x_ls (l := [(0, .ref 2000), (1, .ref 0), (2, .ref 256), (3, vi (x3 + 7))]) (show ([0, 1, 2, 3] : List Nat).Nodup from by decide +kernel) ⟨rfl, rfl, rfl, rfl, trivial⟩ ?_
        exact ih s (x3 + 7) hG f ⟨by omega, by omega⟩ i_J i_TR i_X1 i_R1 i_G1 i_G3 i_VCj i_VCl  (by omega)
      · rw [c5]
        refine x_B k231_33 rfl (fun _ => rfl) (fun _ => rfl) (fun _ _ => rfl) ?_
        show xe (some (N, xs)) 231 356 [(0, .ref 2000), (1, .ref 0), (2, .ref 256), (3, vi x3)] [] s 295 10442 _
        refine x_A k231_356 (fun _ => rfl) ?_
        refine x_A k231_357 (fun _ => rfl) ?_
        refine x_A k231_358 (fun _ => rfl) ?_
        refine x_A k231_359 (fun _ => rfl) ?_
        refine x_iadd k231_360 ?_
        refine x_top (fun z107 e_z107 => ?_)
        refine x_scr k231_361 hN ⟨by omega, by omega⟩ (fun z108 g_z108 e_z108 => ?_)
        unfold in32 at g_z108
        refine x_A k231_362 (fun _ => rfl) ?_
        refine x_A k231_363 (fun _ => rfl) ?_
        refine x_A k231_364 (fun _ => rfl) ?_
        refine x_iadd k231_365 ?_
        refine x_top (fun z109 e_z109 => ?_)
        refine x_scr k231_366 hN ⟨by omega, by omega⟩ (fun z110 g_z110 e_z110 => ?_)
        unfold in32 at g_z110
        refine x_A k231_367 (fun _ => rfl) ?_
        refine x_A k231_368 (fun _ => rfl) ?_
        refine x_A k231_369 (fun _ => rfl) ?_
        refine x_iadd k231_370 ?_
        refine x_top (fun z111 e_z111 => ?_)
        refine x_scr k231_371 hN ⟨by omega, by omega⟩ (fun z112 g_z112 e_z112 => ?_)
        unfold in32 at g_z112
        obtain ⟨z113, e_z113⟩ : ∃ z, z = s 46 3 := ⟨_, rfl⟩
        have g_z113 : (0 : Int) ≤ s 46 3 ∧ s 46 3 ≤ 40 := hG 46 3
        refine x_callV k231_372 (y := 97) (n := 3) (w0 := 0) (w1 := 3) (as := [vi z108, vi z110, vi z112]) (rest := []) (by decide +kernel) (q := 0) (nq := 12) (kq := 3) ⟨by decide, rfl⟩ rfl rfl rfl rfl (xe_mono (E_X10_picture_0 s hG z108 (by first | exact x_rbe e_z108 g_z108 rfl rfl | exact x_rb g_z108 rfl rfl | exact ⟨by omega, by omega⟩) z110 (by first | exact x_rbe e_z110 g_z110 rfl rfl | exact x_rb g_z110 rfl rfl | exact ⟨by omega, by omega⟩) z112 (by first | exact x_rbe e_z112 g_z112 rfl rfl | exact x_rb g_z112 rfl rfl | exact ⟨by omega, by omega⟩) ⟨by omega, by omega⟩) ?_)
        rintro s115 v ⟨hG_s115, t_s115, z114, rfl, g_z114, xp_z114⟩
        have J_s115 : J s115 := J.fl i_J t_s115 (by decide +kernel)
        have TR_s115 : TR s115 := TR.fl i_TR (hG 256 1).2 t_s115 (by decide)
        have X1_s115 : X1 s115 := X1.fl i_X1 t_s115 (by decide +kernel)
        have R1_s115 : R1 s115 := R1.fl i_R1 t_s115 (by decide +kernel)
        have G1_s115 : G1 s115 := G1.fl i_G1 t_s115 (by decide +kernel)
        have VCj_s115 : VCj s115 := VCj.fl i_VCj hG t_s115 (by decide)
        have VCl_s115 : VCl s115 := VCl.fl i_VCl hG t_s115 (by decide)
        obtain ⟨z116, e_z116⟩ : ∃ z, z = s115 46 3 := ⟨_, rfl⟩
        have g_z116 : (0 : Int) ≤ s115 46 3 ∧ s115 46 3 ≤ 40 := hG_s115 46 3
        show xe (some (N, xs)) 231 375 [(0, .ref 2000), (1, .ref 0), (2, .ref 256), (3, vi x3)] [vi z114] s115 295 10442 _
        refine x_A k231_375 (fun _ => rfl) ?_
        refine x_A k231_376 (fun _ => rfl) ?_
        refine x_A k231_377 (fun _ => rfl) ?_
        refine x_A k231_378 (fun _ => rfl) ?_
        refine x_A k231_379 (fun _ => rfl) ?_
        refine x_iadd k231_380 ?_
        refine x_top (fun z117 e_z117 => ?_)
        refine x_scr k231_381 hN ⟨by omega, by omega⟩ (fun z118 g_z118 e_z118 => ?_)
        unfold in32 at g_z118
        have q_z118 : z118 = z108 := by rw [e_z118, e_z108, show z117 = z107 by omega]
        refine x_A k231_382 (fun _ => rfl) ?_
        refine x_A k231_383 (fun _ => rfl) ?_
        refine x_A k231_384 (fun _ => rfl) ?_
        refine x_iadd k231_385 ?_
        refine x_top (fun z119 e_z119 => ?_)
        refine x_scr k231_386 hN ⟨by omega, by omega⟩ (fun z120 g_z120 e_z120 => ?_)
        unfold in32 at g_z120
        have q_z120 : z120 = z110 := by rw [e_z120, e_z110, show z119 = z109 by omega]
        refine x_A k231_387 (fun _ => rfl) ?_
        refine x_A k231_388 (fun _ => rfl) ?_
        refine x_A k231_389 (fun _ => rfl) ?_
        refine x_iadd k231_390 ?_
        refine x_top (fun z121 e_z121 => ?_)
        refine x_scr k231_391 hN ⟨by omega, by omega⟩ (fun z122 g_z122 e_z122 => ?_)
        unfold in32 at g_z122
        have q_z122 : z122 = z112 := by rw [e_z122, e_z112, show z121 = z111 by omega]
        obtain ⟨z123, e_z123⟩ : ∃ z, z = s115 256 6 := ⟨_, rfl⟩
        have g_z123 : (0 : Int) ≤ s115 256 6 ∧ s115 256 6 ≤ 40 := hG_s115 256 6
        refine x_callV k231_392 (y := 154) (n := 3) (w0 := 0) (w1 := 3) (as := [vi z118, vi z120, vi z122]) (rest := []) (by decide +kernel) (q := 256) (nq := 62) (kq := 15) ⟨by decide, rfl⟩ rfl rfl rfl rfl (xe_mono (E_X11_picture_256 s115 hG_s115 z118 (by first | exact x_rbe e_z118 g_z118 rfl rfl | exact x_rb g_z118 rfl rfl | exact ⟨by omega, by omega⟩) z120 (by first | exact x_rbe e_z120 g_z120 rfl rfl | exact x_rb g_z120 rfl rfl | exact ⟨by omega, by omega⟩) z122 (by first | exact x_rbe e_z122 g_z122 rfl rfl | exact x_rb g_z122 rfl rfl | exact ⟨by omega, by omega⟩) ⟨by omega, by omega⟩ J_s115) ?_)
        rintro s125 v ⟨hG_s125, t_s125, z124, rfl, g_z124, xp_z124, J_s125⟩
        have q126 : s125 46 3 = z116 := (t_s125 46 3 (show 452 ∉ [4103, 4416, 4480, 4544] from by decide +kernel)).trans e_z116.symm
        have TR_s125 : TR s125 := TR.fl TR_s115 (hG_s115 256 1).2 t_s125 (by decide)
        have X1_s125 : X1 s125 := X1.fl X1_s115 t_s125 (by decide +kernel)
        have R1_s125 : R1 s125 := R1.fl R1_s115 t_s125 (by decide +kernel)
        have G1_s125 : G1 s125 := G1.fl G1_s115 t_s125 (by decide +kernel)
        have VCj_s125 : VCj s125 := VCj.fl VCj_s115 hG_s115 t_s125 (by decide)
        have VCl_s125 : VCl s125 := VCl.fl VCl_s115 hG_s115 t_s125 (by decide)
        obtain ⟨z127, e_z127⟩ : ∃ z, z = s125 256 6 := ⟨_, rfl⟩
        have g_z127 : (0 : Int) ≤ s125 256 6 ∧ s125 256 6 ≤ 40 := hG_s125 256 6
        show xe (some (N, xs)) 231 395 [(0, .ref 2000), (1, .ref 0), (2, .ref 256), (3, vi x3)] [vi z124] s125 295 10442 _
        have g46_s125 := i_G3.1
        have e46_s125 : s125 46 3 = s115 46 3 := t_s125 46 3 (by decide)
        have e256_s125 : s115 256 6 = s 256 6 := t_s115 256 6 (by decide)
        have G3_s125 := G3.pic i_G3 t_s115 t_s125 (by decide) (by decide) (by omega) (by omega)
        refine x_A k231_395 (fun _ => rfl) ?_
        refine x_goto k231_396 (t := 1300) rfl ?_
        refine x_iinc k231_1300 (ls' := [(3, vi (x3 + 7)), (0, .ref 2000), (1, .ref 0), (2, .ref 256)]) rfl (by decide) rfl ?_
        refine x_goto k231_1303 (t := 18) rfl ?_
        refine x_ls (l := [(0, .ref 2000), (1, .ref 0), (2, .ref 256), (3, vi (x3 + 7))]) (show ([0, 1, 2, 3] : List Nat).Nodup from by decide +kernel) ⟨rfl, rfl, rfl, rfl, trivial⟩ ?_
        exact ih s125 (x3 + 7) hG_s125 trivial ⟨by omega, by omega⟩ J_s125 TR_s125 X1_s125 R1_s125 G1_s125 G3_s125 VCj_s125 VCl_s125  (by omega)
      · rw [c5]
        refine x_B k231_33 rfl (fun _ => rfl) (fun _ => rfl) (fun _ _ => rfl) ?_
        show xe (some (N, xs)) 231 399 [(0, .ref 2000), (1, .ref 0), (2, .ref 256), (3, vi x3)] [] s 295 10442 _
        refine x_A k231_399 (fun _ => rfl) ?_
        refine x_A k231_400 (fun _ => rfl) ?_
        refine x_A k231_401 (fun _ => rfl) ?_
        refine x_A k231_402 (fun _ => rfl) ?_
        refine x_iadd k231_403 ?_
        refine x_top (fun z128 e_z128 => ?_)
        refine x_scr k231_404 hN ⟨by omega, by omega⟩ (fun z129 g_z129 e_z129 => ?_)
        unfold in32 at g_z129
        refine x_A k231_405 (fun _ => rfl) ?_
        refine x_A k231_406 (fun _ => rfl) ?_
        refine x_A k231_407 (fun _ => rfl) ?_
        refine x_iadd k231_408 ?_
        refine x_top (fun z130 e_z130 => ?_)
        refine x_scr k231_409 hN ⟨by omega, by omega⟩ (fun z131 g_z131 e_z131 => ?_)
        unfold in32 at g_z131
        refine x_A k231_410 (fun _ => rfl) ?_
        refine x_A k231_411 (fun _ => rfl) ?_
        refine x_A k231_412 (fun _ => rfl) ?_
        refine x_iadd k231_413 ?_
        refine x_top (fun z132 e_z132 => ?_)
        refine x_scr k231_414 hN ⟨by omega, by omega⟩ (fun z133 g_z133 e_z133 => ?_)
        unfold in32 at g_z133
        refine x_A k231_415 (fun _ => rfl) ?_
        refine x_A k231_416 (fun _ => rfl) ?_
        refine x_A k231_417 (fun _ => rfl) ?_
        refine x_iadd k231_418 ?_
        refine x_top (fun z134 e_z134 => ?_)
        refine x_scr k231_419 hN ⟨by omega, by omega⟩ (fun z135 g_z135 e_z135 => ?_)
        unfold in32 at g_z135
        obtain ⟨z136, e_z136⟩ : ∃ z, z = s 50 6 := ⟨_, rfl⟩
        have g_z136 : (0 : Int) ≤ s 50 6 ∧ s 50 6 ≤ 120 := hG 50 6
        obtain ⟨z137, e_z137⟩ : ∃ z, z = s 46 3 := ⟨_, rfl⟩
        have g_z137 : (0 : Int) ≤ s 46 3 ∧ s 46 3 ≤ 40 := hG 46 3
        obtain ⟨z138, e_z138⟩ : ∃ z, z = s 1 4 := ⟨_, rfl⟩
        have g_z138 : (1 : Int) ≤ s 1 4 ∧ s 1 4 ≤ 40 := hG 1 4
        obtain ⟨z139, e_z139⟩ : ∃ z, z = s 0 10 := ⟨_, rfl⟩
        have g_z139 : (0 : Int) ≤ s 0 10 ∧ s 0 10 ≤ 9 := hG 0 10
        refine x_callV k231_420 (y := 98) (n := 4) (w0 := 0) (w1 := 4) (as := [vi z129, vi z131, vi z133, vi z135]) (rest := []) (by decide +kernel) (q := 0) (nq := 12) (kq := 3) ⟨by decide, rfl⟩ rfl rfl rfl rfl (xe_mono (V_X10_give_0 s hG z129 (by first | exact x_rbe e_z129 g_z129 rfl rfl | exact x_rb g_z129 rfl rfl | exact ⟨by omega, by omega⟩) z131 (by first | exact x_rbe e_z131 g_z131 rfl rfl | exact x_rb g_z131 rfl rfl | exact ⟨by omega, by omega⟩) z133 (by first | exact x_rbe e_z133 g_z133 rfl rfl | exact x_rb g_z133 rfl rfl | exact ⟨by omega, by omega⟩) z135 (by first | exact x_rbe e_z135 g_z135 rfl rfl | exact x_rb g_z135 rfl rfl | exact ⟨by omega, by omega⟩) ⟨by omega, by omega⟩ ⟨by omega, by omega⟩ ⟨by omega, by omega⟩ ⟨by omega, by omega⟩ i_VCj i_VCl) ?_)
        rintro s141 v ⟨hG_s141, t_s141, z140, rfl, g_z140, xp_z140, VCj_s141, VCl_s141⟩
        have q142 : s141 46 3 = z137 := (t_s141 46 3 (show 452 ∉ [711, 768, 832, 896, 960, 1024, 1152, 3276, 3277] from by decide +kernel)).trans e_z137.symm
        have q143 : s141 1 4 = z138 := (t_s141 1 4 (show 69 ∉ [711, 768, 832, 896, 960, 1024, 1152, 3276, 3277] from by decide +kernel)).trans e_z138.symm
        have q144 : s141 0 10 = z139 := (t_s141 0 10 (show 11 ∉ [711, 768, 832, 896, 960, 1024, 1152, 3276, 3277] from by decide +kernel)).trans e_z139.symm
        have J_s141 : J s141 := J.fl i_J t_s141 (by decide +kernel)
        have TR_s141 : TR s141 := TR.fl i_TR (hG 256 1).2 t_s141 (by decide)
        have X1_s141 : X1 s141 := X1.fl i_X1 t_s141 (by decide +kernel)
        have R1_s141 : R1 s141 := R1.fl i_R1 t_s141 (by decide +kernel)
        obtain ⟨z145, e_z145⟩ : ∃ z, z = s141 50 6 := ⟨_, rfl⟩
        have g_z145 : (0 : Int) ≤ s141 50 6 ∧ s141 50 6 ≤ 120 := hG_s141 50 6
        show xe (some (N, xs)) 231 423 [(0, .ref 2000), (1, .ref 0), (2, .ref 256), (3, vi x3)] [vi z140] s141 295 10442 _
        refine x_A k231_423 (fun _ => rfl) ?_
        refine x_A k231_424 (fun _ => rfl) ?_
        refine x_A k231_425 (fun _ => rfl) ?_
        refine x_A k231_426 (fun _ => rfl) ?_
        refine x_A k231_427 (fun _ => rfl) ?_
        refine x_iadd k231_428 ?_
        refine x_top (fun z146 e_z146 => ?_)
        refine x_scr k231_429 hN ⟨by omega, by omega⟩ (fun z147 g_z147 e_z147 => ?_)
        unfold in32 at g_z147
        have q_z147 : z147 = z129 := by rw [e_z147, e_z129, show z146 = z128 by omega]
        refine x_A k231_430 (fun _ => rfl) ?_
        refine x_A k231_431 (fun _ => rfl) ?_
        refine x_A k231_432 (fun _ => rfl) ?_
        refine x_iadd k231_433 ?_
        refine x_top (fun z148 e_z148 => ?_)
        refine x_scr k231_434 hN ⟨by omega, by omega⟩ (fun z149 g_z149 e_z149 => ?_)
        unfold in32 at g_z149
        have q_z149 : z149 = z131 := by rw [e_z149, e_z131, show z148 = z130 by omega]
        refine x_A k231_435 (fun _ => rfl) ?_
        refine x_A k231_436 (fun _ => rfl) ?_
        refine x_A k231_437 (fun _ => rfl) ?_
        refine x_iadd k231_438 ?_
        refine x_top (fun z150 e_z150 => ?_)
        refine x_scr k231_439 hN ⟨by omega, by omega⟩ (fun z151 g_z151 e_z151 => ?_)
        unfold in32 at g_z151
        have q_z151 : z151 = z133 := by rw [e_z151, e_z133, show z150 = z132 by omega]
        refine x_A k231_440 (fun _ => rfl) ?_
        refine x_A k231_441 (fun _ => rfl) ?_
        refine x_A k231_442 (fun _ => rfl) ?_
        refine x_iadd k231_443 ?_
        refine x_top (fun z152 e_z152 => ?_)
        refine x_scr k231_444 hN ⟨by omega, by omega⟩ (fun z153 g_z153 e_z153 => ?_)
        unfold in32 at g_z153
        have q_z153 : z153 = z135 := by rw [e_z153, e_z135, show z152 = z134 by omega]
        obtain ⟨z154, e_z154⟩ : ∃ z, z = s141 256 10 := ⟨_, rfl⟩
        have g_z154 : (0 : Int) ≤ s141 256 10 ∧ s141 256 10 ≤ 120 := hG_s141 256 10
        obtain ⟨z155, e_z155⟩ : ∃ z, z = s141 256 6 := ⟨_, rfl⟩
        have g_z155 : (0 : Int) ≤ s141 256 6 ∧ s141 256 6 ≤ 40 := hG_s141 256 6
        obtain ⟨z156, e_z156⟩ : ∃ z, z = s141 256 1 := ⟨_, rfl⟩
        have g_z156 : (1 : Int) ≤ s141 256 1 ∧ s141 256 1 ≤ 40 := hG_s141 256 1
        obtain ⟨z157, e_z157⟩ : ∃ z, z = s141 256 0 := ⟨_, rfl⟩
        have g_z157 : (0 : Int) ≤ s141 256 0 ∧ s141 256 0 ≤ 9 := hG_s141 256 0
        refine x_callV k231_445 (y := 155) (n := 4) (w0 := 0) (w1 := 4) (as := [vi z147, vi z149, vi z151, vi z153]) (rest := []) (by decide +kernel) (q := 256) (nq := 62) (kq := 15) ⟨by decide, rfl⟩ rfl rfl rfl rfl (xe_mono (V_X11_give_256 s141 hG_s141 z147 (by first | exact x_rbe e_z147 g_z147 rfl rfl | exact x_rb g_z147 rfl rfl | exact ⟨by omega, by omega⟩) z149 (by first | exact x_rbe e_z149 g_z149 rfl rfl | exact x_rb g_z149 rfl rfl | exact ⟨by omega, by omega⟩) z151 (by first | exact x_rbe e_z151 g_z151 rfl rfl | exact x_rb g_z151 rfl rfl | exact ⟨by omega, by omega⟩) z153 (by first | exact x_rbe e_z153 g_z153 rfl rfl | exact x_rb g_z153 rfl rfl | exact ⟨by omega, by omega⟩) ⟨by omega, by omega⟩ ⟨by omega, by omega⟩ ⟨by omega, by omega⟩ ⟨by omega, by omega⟩) ?_)
        rintro s159 v ⟨hG_s159, t_s159, z158, rfl, g_z158, xp_z158⟩
        have q160 : s159 46 3 = z137 := (t_s159 46 3 (show 452 ∉ [4107, 4608, 4672, 4736, 4800, 4864, 4928] from by decide +kernel)).trans q142
        have q161 : s159 1 4 = z138 := (t_s159 1 4 (show 69 ∉ [4107, 4608, 4672, 4736, 4800, 4864, 4928] from by decide +kernel)).trans q143
        have q162 : s159 0 10 = z139 := (t_s159 0 10 (show 11 ∉ [4107, 4608, 4672, 4736, 4800, 4864, 4928] from by decide +kernel)).trans q144
        have q163 : s159 50 6 = z145 := (t_s159 50 6 (show 711 ∉ [4107, 4608, 4672, 4736, 4800, 4864, 4928] from by decide +kernel)).trans e_z145.symm
        have q164 : s159 256 6 = z155 := (t_s159 256 6 (show 4103 ∉ [4107, 4608, 4672, 4736, 4800, 4864, 4928] from by decide +kernel)).trans e_z155.symm
        have q165 : s159 256 1 = z156 := (t_s159 256 1 (show 4098 ∉ [4107, 4608, 4672, 4736, 4800, 4864, 4928] from by decide +kernel)).trans e_z156.symm
        have q166 : s159 256 0 = z157 := (t_s159 256 0 (show 4097 ∉ [4107, 4608, 4672, 4736, 4800, 4864, 4928] from by decide +kernel)).trans e_z157.symm
        have J_s159 : J s159 := J.fl J_s141 t_s159 (by decide +kernel)
        have TR_s159 : TR s159 := TR.fl TR_s141 (hG_s141 256 1).2 t_s159 (by decide)
        have X1_s159 : X1 s159 := X1.fl X1_s141 t_s159 (by decide +kernel)
        have R1_s159 : R1 s159 := R1.fl R1_s141 t_s159 (by decide +kernel)
        have VCj_s159 : VCj s159 := VCj.fl VCj_s141 hG_s141 t_s159 (by decide)
        have VCl_s159 : VCl s159 := VCl.fl VCl_s141 hG_s141 t_s159 (by decide)
        obtain ⟨z167, e_z167⟩ : ∃ z, z = s159 256 10 := ⟨_, rfl⟩
        have g_z167 : (0 : Int) ≤ s159 256 10 ∧ s159 256 10 ≤ 120 := hG_s159 256 10
        show xe (some (N, xs)) 231 448 [(0, .ref 2000), (1, .ref 0), (2, .ref 256), (3, vi x3)] [vi z158] s159 295 10442 _
        obtain ⟨ez_s159, G1_s159⟩ := G1.give i_G1 i_TR.1.2.1 i_G3.1 hG t_s141 t_s159 (by decide) (by decide) xp_z140.1 (by rw [← q_z147, ← q_z149, ← q_z151, ← q_z153]; exact xp_z158.1)
        have G3_s159 := G3.give i_G3 i_G1 i_TR.1 i_TR.2.1 hG t_s141 t_s159 (by decide) (by decide) ez_s159 xp_z140.1 xp_z140.2 (by have w_ := xp_z158.2; (try rw [q_z147] at w_); (try rw [q_z149] at w_); (try rw [q_z151] at w_); (try rw [q_z153] at w_); exact w_)
        refine x_A k231_448 (fun _ => rfl) ?_
        refine x_goto k231_449 (t := 1300) rfl ?_
        refine x_iinc k231_1300 (ls' := [(3, vi (x3 + 7)), (0, .ref 2000), (1, .ref 0), (2, .ref 256)]) rfl (by decide) rfl ?_
        refine x_goto k231_1303 (t := 18) rfl ?_
        refine x_ls (l := [(0, .ref 2000), (1, .ref 0), (2, .ref 256), (3, vi (x3 + 7))]) (show ([0, 1, 2, 3] : List Nat).Nodup from by decide +kernel) ⟨rfl, rfl, rfl, rfl, trivial⟩ ?_
        exact ih s159 (x3 + 7) hG_s159 trivial ⟨by omega, by omega⟩ J_s159 TR_s159 X1_s159 R1_s159 G1_s159 G3_s159 VCj_s159 VCl_s159  (by omega)
      · rw [c5]
        refine x_B k231_33 rfl (fun _ => rfl) (fun _ => rfl) (fun _ _ => rfl) ?_
        show xe (some (N, xs)) 231 452 [(0, .ref 2000), (1, .ref 0), (2, .ref 256), (3, vi x3)] [] s 295 10442 _
        refine x_A k231_452 (fun _ => rfl) ?_
        refine x_A k231_453 (fun _ => rfl) ?_
        refine x_A k231_454 (fun _ => rfl) ?_
        refine x_A k231_455 (fun _ => rfl) ?_
        refine x_iadd k231_456 ?_
        refine x_top (fun z168 e_z168 => ?_)
        refine x_scr k231_457 hN ⟨by omega, by omega⟩ (fun z169 g_z169 e_z169 => ?_)
        unfold in32 at g_z169
        refine x_A k231_458 (fun _ => rfl) ?_
        refine x_A k231_459 (fun _ => rfl) ?_
        refine x_A k231_460 (fun _ => rfl) ?_
        refine x_iadd k231_461 ?_
        refine x_top (fun z170 e_z170 => ?_)
        refine x_scr k231_462 hN ⟨by omega, by omega⟩ (fun z171 g_z171 e_z171 => ?_)
        unfold in32 at g_z171
        obtain ⟨z172, e_z172⟩ : ∃ z, z = s 50 6 := ⟨_, rfl⟩
        have g_z172 : (0 : Int) ≤ s 50 6 ∧ s 50 6 ≤ 120 := hG 50 6
        obtain ⟨z173, e_z173⟩ : ∃ z, z = s 0 10 := ⟨_, rfl⟩
        have g_z173 : (0 : Int) ≤ s 0 10 ∧ s 0 10 ≤ 9 := hG 0 10
        refine x_callV k231_463 (y := 99) (n := 2) (w0 := 0) (w1 := 2) (as := [vi z169, vi z171]) (rest := []) (by decide +kernel) (q := 0) (nq := 12) (kq := 3) ⟨by decide, rfl⟩ rfl rfl rfl rfl (xe_mono (V_X10_doubt_0 s hG z169 (by first | exact x_rbe e_z169 g_z169 rfl rfl | exact x_rb g_z169 rfl rfl | exact ⟨by omega, by omega⟩) z171 (by first | exact x_rbe e_z171 g_z171 rfl rfl | exact x_rb g_z171 rfl rfl | exact ⟨by omega, by omega⟩) ⟨by omega, by omega⟩ ⟨by omega, by omega⟩ i_VCj i_VCl) ?_)
        rintro s175 v ⟨hG_s175, t_s175, z174, rfl, g_z174, xp_z174, VCj_s175, VCl_s175⟩
        have q176 : s175 50 6 = z172 := (t_s175 50 6 (show 711 ∉ [1152, 3276, 3277] from by decide +kernel)).trans e_z172.symm
        have q177 : s175 0 10 = z173 := (t_s175 0 10 (show 11 ∉ [1152, 3276, 3277] from by decide +kernel)).trans e_z173.symm
        have J_s175 : J s175 := J.fl i_J t_s175 (by decide +kernel)
        have TR_s175 : TR s175 := TR.fl i_TR (hG 256 1).2 t_s175 (by decide)
        have X1_s175 : X1 s175 := X1.fl i_X1 t_s175 (by decide +kernel)
        have R1_s175 : R1 s175 := R1.fl i_R1 t_s175 (by decide +kernel)
        have G3_s175 : G3 s175 := G3.fl i_G3 t_s175 (by decide +kernel)
        show xe (some (N, xs)) 231 466 [(0, .ref 2000), (1, .ref 0), (2, .ref 256), (3, vi x3)] [vi z174] s175 295 10442 _
        refine x_A k231_466 (fun _ => rfl) ?_
        refine x_A k231_467 (fun _ => rfl) ?_
        refine x_A k231_468 (fun _ => rfl) ?_
        refine x_A k231_469 (fun _ => rfl) ?_
        refine x_A k231_470 (fun _ => rfl) ?_
        refine x_iadd k231_471 ?_
        refine x_top (fun z178 e_z178 => ?_)
        refine x_scr k231_472 hN ⟨by omega, by omega⟩ (fun z179 g_z179 e_z179 => ?_)
        unfold in32 at g_z179
        have q_z179 : z179 = z169 := by rw [e_z179, e_z169, show z178 = z168 by omega]
        refine x_A k231_473 (fun _ => rfl) ?_
        refine x_A k231_474 (fun _ => rfl) ?_
        refine x_A k231_475 (fun _ => rfl) ?_
        refine x_iadd k231_476 ?_
        refine x_top (fun z180 e_z180 => ?_)
        refine x_scr k231_477 hN ⟨by omega, by omega⟩ (fun z181 g_z181 e_z181 => ?_)
        unfold in32 at g_z181
        have q_z181 : z181 = z171 := by rw [e_z181, e_z171, show z180 = z170 by omega]
        obtain ⟨z182, e_z182⟩ : ∃ z, z = s175 256 10 := ⟨_, rfl⟩
        have g_z182 : (0 : Int) ≤ s175 256 10 ∧ s175 256 10 ≤ 120 := hG_s175 256 10
        obtain ⟨z183, e_z183⟩ : ∃ z, z = s175 256 0 := ⟨_, rfl⟩
        have g_z183 : (0 : Int) ≤ s175 256 0 ∧ s175 256 0 ≤ 9 := hG_s175 256 0
        refine x_callV k231_478 (y := 157) (n := 2) (w0 := 0) (w1 := 2) (as := [vi z179, vi z181]) (rest := []) (by decide +kernel) (q := 256) (nq := 62) (kq := 15) ⟨by decide, rfl⟩ rfl rfl rfl rfl (xe_mono (E_X11_doubt_256 s175 hG_s175 z179 (by first | exact x_rbe e_z179 g_z179 rfl rfl | exact x_rb g_z179 rfl rfl | exact ⟨by omega, by omega⟩) z181 (by first | exact x_rbe e_z181 g_z181 rfl rfl | exact x_rb g_z181 rfl rfl | exact ⟨by omega, by omega⟩) ⟨by omega, by omega⟩ ⟨by omega, by omega⟩) ?_)
        rintro s185 v ⟨hG_s185, t_s185, z184, rfl, g_z184, xp_z184⟩
        have q186 : s185 50 6 = z172 := (t_s185 50 6 (show 711 ∉ [4928] from by decide +kernel)).trans q176
        have q187 : s185 0 10 = z173 := (t_s185 0 10 (show 11 ∉ [4928] from by decide +kernel)).trans q177
        have q188 : s185 256 10 = z182 := (t_s185 256 10 (show 4107 ∉ [4928] from by decide +kernel)).trans e_z182.symm
        have q189 : s185 256 0 = z183 := (t_s185 256 0 (show 4097 ∉ [4928] from by decide +kernel)).trans e_z183.symm
        have J_s185 : J s185 := J.fl J_s175 t_s185 (by decide +kernel)
        have TR_s185 : TR s185 := TR.fl TR_s175 (hG_s175 256 1).2 t_s185 (by decide)
        have X1_s185 : X1 s185 := X1.fl X1_s175 t_s185 (by decide +kernel)
        have R1_s185 : R1 s185 := R1.fl R1_s175 t_s185 (by decide +kernel)
        have G3_s185 : G3 s185 := G3.fl G3_s175 t_s185 (by decide +kernel)
        have VCj_s185 : VCj s185 := VCj.fl VCj_s175 hG_s175 t_s185 (by decide)
        have VCl_s185 : VCl s185 := VCl.fl VCl_s175 hG_s175 t_s185 (by decide)
        show xe (some (N, xs)) 231 481 [(0, .ref 2000), (1, .ref 0), (2, .ref 256), (3, vi x3)] [vi z184] s185 295 10442 _
        obtain ⟨ez_s185, G1_s185⟩ := G1.doubt i_G1 i_TR.1.1 hG t_s175 t_s185 (by decide) (by decide) xp_z174 (by rw [← q_z179, ← q_z181]; exact xp_z184)
        refine x_A k231_481 (fun _ => rfl) ?_
        refine x_goto k231_482 (t := 1300) rfl ?_
        refine x_iinc k231_1300 (ls' := [(3, vi (x3 + 7)), (0, .ref 2000), (1, .ref 0), (2, .ref 256)]) rfl (by decide) rfl ?_
        refine x_goto k231_1303 (t := 18) rfl ?_
        refine x_ls (l := [(0, .ref 2000), (1, .ref 0), (2, .ref 256), (3, vi (x3 + 7))]) (show ([0, 1, 2, 3] : List Nat).Nodup from by decide +kernel) ⟨rfl, rfl, rfl, rfl, trivial⟩ ?_
        exact ih s185 (x3 + 7) hG_s185 trivial ⟨by omega, by omega⟩ J_s185 TR_s185 X1_s185 R1_s185 G1_s185 G3_s185 VCj_s185 VCl_s185  (by omega)
      · rw [c5]
        refine x_B k231_33 rfl (fun _ => rfl) (fun _ => rfl) (fun _ _ => rfl) ?_
        show xe (some (N, xs)) 231 485 [(0, .ref 2000), (1, .ref 0), (2, .ref 256), (3, vi x3)] [] s 295 10442 _
        refine x_A k231_485 (fun _ => rfl) ?_
        refine x_A k231_486 (fun _ => rfl) ?_
        refine x_A k231_487 (fun _ => rfl) ?_
        refine x_A k231_488 (fun _ => rfl) ?_
        refine x_iadd k231_489 ?_
        refine x_top (fun z190 e_z190 => ?_)
        refine x_scr k231_490 hN ⟨by omega, by omega⟩ (fun z191 g_z191 e_z191 => ?_)
        unfold in32 at g_z191
        refine x_A k231_491 (fun _ => rfl) ?_
        refine x_A k231_492 (fun _ => rfl) ?_
        refine x_A k231_493 (fun _ => rfl) ?_
        refine x_iadd k231_494 ?_
        refine x_top (fun z192 e_z192 => ?_)
        refine x_scr k231_495 hN ⟨by omega, by omega⟩ (fun z193 g_z193 e_z193 => ?_)
        unfold in32 at g_z193
        obtain ⟨z194, e_z194⟩ : ∃ z, z = s 50 6 := ⟨_, rfl⟩
        have g_z194 : (0 : Int) ≤ s 50 6 ∧ s 50 6 ≤ 120 := hG 50 6
        obtain ⟨z195, e_z195⟩ : ∃ z, z = s 0 10 := ⟨_, rfl⟩
        have g_z195 : (0 : Int) ≤ s 0 10 ∧ s 0 10 ≤ 9 := hG 0 10
        refine x_callV k231_496 (y := 100) (n := 2) (w0 := 0) (w1 := 2) (as := [vi z191, vi z193]) (rest := []) (by decide +kernel) (q := 0) (nq := 12) (kq := 3) ⟨by decide, rfl⟩ rfl rfl rfl rfl (xe_mono (W_X10_told_0 s hG i_J z191 (by first | exact x_rbe e_z191 g_z191 rfl rfl | exact x_rb g_z191 rfl rfl | exact ⟨by omega, by omega⟩) z193 (by first | exact x_rbe e_z193 g_z193 rfl rfl | exact x_rb g_z193 rfl rfl | exact ⟨by omega, by omega⟩) ⟨by omega, by omega⟩ ⟨by omega, by omega⟩ i_R1 i_VCj i_VCl) ?_)
        rintro s197 v ⟨hG_s197, t_s197, z196, rfl, g_z196, xp_z196, VCj_s197, VCl_s197⟩
        have q198 : s197 50 6 = z194 := (t_s197 50 6 (show 711 ∉ [3329, 3334, 3335, 3336, 3392, 3456, 3520, 3584, 3276, 3648, 3712, 3776, 3840, 3904, 3968, 3277, 4032] from by decide +kernel)).trans e_z194.symm
        have q199 : s197 0 10 = z195 := (t_s197 0 10 (show 11 ∉ [3329, 3334, 3335, 3336, 3392, 3456, 3520, 3584, 3276, 3648, 3712, 3776, 3840, 3904, 3968, 3277, 4032] from by decide +kernel)).trans e_z195.symm
        have J_s197 : J s197 := J.fl i_J t_s197 (by decide +kernel)
        have TR_s197 : TR s197 := TR.fl i_TR (hG 256 1).2 t_s197 (by decide)
        have X1_s197 : X1 s197 := X1.fl i_X1 t_s197 (by decide +kernel)
        have R1_s197 : R1 s197 := R1.fl i_R1 t_s197 (by decide +kernel)
        have G1_s197 : G1 s197 := G1.fl i_G1 t_s197 (by decide +kernel)
        have G3_s197 : G3 s197 := G3.fl i_G3 t_s197 (by decide +kernel)
        show xe (some (N, xs)) 231 499 [(0, .ref 2000), (1, .ref 0), (2, .ref 256), (3, vi x3)] [vi z196] s197 295 10442 _
        refine x_A k231_499 (fun _ => rfl) ?_
        refine x_A k231_500 (fun _ => rfl) ?_
        refine x_A k231_501 (fun _ => rfl) ?_
        refine x_A k231_502 (fun _ => rfl) ?_
        refine x_A k231_503 (fun _ => rfl) ?_
        refine x_iadd k231_504 ?_
        refine x_top (fun z200 e_z200 => ?_)
        refine x_scr k231_505 hN ⟨by omega, by omega⟩ (fun z201 g_z201 e_z201 => ?_)
        unfold in32 at g_z201
        have q_z201 : z201 = z191 := by rw [e_z201, e_z191, show z200 = z190 by omega]
        refine x_A k231_506 (fun _ => rfl) ?_
        refine x_A k231_507 (fun _ => rfl) ?_
        refine x_A k231_508 (fun _ => rfl) ?_
        refine x_iadd k231_509 ?_
        refine x_top (fun z202 e_z202 => ?_)
        refine x_scr k231_510 hN ⟨by omega, by omega⟩ (fun z203 g_z203 e_z203 => ?_)
        unfold in32 at g_z203
        have q_z203 : z203 = z193 := by rw [e_z203, e_z193, show z202 = z192 by omega]
        refine x_callV k231_511 (y := 158) (n := 2) (w0 := 0) (w1 := 2) (as := [vi z201, vi z203]) (rest := []) (by decide +kernel) (q := 256) (nq := 62) (kq := 15) ⟨by decide, rfl⟩ rfl rfl rfl rfl (xe_mono (E_X11_told_256 s197 hG_s197 J_s197 z201 (by first | exact x_rbe e_z201 g_z201 rfl rfl | exact x_rb g_z201 rfl rfl | exact ⟨by omega, by omega⟩) z203 (by first | exact x_rbe e_z203 g_z203 rfl rfl | exact x_rb g_z203 rfl rfl | exact ⟨by omega, by omega⟩) R1_s197 TR_s197 G1_s197 G3_s197) ?_)
        rintro s205 v ⟨hG_s205, t_s205, z204, rfl, g_z204, xp_z204⟩
        have q206 : s205 50 6 = z194 := (t_s205 50 6 (show 711 ∉ [5312, 5376, 4123, 5440, 5504, 5568] from by decide +kernel)).trans q198
        have q207 : s205 0 10 = z195 := (t_s205 0 10 (show 11 ∉ [5312, 5376, 4123, 5440, 5504, 5568] from by decide +kernel)).trans q199
        have J_s205 : J s205 := J.fl J_s197 t_s205 (by decide +kernel)
        have TR_s205 : TR s205 := TR.fl TR_s197 (hG_s197 256 1).2 t_s205 (by decide)
        have X1_s205 : X1 s205 := X1.fl X1_s197 t_s205 (by decide +kernel)
        have R1_s205 : R1 s205 := R1.fl R1_s197 t_s205 (by decide +kernel)
        have G1_s205 : G1 s205 := G1.fl G1_s197 t_s205 (by decide +kernel)
        have G3_s205 : G3 s205 := G3.fl G3_s197 t_s205 (by decide +kernel)
        have VCj_s205 : VCj s205 := VCj.fl VCj_s197 hG_s197 t_s205 (by decide)
        have VCl_s205 : VCl s205 := VCl.fl VCl_s197 hG_s197 t_s205 (by decide)
        show xe (some (N, xs)) 231 514 [(0, .ref 2000), (1, .ref 0), (2, .ref 256), (3, vi x3)] [vi z204] s205 295 10442 _
        refine x_A k231_514 (fun _ => rfl) ?_
        refine x_goto k231_515 (t := 1300) rfl ?_
        refine x_iinc k231_1300 (ls' := [(3, vi (x3 + 7)), (0, .ref 2000), (1, .ref 0), (2, .ref 256)]) rfl (by decide) rfl ?_
        refine x_goto k231_1303 (t := 18) rfl ?_
        refine x_ls (l := [(0, .ref 2000), (1, .ref 0), (2, .ref 256), (3, vi (x3 + 7))]) (show ([0, 1, 2, 3] : List Nat).Nodup from by decide +kernel) ⟨rfl, rfl, rfl, rfl, trivial⟩ ?_
        exact ih s205 (x3 + 7) hG_s205 trivial ⟨by omega, by omega⟩ J_s205 TR_s205 X1_s205 R1_s205 G1_s205 G3_s205 VCj_s205 VCl_s205  (by omega)
      · rw [c5]
        refine x_B k231_33 rfl (fun _ => rfl) (fun _ => rfl) (fun _ _ => rfl) ?_
        show xe (some (N, xs)) 231 518 [(0, .ref 2000), (1, .ref 0), (2, .ref 256), (3, vi x3)] [] s 295 10442 _
        refine x_A k231_518 (fun _ => rfl) ?_
        refine x_A k231_519 (fun _ => rfl) ?_
        refine x_A k231_520 (fun _ => rfl) ?_
        refine x_A k231_521 (fun _ => rfl) ?_
        refine x_iadd k231_522 ?_
        refine x_top (fun z208 e_z208 => ?_)
        refine x_scr k231_523 hN ⟨by omega, by omega⟩ (fun z209 g_z209 e_z209 => ?_)
        unfold in32 at g_z209
        refine x_A k231_524 (fun _ => rfl) ?_
        refine x_A k231_525 (fun _ => rfl) ?_
        refine x_A k231_526 (fun _ => rfl) ?_
        refine x_iadd k231_527 ?_
        refine x_top (fun z210 e_z210 => ?_)
        refine x_scr k231_528 hN ⟨by omega, by omega⟩ (fun z211 g_z211 e_z211 => ?_)
        unfold in32 at g_z211
        refine x_A k231_529 (fun _ => rfl) ?_
        refine x_A k231_530 (fun _ => rfl) ?_
        refine x_A k231_531 (fun _ => rfl) ?_
        refine x_iadd k231_532 ?_
        refine x_top (fun z212 e_z212 => ?_)
        refine x_scr k231_533 hN ⟨by omega, by omega⟩ (fun z213 g_z213 e_z213 => ?_)
        unfold in32 at g_z213
        refine x_callV k231_534 (y := 101) (n := 3) (w0 := 0) (w1 := 3) (as := [vi z209, vi z211, vi z213]) (rest := []) (by decide +kernel) (q := 0) (nq := 12) (kq := 3) ⟨by decide, rfl⟩ rfl rfl rfl rfl (xe_mono (V_X10_means_0 s hG i_J z209 (by first | exact x_rbe e_z209 g_z209 rfl rfl | exact x_rb g_z209 rfl rfl | exact ⟨by omega, by omega⟩) z211 (by first | exact x_rbe e_z211 g_z211 rfl rfl | exact x_rb g_z211 rfl rfl | exact ⟨by omega, by omega⟩) z213 (by first | exact x_rbe e_z213 g_z213 rfl rfl | exact x_rb g_z213 rfl rfl | exact ⟨by omega, by omega⟩) i_R1 i_VCj i_VCl) ?_)
        rintro s215 v ⟨hG_s215, t_s215, z214, rfl, g_z214, VCj_s215, VCl_s215⟩
        have J_s215 : J s215 := J.fl i_J t_s215 (by decide +kernel)
        have TR_s215 : TR s215 := TR.fl i_TR (hG 256 1).2 t_s215 (by decide)
        have X1_s215 : X1 s215 := X1.fl i_X1 t_s215 (by decide +kernel)
        have R1_s215 : R1 s215 := R1.fl i_R1 t_s215 (by decide +kernel)
        have G1_s215 : G1 s215 := G1.fl i_G1 t_s215 (by decide +kernel)
        have G3_s215 : G3 s215 := G3.fl i_G3 t_s215 (by decide +kernel)
        show xe (some (N, xs)) 231 537 [(0, .ref 2000), (1, .ref 0), (2, .ref 256), (3, vi x3)] [vi z214] s215 295 10442 _
        refine x_A k231_537 (fun _ => rfl) ?_
        refine x_A k231_538 (fun _ => rfl) ?_
        refine x_A k231_539 (fun _ => rfl) ?_
        refine x_A k231_540 (fun _ => rfl) ?_
        refine x_A k231_541 (fun _ => rfl) ?_
        refine x_iadd k231_542 ?_
        refine x_top (fun z216 e_z216 => ?_)
        refine x_scr k231_543 hN ⟨by omega, by omega⟩ (fun z217 g_z217 e_z217 => ?_)
        unfold in32 at g_z217
        have q_z217 : z217 = z209 := by rw [e_z217, e_z209, show z216 = z208 by omega]
        refine x_A k231_544 (fun _ => rfl) ?_
        refine x_A k231_545 (fun _ => rfl) ?_
        refine x_A k231_546 (fun _ => rfl) ?_
        refine x_iadd k231_547 ?_
        refine x_top (fun z218 e_z218 => ?_)
        refine x_scr k231_548 hN ⟨by omega, by omega⟩ (fun z219 g_z219 e_z219 => ?_)
        unfold in32 at g_z219
        have q_z219 : z219 = z211 := by rw [e_z219, e_z211, show z218 = z210 by omega]
        refine x_A k231_549 (fun _ => rfl) ?_
        refine x_A k231_550 (fun _ => rfl) ?_
        refine x_A k231_551 (fun _ => rfl) ?_
        refine x_iadd k231_552 ?_
        refine x_top (fun z220 e_z220 => ?_)
        refine x_scr k231_553 hN ⟨by omega, by omega⟩ (fun z221 g_z221 e_z221 => ?_)
        unfold in32 at g_z221
        have q_z221 : z221 = z213 := by rw [e_z221, e_z213, show z220 = z212 by omega]
        refine x_callV k231_554 (y := 172) (n := 3) (w0 := 0) (w1 := 3) (as := [vi z217, vi z219, vi z221]) (rest := []) (by decide +kernel) (q := 256) (nq := 62) (kq := 15) ⟨by decide, rfl⟩ rfl rfl rfl rfl (xe_mono (C_X11_means_256 s215 hG_s215 J_s215 z217 (by first | exact x_rbe e_z217 g_z217 rfl rfl | exact x_rb g_z217 rfl rfl | exact ⟨by omega, by omega⟩) z219 (by first | exact x_rbe e_z219 g_z219 rfl rfl | exact x_rb g_z219 rfl rfl | exact ⟨by omega, by omega⟩) z221 (by first | exact x_rbe e_z221 g_z221 rfl rfl | exact x_rb g_z221 rfl rfl | exact ⟨by omega, by omega⟩)) ?_)
        rintro s223 v ⟨hG_s223, t_s223, z222, rfl, g_z222⟩
        have J_s223 : J s223 := J.fl J_s215 t_s223 (by decide +kernel)
        have TR_s223 : TR s223 := TR.fl TR_s215 (hG_s215 256 1).2 t_s223 (by decide)
        have X1_s223 : X1 s223 := X1.fl X1_s215 t_s223 (by decide +kernel)
        have R1_s223 : R1 s223 := R1.fl R1_s215 t_s223 (by decide +kernel)
        have G1_s223 : G1 s223 := G1.fl G1_s215 t_s223 (by decide +kernel)
        have G3_s223 : G3 s223 := G3.fl G3_s215 t_s223 (by decide +kernel)
        have VCj_s223 : VCj s223 := VCj.fl VCj_s215 hG_s215 t_s223 (by decide)
        have VCl_s223 : VCl s223 := VCl.fl VCl_s215 hG_s215 t_s223 (by decide)
        show xe (some (N, xs)) 231 557 [(0, .ref 2000), (1, .ref 0), (2, .ref 256), (3, vi x3)] [vi z222] s223 295 10442 _
        refine x_A k231_557 (fun _ => rfl) ?_
        refine x_goto k231_558 (t := 1300) rfl ?_
        refine x_iinc k231_1300 (ls' := [(3, vi (x3 + 7)), (0, .ref 2000), (1, .ref 0), (2, .ref 256)]) rfl (by decide) rfl ?_
        refine x_goto k231_1303 (t := 18) rfl ?_
        refine x_ls (l := [(0, .ref 2000), (1, .ref 0), (2, .ref 256), (3, vi (x3 + 7))]) (show ([0, 1, 2, 3] : List Nat).Nodup from by decide +kernel) ⟨rfl, rfl, rfl, rfl, trivial⟩ ?_
        exact ih s223 (x3 + 7) hG_s223 trivial ⟨by omega, by omega⟩ J_s223 TR_s223 X1_s223 R1_s223 G1_s223 G3_s223 VCj_s223 VCl_s223  (by omega)
      · rw [c5]
        refine x_B k231_33 rfl (fun _ => rfl) (fun _ => rfl) (fun _ _ => rfl) ?_
        show xe (some (N, xs)) 231 561 [(0, .ref 2000), (1, .ref 0), (2, .ref 256), (3, vi x3)] [] s 295 10442 _
        refine x_A k231_561 (fun _ => rfl) ?_
        refine x_A k231_562 (fun _ => rfl) ?_
        refine x_A k231_563 (fun _ => rfl) ?_
        refine x_A k231_564 (fun _ => rfl) ?_
        refine x_iadd k231_565 ?_
        refine x_top (fun z224 e_z224 => ?_)
        refine x_scr k231_566 hN ⟨by omega, by omega⟩ (fun z225 g_z225 e_z225 => ?_)
        unfold in32 at g_z225
        refine x_A k231_567 (fun _ => rfl) ?_
        refine x_A k231_568 (fun _ => rfl) ?_
        refine x_A k231_569 (fun _ => rfl) ?_
        refine x_iadd k231_570 ?_
        refine x_top (fun z226 e_z226 => ?_)
        refine x_scr k231_571 hN ⟨by omega, by omega⟩ (fun z227 g_z227 e_z227 => ?_)
        unfold in32 at g_z227
        refine x_A k231_572 (fun _ => rfl) ?_
        refine x_A k231_573 (fun _ => rfl) ?_
        refine x_A k231_574 (fun _ => rfl) ?_
        refine x_iadd k231_575 ?_
        refine x_top (fun z228 e_z228 => ?_)
        refine x_scr k231_576 hN ⟨by omega, by omega⟩ (fun z229 g_z229 e_z229 => ?_)
        unfold in32 at g_z229
        obtain ⟨z230, e_z230⟩ : ∃ z, z = s 46 3 := ⟨_, rfl⟩
        have g_z230 : (0 : Int) ≤ s 46 3 ∧ s 46 3 ≤ 40 := hG 46 3
        obtain ⟨z231, e_z231⟩ : ∃ z, z = s 1 4 := ⟨_, rfl⟩
        have g_z231 : (1 : Int) ≤ s 1 4 ∧ s 1 4 ≤ 40 := hG 1 4
        obtain ⟨z232, e_z232⟩ : ∃ z, z = s 0 10 := ⟨_, rfl⟩
        have g_z232 : (0 : Int) ≤ s 0 10 ∧ s 0 10 ≤ 9 := hG 0 10
        obtain ⟨z233, e_z233⟩ : ∃ z, z = s 50 6 := ⟨_, rfl⟩
        have g_z233 : (0 : Int) ≤ s 50 6 ∧ s 50 6 ≤ 120 := hG 50 6
        refine x_callV k231_577 (y := 102) (n := 3) (w0 := 0) (w1 := 3) (as := [vi z225, vi z227, vi z229]) (rest := []) (by decide +kernel) (q := 0) (nq := 12) (kq := 3) ⟨by decide, rfl⟩ rfl rfl rfl rfl (xe_mono (W_X10_led_0 s hG i_J z225 (by first | exact x_rbe e_z225 g_z225 rfl rfl | exact x_rb g_z225 rfl rfl | exact ⟨by omega, by omega⟩) z227 (by first | exact x_rbe e_z227 g_z227 rfl rfl | exact x_rb g_z227 rfl rfl | exact ⟨by omega, by omega⟩) z229 (by first | exact x_rbe e_z229 g_z229 rfl rfl | exact x_rb g_z229 rfl rfl | exact ⟨by omega, by omega⟩) ⟨by omega, by omega⟩ ⟨by omega, by omega⟩ ⟨by omega, by omega⟩ ⟨by omega, by omega⟩ i_R1 i_VCj i_VCl) ?_)
        rintro s235 v ⟨hG_s235, t_s235, z234, rfl, g_z234, xp_z234, VCj_s235, VCl_s235⟩
        have q236 : s235 46 3 = z230 := (t_s235 46 3 (show 452 ∉ [3329, 3334, 3335, 3336, 3392, 3456, 3520, 3584, 3276, 3648, 3712, 3776, 3840, 3904, 3968, 3277, 4032] from by decide +kernel)).trans e_z230.symm
        have q237 : s235 1 4 = z231 := (t_s235 1 4 (show 69 ∉ [3329, 3334, 3335, 3336, 3392, 3456, 3520, 3584, 3276, 3648, 3712, 3776, 3840, 3904, 3968, 3277, 4032] from by decide +kernel)).trans e_z231.symm
        have q238 : s235 0 10 = z232 := (t_s235 0 10 (show 11 ∉ [3329, 3334, 3335, 3336, 3392, 3456, 3520, 3584, 3276, 3648, 3712, 3776, 3840, 3904, 3968, 3277, 4032] from by decide +kernel)).trans e_z232.symm
        have q239 : s235 50 6 = z233 := (t_s235 50 6 (show 711 ∉ [3329, 3334, 3335, 3336, 3392, 3456, 3520, 3584, 3276, 3648, 3712, 3776, 3840, 3904, 3968, 3277, 4032] from by decide +kernel)).trans e_z233.symm
        have J_s235 : J s235 := J.fl i_J t_s235 (by decide +kernel)
        have TR_s235 : TR s235 := TR.fl i_TR (hG 256 1).2 t_s235 (by decide)
        have X1_s235 : X1 s235 := X1.fl i_X1 t_s235 (by decide +kernel)
        have R1_s235 : R1 s235 := R1.fl i_R1 t_s235 (by decide +kernel)
        have G1_s235 : G1 s235 := G1.fl i_G1 t_s235 (by decide +kernel)
        have G3_s235 : G3 s235 := G3.fl i_G3 t_s235 (by decide +kernel)
        show xe (some (N, xs)) 231 580 [(0, .ref 2000), (1, .ref 0), (2, .ref 256), (3, vi x3)] [vi z234] s235 295 10442 _
        refine x_A k231_580 (fun _ => rfl) ?_
        refine x_A k231_581 (fun _ => rfl) ?_
        refine x_A k231_582 (fun _ => rfl) ?_
        refine x_A k231_583 (fun _ => rfl) ?_
        refine x_iadd k231_584 ?_
        refine x_top (fun z240 e_z240 => ?_)
        refine x_scr k231_585 hN ⟨by omega, by omega⟩ (fun z241 g_z241 e_z241 => ?_)
        unfold in32 at g_z241
        have q_z241 : z241 = z225 := by rw [e_z241, e_z225, show z240 = z224 by omega]
        refine x_A k231_586 (fun _ => rfl) ?_
        refine x_A k231_587 (fun _ => rfl) ?_
        refine x_A k231_588 (fun _ => rfl) ?_
        refine x_iadd k231_589 ?_
        refine x_top (fun z242 e_z242 => ?_)
        refine x_scr k231_590 hN ⟨by omega, by omega⟩ (fun z243 g_z243 e_z243 => ?_)
        unfold in32 at g_z243
        have q_z243 : z243 = z227 := by rw [e_z243, e_z227, show z242 = z226 by omega]
        refine x_A k231_591 (fun _ => rfl) ?_
        refine x_A k231_592 (fun _ => rfl) ?_
        refine x_A k231_593 (fun _ => rfl) ?_
        refine x_iadd k231_594 ?_
        refine x_top (fun z244 e_z244 => ?_)
        refine x_scr k231_595 hN ⟨by omega, by omega⟩ (fun z245 g_z245 e_z245 => ?_)
        unfold in32 at g_z245
        have q_z245 : z245 = z229 := by rw [e_z245, e_z229, show z244 = z228 by omega]
        obtain ⟨z246, e_z246⟩ : ∃ z, z = s235 256 6 := ⟨_, rfl⟩
        have g_z246 : (0 : Int) ≤ s235 256 6 ∧ s235 256 6 ≤ 40 := hG_s235 256 6
        obtain ⟨z247, e_z247⟩ : ∃ z, z = s235 256 1 := ⟨_, rfl⟩
        have g_z247 : (1 : Int) ≤ s235 256 1 ∧ s235 256 1 ≤ 40 := hG_s235 256 1
        obtain ⟨z248, e_z248⟩ : ∃ z, z = s235 256 0 := ⟨_, rfl⟩
        have g_z248 : (0 : Int) ≤ s235 256 0 ∧ s235 256 0 ≤ 9 := hG_s235 256 0
        obtain ⟨z249, e_z249⟩ : ∃ z, z = s235 256 10 := ⟨_, rfl⟩
        have g_z249 : (0 : Int) ≤ s235 256 10 ∧ s235 256 10 ≤ 120 := hG_s235 256 10
        refine x_callV k231_596 (y := 173) (n := 3) (w0 := 1) (w1 := 3) (as := [vi z241, vi z243, vi z245]) (rest := [vi z234]) (by decide +kernel) (q := 256) (nq := 62) (kq := 15) ⟨by decide, rfl⟩ rfl rfl rfl rfl (xe_mono (W_X11_led_256 s235 hG_s235 J_s235 z241 (by first | exact x_rbe e_z241 g_z241 rfl rfl | exact x_rb g_z241 rfl rfl | exact ⟨by omega, by omega⟩) z243 (by first | exact x_rbe e_z243 g_z243 rfl rfl | exact x_rb g_z243 rfl rfl | exact ⟨by omega, by omega⟩) z245 (by first | exact x_rbe e_z245 g_z245 rfl rfl | exact x_rb g_z245 rfl rfl | exact ⟨by omega, by omega⟩) ⟨by omega, by omega⟩ ⟨by omega, by omega⟩ ⟨by omega, by omega⟩ ⟨by omega, by omega⟩ R1_s235 TR_s235 G1_s235 G3_s235) ?_)
        rintro s251 v ⟨hG_s251, t_s251, z250, rfl, g_z250, xp_z250⟩
        have q252 : s251 46 3 = z230 := (t_s251 46 3 (show 452 ∉ [5312, 5376, 4123, 5440, 5504, 5568, 5632, 5696, 5760] from by decide +kernel)).trans q236
        have q253 : s251 1 4 = z231 := (t_s251 1 4 (show 69 ∉ [5312, 5376, 4123, 5440, 5504, 5568, 5632, 5696, 5760] from by decide +kernel)).trans q237
        have q254 : s251 0 10 = z232 := (t_s251 0 10 (show 11 ∉ [5312, 5376, 4123, 5440, 5504, 5568, 5632, 5696, 5760] from by decide +kernel)).trans q238
        have q255 : s251 50 6 = z233 := (t_s251 50 6 (show 711 ∉ [5312, 5376, 4123, 5440, 5504, 5568, 5632, 5696, 5760] from by decide +kernel)).trans q239
        have q256 : s251 256 6 = z246 := (t_s251 256 6 (show 4103 ∉ [5312, 5376, 4123, 5440, 5504, 5568, 5632, 5696, 5760] from by decide +kernel)).trans e_z246.symm
        have q257 : s251 256 1 = z247 := (t_s251 256 1 (show 4098 ∉ [5312, 5376, 4123, 5440, 5504, 5568, 5632, 5696, 5760] from by decide +kernel)).trans e_z247.symm
        have q258 : s251 256 0 = z248 := (t_s251 256 0 (show 4097 ∉ [5312, 5376, 4123, 5440, 5504, 5568, 5632, 5696, 5760] from by decide +kernel)).trans e_z248.symm
        have q259 : s251 256 10 = z249 := (t_s251 256 10 (show 4107 ∉ [5312, 5376, 4123, 5440, 5504, 5568, 5632, 5696, 5760] from by decide +kernel)).trans e_z249.symm
        have J_s251 : J s251 := J.fl J_s235 t_s251 (by decide +kernel)
        have TR_s251 : TR s251 := TR.fl TR_s235 (hG_s235 256 1).2 t_s251 (by decide)
        have X1_s251 : X1 s251 := X1.fl X1_s235 t_s251 (by decide +kernel)
        have R1_s251 : R1 s251 := R1.fl R1_s235 t_s251 (by decide +kernel)
        have G1_s251 : G1 s251 := G1.fl G1_s235 t_s251 (by decide +kernel)
        have G3_s251 : G3 s251 := G3.fl G3_s235 t_s251 (by decide +kernel)
        have VCj_s251 : VCj s251 := VCj.fl VCj_s235 hG_s235 t_s251 (by decide)
        have VCl_s251 : VCl s251 := VCl.fl VCl_s235 hG_s235 t_s251 (by decide)
        show xe (some (N, xs)) 231 599 [(0, .ref 2000), (1, .ref 0), (2, .ref 256), (3, vi x3)] [vi z250, vi z234] s251 295 10442 _
        have ez_s251 := LdS.u xp_z234 (LdS.fl (by rw [← q_z241, ← q_z243, ← q_z245]; exact xp_z250) hG t_s235 (by decide))
        refine x_ic_eq k231_599 (t := 1300) rfl (by first | exact x_rbe e_z234 g_z234 rfl rfl | exact x_rb g_z234 rfl rfl | exact ⟨by omega, by omega⟩) (by first | exact x_rbe e_z250 g_z250 rfl rfl | exact x_rb g_z250 rfl rfl | exact ⟨by omega, by omega⟩) (fun c260 => ?_) (fun c260 => ?_)
        · skip
          refine x_iinc k231_1300 (ls' := [(3, vi (x3 + 7)), (0, .ref 2000), (1, .ref 0), (2, .ref 256)]) rfl (by decide) rfl ?_
          refine x_goto k231_1303 (t := 18) rfl ?_
          refine x_ls (l := [(0, .ref 2000), (1, .ref 0), (2, .ref 256), (3, vi (x3 + 7))]) (show ([0, 1, 2, 3] : List Nat).Nodup from by decide +kernel) ⟨rfl, rfl, rfl, rfl, trivial⟩ ?_
          exact ih s251 (x3 + 7) hG_s251 trivial ⟨by omega, by omega⟩ J_s251 TR_s251 X1_s251 R1_s251 G1_s251 G3_s251 VCj_s251 VCl_s251  (by omega)
        · skip
          refine x_A k231_602 (fun _ => rfl) ?_
          exfalso; omega
      · rw [c5]
        refine x_B k231_33 rfl (fun _ => rfl) (fun _ => rfl) (fun _ _ => rfl) ?_
        show xe (some (N, xs)) 231 604 [(0, .ref 2000), (1, .ref 0), (2, .ref 256), (3, vi x3)] [] s 295 10442 _
        refine x_A k231_604 (fun _ => rfl) ?_
        refine x_A k231_605 (fun _ => rfl) ?_
        refine x_A k231_606 (fun _ => rfl) ?_
        refine x_A k231_607 (fun _ => rfl) ?_
        refine x_iadd k231_608 ?_
        refine x_top (fun z261 e_z261 => ?_)
        refine x_scr k231_609 hN ⟨by omega, by omega⟩ (fun z262 g_z262 e_z262 => ?_)
        unfold in32 at g_z262
        refine x_callV k231_610 (y := 103) (n := 1) (w0 := 0) (w1 := 1) (as := [vi z262]) (rest := []) (by decide +kernel) (q := 0) (nq := 12) (kq := 3) ⟨by decide, rfl⟩ rfl rfl rfl rfl (xe_mono (V_X10_count_0 s hG i_J z262 (by first | exact x_rbe e_z262 g_z262 rfl rfl | exact x_rb g_z262 rfl rfl | exact ⟨by omega, by omega⟩) i_R1 i_VCj i_VCl) ?_)
        rintro s264 v ⟨hG_s264, t_s264, z263, rfl, g_z263, VCj_s264, VCl_s264⟩
        have J_s264 : J s264 := J.fl i_J t_s264 (by decide +kernel)
        have TR_s264 : TR s264 := TR.fl i_TR (hG 256 1).2 t_s264 (by decide)
        have X1_s264 : X1 s264 := X1.fl i_X1 t_s264 (by decide +kernel)
        have R1_s264 : R1 s264 := R1.fl i_R1 t_s264 (by decide +kernel)
        have G1_s264 : G1 s264 := G1.fl i_G1 t_s264 (by decide +kernel)
        have G3_s264 : G3 s264 := G3.fl i_G3 t_s264 (by decide +kernel)
        show xe (some (N, xs)) 231 613 [(0, .ref 2000), (1, .ref 0), (2, .ref 256), (3, vi x3)] [vi z263] s264 295 10442 _
        refine x_A k231_613 (fun _ => rfl) ?_
        refine x_A k231_614 (fun _ => rfl) ?_
        refine x_A k231_615 (fun _ => rfl) ?_
        refine x_A k231_616 (fun _ => rfl) ?_
        refine x_A k231_617 (fun _ => rfl) ?_
        refine x_iadd k231_618 ?_
        refine x_top (fun z265 e_z265 => ?_)
        refine x_scr k231_619 hN ⟨by omega, by omega⟩ (fun z266 g_z266 e_z266 => ?_)
        unfold in32 at g_z266
        have q_z266 : z266 = z262 := by rw [e_z266, e_z262, show z265 = z261 by omega]
        refine x_callV k231_620 (y := 174) (n := 1) (w0 := 0) (w1 := 1) (as := [vi z266]) (rest := []) (by decide +kernel) (q := 256) (nq := 62) (kq := 15) ⟨by decide, rfl⟩ rfl rfl rfl rfl (xe_mono (C_X11_count_256 s264 hG_s264 J_s264 z266 (by first | exact x_rbe e_z266 g_z266 rfl rfl | exact x_rb g_z266 rfl rfl | exact ⟨by omega, by omega⟩)) ?_)
        rintro s268 v ⟨hG_s268, t_s268, z267, rfl, g_z267⟩
        have J_s268 : J s268 := J.fl J_s264 t_s268 (by decide +kernel)
        have TR_s268 : TR s268 := TR.fl TR_s264 (hG_s264 256 1).2 t_s268 (by decide)
        have X1_s268 : X1 s268 := X1.fl X1_s264 t_s268 (by decide +kernel)
        have R1_s268 : R1 s268 := R1.fl R1_s264 t_s268 (by decide +kernel)
        have G1_s268 : G1 s268 := G1.fl G1_s264 t_s268 (by decide +kernel)
        have G3_s268 : G3 s268 := G3.fl G3_s264 t_s268 (by decide +kernel)
        have VCj_s268 : VCj s268 := VCj.fl VCj_s264 hG_s264 t_s268 (by decide)
        have VCl_s268 : VCl s268 := VCl.fl VCl_s264 hG_s264 t_s268 (by decide)
        show xe (some (N, xs)) 231 623 [(0, .ref 2000), (1, .ref 0), (2, .ref 256), (3, vi x3)] [vi z267] s268 295 10442 _
        refine x_A k231_623 (fun _ => rfl) ?_
        refine x_goto k231_624 (t := 1300) rfl ?_
        refine x_iinc k231_1300 (ls' := [(3, vi (x3 + 7)), (0, .ref 2000), (1, .ref 0), (2, .ref 256)]) rfl (by decide) rfl ?_
        refine x_goto k231_1303 (t := 18) rfl ?_
        refine x_ls (l := [(0, .ref 2000), (1, .ref 0), (2, .ref 256), (3, vi (x3 + 7))]) (show ([0, 1, 2, 3] : List Nat).Nodup from by decide +kernel) ⟨rfl, rfl, rfl, rfl, trivial⟩ ?_
        exact ih s268 (x3 + 7) hG_s268 trivial ⟨by omega, by omega⟩ J_s268 TR_s268 X1_s268 R1_s268 G1_s268 G3_s268 VCj_s268 VCl_s268  (by omega)
      · rw [c5]
        refine x_B k231_33 rfl (fun _ => rfl) (fun _ => rfl) (fun _ _ => rfl) ?_
        show xe (some (N, xs)) 231 627 [(0, .ref 2000), (1, .ref 0), (2, .ref 256), (3, vi x3)] [] s 295 10442 _
        refine x_A k231_627 (fun _ => rfl) ?_
        refine x_A k231_628 (fun _ => rfl) ?_
        refine x_A k231_629 (fun _ => rfl) ?_
        refine x_A k231_630 (fun _ => rfl) ?_
        refine x_iadd k231_631 ?_
        refine x_top (fun z269 e_z269 => ?_)
        refine x_scr k231_632 hN ⟨by omega, by omega⟩ (fun z270 g_z270 e_z270 => ?_)
        unfold in32 at g_z270
        refine x_A k231_633 (fun _ => rfl) ?_
        refine x_A k231_634 (fun _ => rfl) ?_
        refine x_A k231_635 (fun _ => rfl) ?_
        refine x_iadd k231_636 ?_
        refine x_top (fun z271 e_z271 => ?_)
        refine x_scr k231_637 hN ⟨by omega, by omega⟩ (fun z272 g_z272 e_z272 => ?_)
        unfold in32 at g_z272
        refine x_i2l k231_638 (by first | exact x_rbe e_z272 g_z272 rfl rfl | exact x_rb g_z272 rfl rfl | exact ⟨by omega, by omega⟩) ?_
        refine x_bipush k231_639 (by decide +kernel) ?_
        refine x_lshl_f k231_641 (fun z273 b_z273 e_z273 => ?_)
        refine x_A k231_642 (fun _ => rfl) ?_
        refine x_A k231_643 (fun _ => rfl) ?_
        refine x_A k231_644 (fun _ => rfl) ?_
        refine x_iadd k231_645 ?_
        refine x_top (fun z274 e_z274 => ?_)
        refine x_scr k231_646 hN ⟨by omega, by omega⟩ (fun z275 g_z275 e_z275 => ?_)
        unfold in32 at g_z275
        refine x_i2l k231_647 (by first | exact x_rbe e_z275 g_z275 rfl rfl | exact x_rb g_z275 rfl rfl | exact ⟨by omega, by omega⟩) ?_
        refine x_ldc2 k231_648 (z := 4294967295) rfl (by decide +kernel) ?_
        refine x_land_f k231_651 (fun z276 b_z276 e_z276 => ?_)
        refine x_lor_f k231_652 (fun z277 b_z277 e_z277 => ?_)
        refine x_callV k231_653 (y := 104) (n := 2) (w0 := 0) (w1 := 3) (as := [vi z270, vj z277]) (rest := []) (by decide +kernel) (q := 0) (nq := 12) (kq := 3) ⟨by decide, rfl⟩ rfl rfl rfl rfl (xe_mono (E_X10_feed_0 s hG z270 (by first | exact x_rbe e_z270 g_z270 rfl rfl | exact x_rb g_z270 rfl rfl | exact ⟨by omega, by omega⟩) z277 b_z277) ?_)
        rintro s279 v ⟨hG_s279, t_s279, z278, rfl, g_z278, xp_z278⟩
        have J_s279 : J s279 := J.fl i_J t_s279 (by decide +kernel)
        have TR_s279 : TR s279 := TR.fl i_TR (hG 256 1).2 t_s279 (by decide)
        have R1_s279 : R1 s279 := R1.fl i_R1 t_s279 (by decide +kernel)
        have G1_s279 : G1 s279 := G1.fl i_G1 t_s279 (by decide +kernel)
        have G3_s279 : G3 s279 := G3.fl i_G3 t_s279 (by decide +kernel)
        have VCj_s279 : VCj s279 := VCj.fl i_VCj hG t_s279 (by decide)
        have VCl_s279 : VCl s279 := VCl.fl i_VCl hG t_s279 (by decide)
        obtain ⟨z280, e_z280⟩ : ∃ z, z = s279 177 1 := ⟨_, rfl⟩
        have g_z280 : (0 : Int) ≤ s279 177 1 ∧ s279 177 1 ≤ 160 := hG_s279 177 1
        show xe (some (N, xs)) 231 656 [(0, .ref 2000), (1, .ref 0), (2, .ref 256), (3, vi x3)] [vi z278] s279 295 10442 _
        refine x_A k231_656 (fun _ => rfl) ?_
        refine x_A k231_657 (fun _ => rfl) ?_
        refine x_A k231_658 (fun _ => rfl) ?_
        refine x_A k231_659 (fun _ => rfl) ?_
        refine x_A k231_660 (fun _ => rfl) ?_
        refine x_iadd k231_661 ?_
        refine x_top (fun z281 e_z281 => ?_)
        refine x_scr k231_662 hN ⟨by omega, by omega⟩ (fun z282 g_z282 e_z282 => ?_)
        unfold in32 at g_z282
        have q_z282 : z282 = z270 := by rw [e_z282, e_z270, show z281 = z269 by omega]
        refine x_A k231_663 (fun _ => rfl) ?_
        refine x_A k231_664 (fun _ => rfl) ?_
        refine x_A k231_665 (fun _ => rfl) ?_
        refine x_iadd k231_666 ?_
        refine x_top (fun z283 e_z283 => ?_)
        refine x_scr k231_667 hN ⟨by omega, by omega⟩ (fun z284 g_z284 e_z284 => ?_)
        unfold in32 at g_z284
        have q_z284 : z284 = z272 := by rw [e_z284, e_z272, show z283 = z271 by omega]
        refine x_i2l k231_668 (by first | exact x_rbe e_z284 g_z284 rfl rfl | exact x_rb g_z284 rfl rfl | exact ⟨by omega, by omega⟩) ?_
        refine x_bipush k231_669 (by decide +kernel) ?_
        refine x_lshl_f k231_671 (fun z285 b_z285 e_z285 => ?_)
        refine x_A k231_672 (fun _ => rfl) ?_
        refine x_A k231_673 (fun _ => rfl) ?_
        refine x_A k231_674 (fun _ => rfl) ?_
        refine x_iadd k231_675 ?_
        refine x_top (fun z286 e_z286 => ?_)
        refine x_scr k231_676 hN ⟨by omega, by omega⟩ (fun z287 g_z287 e_z287 => ?_)
        unfold in32 at g_z287
        have q_z287 : z287 = z275 := by rw [e_z287, e_z275, show z286 = z274 by omega]
        refine x_i2l k231_677 (by first | exact x_rbe e_z287 g_z287 rfl rfl | exact x_rb g_z287 rfl rfl | exact ⟨by omega, by omega⟩) ?_
        refine x_ldc2 k231_678 (z := 4294967295) rfl (by decide +kernel) ?_
        refine x_land_f k231_681 (fun z288 b_z288 e_z288 => ?_)
        refine x_lor_f k231_682 (fun z289 b_z289 e_z289 => ?_)
        refine x_callV k231_683 (y := 175) (n := 2) (w0 := 0) (w1 := 3) (as := [vi z282, vj z289]) (rest := []) (by decide +kernel) (q := 256) (nq := 62) (kq := 15) ⟨by decide, rfl⟩ rfl rfl rfl rfl (xe_mono (E_X11_feed_256 s279 hG_s279 z282 (by first | exact x_rbe e_z282 g_z282 rfl rfl | exact x_rb g_z282 rfl rfl | exact ⟨by omega, by omega⟩) z289 b_z289) ?_)
        rintro s291 v ⟨hG_s291, t_s291, z290, rfl, g_z290, xp_z290⟩
        have q292 : s291 177 1 = z280 := (t_s291 177 1 (show 1218 ∉ [4131, 5824] from by decide +kernel)).trans e_z280.symm
        have J_s291 : J s291 := J.fl J_s279 t_s291 (by decide +kernel)
        have TR_s291 : TR s291 := TR.fl TR_s279 (hG_s279 256 1).2 t_s291 (by decide)
        have R1_s291 : R1 s291 := R1.fl R1_s279 t_s291 (by decide +kernel)
        have G1_s291 : G1 s291 := G1.fl G1_s279 t_s291 (by decide +kernel)
        have G3_s291 : G3 s291 := G3.fl G3_s279 t_s291 (by decide +kernel)
        have VCj_s291 : VCj s291 := VCj.fl VCj_s279 hG_s279 t_s291 (by decide)
        have VCl_s291 : VCl s291 := VCl.fl VCl_s279 hG_s279 t_s291 (by decide)
        obtain ⟨z293, e_z293⟩ : ∃ z, z = s291 256 34 := ⟨_, rfl⟩
        have g_z293 : (0 : Int) ≤ s291 256 34 ∧ s291 256 34 ≤ 160 := hG_s291 256 34
        show xe (some (N, xs)) 231 686 [(0, .ref 2000), (1, .ref 0), (2, .ref 256), (3, vi x3)] [vi z290] s291 295 10442 _
        have q_z289 : z289 = z277 := by rw [e_z289, e_z277, e_z285, e_z273, e_z288, e_z276, q_z284, q_z287]
        obtain ⟨ez_s291, X1_s291⟩ := X1.feed i_X1 t_s279 t_s291 (by decide) (by decide) xp_z278 (by rw [← q_z282, ← q_z289]; exact xp_z290)
        refine x_A k231_686 (fun _ => rfl) ?_
        refine x_goto k231_687 (t := 1300) rfl ?_
        refine x_iinc k231_1300 (ls' := [(3, vi (x3 + 7)), (0, .ref 2000), (1, .ref 0), (2, .ref 256)]) rfl (by decide) rfl ?_
        refine x_goto k231_1303 (t := 18) rfl ?_
        refine x_ls (l := [(0, .ref 2000), (1, .ref 0), (2, .ref 256), (3, vi (x3 + 7))]) (show ([0, 1, 2, 3] : List Nat).Nodup from by decide +kernel) ⟨rfl, rfl, rfl, rfl, trivial⟩ ?_
        exact ih s291 (x3 + 7) hG_s291 trivial ⟨by omega, by omega⟩ J_s291 TR_s291 X1_s291 R1_s291 G1_s291 G3_s291 VCj_s291 VCl_s291  (by omega)
      · rw [c5]
        refine x_B k231_33 rfl (fun _ => rfl) (fun _ => rfl) (fun _ _ => rfl) ?_
        show xe (some (N, xs)) 231 690 [(0, .ref 2000), (1, .ref 0), (2, .ref 256), (3, vi x3)] [] s 295 10442 _
        refine x_A k231_690 (fun _ => rfl) ?_
        refine x_A k231_691 (fun _ => rfl) ?_
        refine x_A k231_692 (fun _ => rfl) ?_
        refine x_A k231_693 (fun _ => rfl) ?_
        refine x_iadd k231_694 ?_
        refine x_top (fun z294 e_z294 => ?_)
        refine x_scr k231_695 hN ⟨by omega, by omega⟩ (fun z295 g_z295 e_z295 => ?_)
        unfold in32 at g_z295
        refine x_callV k231_696 (y := 105) (n := 1) (w0 := 0) (w1 := 1) (as := [vi z295]) (rest := []) (by decide +kernel) (q := 0) (nq := 12) (kq := 3) ⟨by decide, rfl⟩ rfl rfl rfl rfl (xe_mono (V_X10_rule_0 s hG z295 (by first | exact x_rbe e_z295 g_z295 rfl rfl | exact x_rb g_z295 rfl rfl | exact ⟨by omega, by omega⟩) i_J i_VCj i_VCl) ?_)
        rintro s297 v ⟨hG_s297, t_s297, z296, rfl, g_z296, xp_z296, J_s297, VCj_s297, VCl_s297⟩
        have TR_s297 : TR s297 := TR.fl i_TR (hG 256 1).2 t_s297 (by decide)
        have G1_s297 : G1 s297 := G1.fl i_G1 t_s297 (by decide +kernel)
        have G3_s297 : G3 s297 := G3.fl i_G3 t_s297 (by decide +kernel)
        obtain ⟨z298, e_z298⟩ : ∃ z, z = s297 177 1 := ⟨_, rfl⟩
        have g_z298 : (0 : Int) ≤ s297 177 1 ∧ s297 177 1 ≤ 160 := hG_s297 177 1
        obtain ⟨z299, e_z299⟩ : ∃ z, z = s297 177 5 := ⟨_, rfl⟩
        have g_z299 : (0 : Int) ≤ s297 177 5 ∧ s297 177 5 ≤ 5 := hG_s297 177 5
        obtain ⟨z300, e_z300⟩ : ∃ z, z = s297 177 6 := ⟨_, rfl⟩
        have g_z300 : (-2147483648) ≤ s297 177 6 ∧ s297 177 6 ≤ 2147483647 := hG_s297 177 6
        obtain ⟨z301, e_z301⟩ : ∃ z, z = s297 0 11 := ⟨_, rfl⟩
        have g_z301 : (-2147483648) ≤ s297 0 11 ∧ s297 0 11 ≤ 2147483647 := hG_s297 0 11
        show xe (some (N, xs)) 231 699 [(0, .ref 2000), (1, .ref 0), (2, .ref 256), (3, vi x3)] [vi z296] s297 295 10442 _
        refine x_A k231_699 (fun _ => rfl) ?_
        refine x_A k231_700 (fun _ => rfl) ?_
        refine x_A k231_701 (fun _ => rfl) ?_
        refine x_A k231_702 (fun _ => rfl) ?_
        refine x_A k231_703 (fun _ => rfl) ?_
        refine x_iadd k231_704 ?_
        refine x_top (fun z302 e_z302 => ?_)
        refine x_scr k231_705 hN ⟨by omega, by omega⟩ (fun z303 g_z303 e_z303 => ?_)
        unfold in32 at g_z303
        have q_z303 : z303 = z295 := by rw [e_z303, e_z295, show z302 = z294 by omega]
        obtain ⟨z304, e_z304⟩ : ∃ z, z = s297 256 20 := ⟨_, rfl⟩
        have g_z304 : (0 : Int) ≤ s297 256 20 ∧ s297 256 20 ≤ 64 := hG_s297 256 20
        obtain ⟨z305, e_z305⟩ : ∃ z, z = s297 256 17 := ⟨_, rfl⟩
        have g_z305 : (0 : Int) ≤ s297 256 17 ∧ s297 256 17 ≤ 8 := hG_s297 256 17
        refine x_callV k231_706 (y := 187) (n := 1) (w0 := 0) (w1 := 1) (as := [vi z303]) (rest := []) (by decide +kernel) (q := 256) (nq := 62) (kq := 15) ⟨by decide, rfl⟩ rfl rfl rfl rfl (xe_mono (E_X11_rule_256 s297 hG_s297 z303 (by first | exact x_rbe e_z303 g_z303 rfl rfl | exact x_rb g_z303 rfl rfl | exact ⟨by omega, by omega⟩) ⟨by omega, by omega⟩ ⟨by omega, by omega⟩ J_s297) ?_)
        rintro s307 v ⟨hG_s307, t_s307, z306, rfl, g_z306, xp_z306, J_s307⟩
        have q308 : s307 177 1 = z298 := (t_s307 177 1 (show 1218 ∉ [4133, 4136, 4132, 4134, 4135, 5120, 5184, 5248, 4131, 4992, 5056, 4117, 4114] from by decide +kernel)).trans e_z298.symm
        have q309 : s307 177 5 = z299 := (t_s307 177 5 (show 1222 ∉ [4133, 4136, 4132, 4134, 4135, 5120, 5184, 5248, 4131, 4992, 5056, 4117, 4114] from by decide +kernel)).trans e_z299.symm
        have q310 : s307 177 6 = z300 := (t_s307 177 6 (show 1223 ∉ [4133, 4136, 4132, 4134, 4135, 5120, 5184, 5248, 4131, 4992, 5056, 4117, 4114] from by decide +kernel)).trans e_z300.symm
        have q311 : s307 0 11 = z301 := (t_s307 0 11 (show 12 ∉ [4133, 4136, 4132, 4134, 4135, 5120, 5184, 5248, 4131, 4992, 5056, 4117, 4114] from by decide +kernel)).trans e_z301.symm
        have TR_s307 : TR s307 := TR.fl TR_s297 (hG_s297 256 1).2 t_s307 (by decide)
        have G1_s307 : G1 s307 := G1.fl G1_s297 t_s307 (by decide +kernel)
        have G3_s307 : G3 s307 := G3.fl G3_s297 t_s307 (by decide +kernel)
        have VCj_s307 : VCj s307 := VCj.fl VCj_s297 hG_s297 t_s307 (by decide)
        have VCl_s307 : VCl s307 := VCl.fl VCl_s297 hG_s297 t_s307 (by decide)
        obtain ⟨z312, e_z312⟩ : ∃ z, z = s307 256 35 := ⟨_, rfl⟩
        have g_z312 : (-2147483648) ≤ s307 256 35 ∧ s307 256 35 ≤ 2147483647 := hG_s307 256 35
        obtain ⟨z313, e_z313⟩ : ∃ z, z = s307 256 34 := ⟨_, rfl⟩
        have g_z313 : (0 : Int) ≤ s307 256 34 ∧ s307 256 34 ≤ 160 := hG_s307 256 34
        obtain ⟨z314, e_z314⟩ : ∃ z, z = s307 256 17 := ⟨_, rfl⟩
        have g_z314 : (0 : Int) ≤ s307 256 17 ∧ s307 256 17 ≤ 8 := hG_s307 256 17
        obtain ⟨z315, e_z315⟩ : ∃ z, z = s307 256 20 := ⟨_, rfl⟩
        have g_z315 : (0 : Int) ≤ s307 256 20 ∧ s307 256 20 ≤ 64 := hG_s307 256 20
        show xe (some (N, xs)) 231 709 [(0, .ref 2000), (1, .ref 0), (2, .ref 256), (3, vi x3)] [vi z306] s307 295 10442 _
        have R1_s307 := R1.rule i_R1 i_X1 i_J hG t_s297 t_s307 (by decide) (by decide) xp_z296 (by rw [← q_z303]; exact xp_z306)
        obtain ⟨ez_s307, X1_s307⟩ := X1.rule i_X1 hG t_s297 t_s307 (by decide) (by decide) xp_z296 (by rw [← q_z303]; exact xp_z306)
        refine x_A k231_709 (fun _ => rfl) ?_
        refine x_goto k231_710 (t := 1300) rfl ?_
        refine x_iinc k231_1300 (ls' := [(3, vi (x3 + 7)), (0, .ref 2000), (1, .ref 0), (2, .ref 256)]) rfl (by decide) rfl ?_
        refine x_goto k231_1303 (t := 18) rfl ?_
        refine x_ls (l := [(0, .ref 2000), (1, .ref 0), (2, .ref 256), (3, vi (x3 + 7))]) (show ([0, 1, 2, 3] : List Nat).Nodup from by decide +kernel) ⟨rfl, rfl, rfl, rfl, trivial⟩ ?_
        exact ih s307 (x3 + 7) hG_s307 trivial ⟨by omega, by omega⟩ J_s307 TR_s307 X1_s307 R1_s307 G1_s307 G3_s307 VCj_s307 VCl_s307  (by omega)
      · rw [c5]
        refine x_B k231_33 rfl (fun _ => rfl) (fun _ => rfl) (fun _ _ => rfl) ?_
        show xe (some (N, xs)) 231 713 [(0, .ref 2000), (1, .ref 0), (2, .ref 256), (3, vi x3)] [] s 295 10442 _
        refine x_A k231_713 (fun _ => rfl) ?_
        refine x_callV k231_714 (y := 106) (n := 0) (w0 := 0) (w1 := 0) (as := []) (rest := []) (by decide +kernel) (q := 0) (nq := 12) (kq := 3) ⟨by decide, rfl⟩ rfl rfl rfl rfl (xe_mono (E_X10_fault_0 s hG) ?_)
        rintro s317 v ⟨-, t_s317, z316, rfl, g_z316, xp_z316⟩
        rw [t_s317.nil]
        try rw [t_s317.nil] at xp_z316
        show xe (some (N, xs)) 231 717 [(0, .ref 2000), (1, .ref 0), (2, .ref 256), (3, vi x3)] [vi z316] s 295 10442 _
        refine x_A k231_717 (fun _ => rfl) ?_
        refine x_A k231_718 (fun _ => rfl) ?_
        refine x_callV k231_719 (y := 188) (n := 0) (w0 := 0) (w1 := 0) (as := []) (rest := []) (by decide +kernel) (q := 256) (nq := 62) (kq := 15) ⟨by decide, rfl⟩ rfl rfl rfl rfl (xe_mono (E_X11_fault_256 s hG) ?_)
        rintro s319 v ⟨-, t_s319, z318, rfl, g_z318, xp_z318⟩
        rw [t_s319.nil]
        try rw [t_s319.nil] at xp_z318
        show xe (some (N, xs)) 231 722 [(0, .ref 2000), (1, .ref 0), (2, .ref 256), (3, vi x3)] [vi z318] s 295 10442 _
        refine x_A k231_722 (fun _ => rfl) ?_
        refine x_goto k231_723 (t := 1300) rfl ?_
        refine x_iinc k231_1300 (ls' := [(3, vi (x3 + 7)), (0, .ref 2000), (1, .ref 0), (2, .ref 256)]) rfl (by decide) rfl ?_
        refine x_goto k231_1303 (t := 18) rfl ?_
        refine x_ls (l := [(0, .ref 2000), (1, .ref 0), (2, .ref 256), (3, vi (x3 + 7))]) (show ([0, 1, 2, 3] : List Nat).Nodup from by decide +kernel) ⟨rfl, rfl, rfl, rfl, trivial⟩ ?_
        exact ih s (x3 + 7) hG f ⟨by omega, by omega⟩ i_J i_TR i_X1 i_R1 i_G1 i_G3 i_VCj i_VCl  (by omega)
      · rw [c5]
        refine x_B k231_33 rfl (fun _ => rfl) (fun _ => rfl) (fun _ _ => rfl) ?_
        show xe (some (N, xs)) 231 726 [(0, .ref 2000), (1, .ref 0), (2, .ref 256), (3, vi x3)] [] s 295 10442 _
        refine x_A k231_726 (fun _ => rfl) ?_
        refine x_A k231_727 (fun _ => rfl) ?_
        refine x_A k231_728 (fun _ => rfl) ?_
        refine x_A k231_729 (fun _ => rfl) ?_
        refine x_iadd k231_730 ?_
        refine x_top (fun z320 e_z320 => ?_)
        refine x_scr k231_731 hN ⟨by omega, by omega⟩ (fun z321 g_z321 e_z321 => ?_)
        unfold in32 at g_z321
        refine x_A k231_732 (fun _ => rfl) ?_
        refine x_A k231_733 (fun _ => rfl) ?_
        refine x_A k231_734 (fun _ => rfl) ?_
        refine x_iadd k231_735 ?_
        refine x_top (fun z322 e_z322 => ?_)
        refine x_scr k231_736 hN ⟨by omega, by omega⟩ (fun z323 g_z323 e_z323 => ?_)
        unfold in32 at g_z323
        refine x_callV k231_737 (y := 107) (n := 2) (w0 := 0) (w1 := 2) (as := [vi z321, vi z323]) (rest := []) (by decide +kernel) (q := 0) (nq := 12) (kq := 3) ⟨by decide, rfl⟩ rfl rfl rfl rfl (xe_mono (E_X10_force_0 s hG i_J z321 (by first | exact x_rbe e_z321 g_z321 rfl rfl | exact x_rb g_z321 rfl rfl | exact ⟨by omega, by omega⟩) z323 (by first | exact x_rbe e_z323 g_z323 rfl rfl | exact x_rb g_z323 rfl rfl | exact ⟨by omega, by omega⟩) i_R1) ?_)
        rintro s325 v ⟨hG_s325, t_s325, z324, rfl, g_z324, xp_z324⟩
        have J_s325 : J s325 := J.fl i_J t_s325 (by decide +kernel)
        have TR_s325 : TR s325 := TR.fl i_TR (hG 256 1).2 t_s325 (by decide)
        have X1_s325 : X1 s325 := X1.fl i_X1 t_s325 (by decide +kernel)
        have R1_s325 : R1 s325 := R1.fl i_R1 t_s325 (by decide +kernel)
        have G1_s325 : G1 s325 := G1.fl i_G1 t_s325 (by decide +kernel)
        have G3_s325 : G3 s325 := G3.fl i_G3 t_s325 (by decide +kernel)
        have VCj_s325 : VCj s325 := VCj.fl i_VCj hG t_s325 (by decide)
        have VCl_s325 : VCl s325 := VCl.fl i_VCl hG t_s325 (by decide)
        show xe (some (N, xs)) 231 740 [(0, .ref 2000), (1, .ref 0), (2, .ref 256), (3, vi x3)] [vi z324] s325 295 10442 _
        refine x_A k231_740 (fun _ => rfl) ?_
        refine x_A k231_741 (fun _ => rfl) ?_
        refine x_A k231_742 (fun _ => rfl) ?_
        refine x_A k231_743 (fun _ => rfl) ?_
        refine x_A k231_744 (fun _ => rfl) ?_
        refine x_iadd k231_745 ?_
        refine x_top (fun z326 e_z326 => ?_)
        refine x_scr k231_746 hN ⟨by omega, by omega⟩ (fun z327 g_z327 e_z327 => ?_)
        unfold in32 at g_z327
        have q_z327 : z327 = z321 := by rw [e_z327, e_z321, show z326 = z320 by omega]
        refine x_A k231_747 (fun _ => rfl) ?_
        refine x_A k231_748 (fun _ => rfl) ?_
        refine x_A k231_749 (fun _ => rfl) ?_
        refine x_iadd k231_750 ?_
        refine x_top (fun z328 e_z328 => ?_)
        refine x_scr k231_751 hN ⟨by omega, by omega⟩ (fun z329 g_z329 e_z329 => ?_)
        unfold in32 at g_z329
        have q_z329 : z329 = z323 := by rw [e_z329, e_z323, show z328 = z322 by omega]
        refine x_callV k231_752 (y := 189) (n := 2) (w0 := 0) (w1 := 2) (as := [vi z327, vi z329]) (rest := []) (by decide +kernel) (q := 256) (nq := 62) (kq := 15) ⟨by decide, rfl⟩ rfl rfl rfl rfl (xe_mono (E_X11_force_256 s325 hG_s325 J_s325 z327 (by first | exact x_rbe e_z327 g_z327 rfl rfl | exact x_rb g_z327 rfl rfl | exact ⟨by omega, by omega⟩) z329 (by first | exact x_rbe e_z329 g_z329 rfl rfl | exact x_rb g_z329 rfl rfl | exact ⟨by omega, by omega⟩) R1_s325) ?_)
        rintro s331 v ⟨hG_s331, t_s331, z330, rfl, g_z330, xp_z330⟩
        have J_s331 : J s331 := J.fl J_s325 t_s331 (by decide +kernel)
        have TR_s331 : TR s331 := TR.fl TR_s325 (hG_s325 256 1).2 t_s331 (by decide)
        have X1_s331 : X1 s331 := X1.fl X1_s325 t_s331 (by decide +kernel)
        have R1_s331 : R1 s331 := R1.fl R1_s325 t_s331 (by decide +kernel)
        have G1_s331 : G1 s331 := G1.fl G1_s325 t_s331 (by decide +kernel)
        have G3_s331 : G3 s331 := G3.fl G3_s325 t_s331 (by decide +kernel)
        have VCj_s331 : VCj s331 := VCj.fl VCj_s325 hG_s325 t_s331 (by decide)
        have VCl_s331 : VCl s331 := VCl.fl VCl_s325 hG_s325 t_s331 (by decide)
        show xe (some (N, xs)) 231 755 [(0, .ref 2000), (1, .ref 0), (2, .ref 256), (3, vi x3)] [vi z330] s331 295 10442 _
        refine x_A k231_755 (fun _ => rfl) ?_
        refine x_goto k231_756 (t := 1300) rfl ?_
        refine x_iinc k231_1300 (ls' := [(3, vi (x3 + 7)), (0, .ref 2000), (1, .ref 0), (2, .ref 256)]) rfl (by decide) rfl ?_
        refine x_goto k231_1303 (t := 18) rfl ?_
        refine x_ls (l := [(0, .ref 2000), (1, .ref 0), (2, .ref 256), (3, vi (x3 + 7))]) (show ([0, 1, 2, 3] : List Nat).Nodup from by decide +kernel) ⟨rfl, rfl, rfl, rfl, trivial⟩ ?_
        exact ih s331 (x3 + 7) hG_s331 trivial ⟨by omega, by omega⟩ J_s331 TR_s331 X1_s331 R1_s331 G1_s331 G3_s331 VCj_s331 VCl_s331  (by omega)
      · rw [c5]
        refine x_B k231_33 rfl (fun _ => rfl) (fun _ => rfl) (fun _ _ => rfl) ?_
        show xe (some (N, xs)) 231 759 [(0, .ref 2000), (1, .ref 0), (2, .ref 256), (3, vi x3)] [] s 295 10442 _
        refine x_A k231_759 (fun _ => rfl) ?_
        refine x_A k231_760 (fun _ => rfl) ?_
        refine x_A k231_761 (fun _ => rfl) ?_
        refine x_A k231_762 (fun _ => rfl) ?_
        refine x_iadd k231_763 ?_
        refine x_top (fun z332 e_z332 => ?_)
        refine x_scr k231_764 hN ⟨by omega, by omega⟩ (fun z333 g_z333 e_z333 => ?_)
        unfold in32 at g_z333
        refine x_A k231_765 (fun _ => rfl) ?_
        refine x_A k231_766 (fun _ => rfl) ?_
        refine x_A k231_767 (fun _ => rfl) ?_
        refine x_iadd k231_768 ?_
        refine x_top (fun z334 e_z334 => ?_)
        refine x_scr k231_769 hN ⟨by omega, by omega⟩ (fun z335 g_z335 e_z335 => ?_)
        unfold in32 at g_z335
        refine x_A k231_770 (fun _ => rfl) ?_
        refine x_A k231_771 (fun _ => rfl) ?_
        refine x_A k231_772 (fun _ => rfl) ?_
        refine x_iadd k231_773 ?_
        refine x_top (fun z336 e_z336 => ?_)
        refine x_scr k231_774 hN ⟨by omega, by omega⟩ (fun z337 g_z337 e_z337 => ?_)
        unfold in32 at g_z337
        refine x_callV k231_775 (y := 108) (n := 3) (w0 := 0) (w1 := 3) (as := [vi z333, vi z335, vi z337]) (rest := []) (by decide +kernel) (q := 0) (nq := 12) (kq := 3) ⟨by decide, rfl⟩ rfl rfl rfl rfl (xe_mono (C_X10_word_0 s hG z333 (by first | exact x_rbe e_z333 g_z333 rfl rfl | exact x_rb g_z333 rfl rfl | exact ⟨by omega, by omega⟩) z335 (by first | exact x_rbe e_z335 g_z335 rfl rfl | exact x_rb g_z335 rfl rfl | exact ⟨by omega, by omega⟩) z337 (by first | exact x_rbe e_z337 g_z337 rfl rfl | exact x_rb g_z337 rfl rfl | exact ⟨by omega, by omega⟩)) ?_)
        rintro s339 v ⟨hG_s339, t_s339, z338, rfl, g_z338⟩
        have J_s339 : J s339 := J.fl i_J t_s339 (by decide +kernel)
        have TR_s339 : TR s339 := TR.fl i_TR (hG 256 1).2 t_s339 (by decide)
        have X1_s339 : X1 s339 := X1.fl i_X1 t_s339 (by decide +kernel)
        have R1_s339 : R1 s339 := R1.fl i_R1 t_s339 (by decide +kernel)
        have G1_s339 : G1 s339 := G1.fl i_G1 t_s339 (by decide +kernel)
        have G3_s339 : G3 s339 := G3.fl i_G3 t_s339 (by decide +kernel)
        have VCj_s339 : VCj s339 := VCj.fl i_VCj hG t_s339 (by decide)
        have VCl_s339 : VCl s339 := VCl.fl i_VCl hG t_s339 (by decide)
        show xe (some (N, xs)) 231 778 [(0, .ref 2000), (1, .ref 0), (2, .ref 256), (3, vi x3)] [vi z338] s339 295 10442 _
        refine x_A k231_778 (fun _ => rfl) ?_
        refine x_A k231_779 (fun _ => rfl) ?_
        refine x_A k231_780 (fun _ => rfl) ?_
        refine x_A k231_781 (fun _ => rfl) ?_
        refine x_A k231_782 (fun _ => rfl) ?_
        refine x_iadd k231_783 ?_
        refine x_top (fun z340 e_z340 => ?_)
        refine x_scr k231_784 hN ⟨by omega, by omega⟩ (fun z341 g_z341 e_z341 => ?_)
        unfold in32 at g_z341
        have q_z341 : z341 = z333 := by rw [e_z341, e_z333, show z340 = z332 by omega]
        refine x_A k231_785 (fun _ => rfl) ?_
        refine x_A k231_786 (fun _ => rfl) ?_
        refine x_A k231_787 (fun _ => rfl) ?_
        refine x_iadd k231_788 ?_
        refine x_top (fun z342 e_z342 => ?_)
        refine x_scr k231_789 hN ⟨by omega, by omega⟩ (fun z343 g_z343 e_z343 => ?_)
        unfold in32 at g_z343
        have q_z343 : z343 = z335 := by rw [e_z343, e_z335, show z342 = z334 by omega]
        refine x_A k231_790 (fun _ => rfl) ?_
        refine x_A k231_791 (fun _ => rfl) ?_
        refine x_A k231_792 (fun _ => rfl) ?_
        refine x_iadd k231_793 ?_
        refine x_top (fun z344 e_z344 => ?_)
        refine x_scr k231_794 hN ⟨by omega, by omega⟩ (fun z345 g_z345 e_z345 => ?_)
        unfold in32 at g_z345
        have q_z345 : z345 = z337 := by rw [e_z345, e_z337, show z344 = z336 by omega]
        refine x_callV k231_795 (y := 192) (n := 3) (w0 := 0) (w1 := 3) (as := [vi z341, vi z343, vi z345]) (rest := []) (by decide +kernel) (q := 256) (nq := 62) (kq := 15) ⟨by decide, rfl⟩ rfl rfl rfl rfl (xe_mono (C_X11_word_256 s339 hG_s339 z341 (by first | exact x_rbe e_z341 g_z341 rfl rfl | exact x_rb g_z341 rfl rfl | exact ⟨by omega, by omega⟩) z343 (by first | exact x_rbe e_z343 g_z343 rfl rfl | exact x_rb g_z343 rfl rfl | exact ⟨by omega, by omega⟩) z345 (by first | exact x_rbe e_z345 g_z345 rfl rfl | exact x_rb g_z345 rfl rfl | exact ⟨by omega, by omega⟩)) ?_)
        rintro s347 v ⟨hG_s347, t_s347, z346, rfl, g_z346⟩
        have J_s347 : J s347 := J.fl J_s339 t_s347 (by decide +kernel)
        have TR_s347 : TR s347 := TR.fl TR_s339 (hG_s339 256 1).2 t_s347 (by decide)
        have X1_s347 : X1 s347 := X1.fl X1_s339 t_s347 (by decide +kernel)
        have R1_s347 : R1 s347 := R1.fl R1_s339 t_s347 (by decide +kernel)
        have G1_s347 : G1 s347 := G1.fl G1_s339 t_s347 (by decide +kernel)
        have G3_s347 : G3 s347 := G3.fl G3_s339 t_s347 (by decide +kernel)
        have VCj_s347 : VCj s347 := VCj.fl VCj_s339 hG_s339 t_s347 (by decide)
        have VCl_s347 : VCl s347 := VCl.fl VCl_s339 hG_s339 t_s347 (by decide)
        show xe (some (N, xs)) 231 798 [(0, .ref 2000), (1, .ref 0), (2, .ref 256), (3, vi x3)] [vi z346] s347 295 10442 _
        refine x_A k231_798 (fun _ => rfl) ?_
        refine x_goto k231_799 (t := 1300) rfl ?_
        refine x_iinc k231_1300 (ls' := [(3, vi (x3 + 7)), (0, .ref 2000), (1, .ref 0), (2, .ref 256)]) rfl (by decide) rfl ?_
        refine x_goto k231_1303 (t := 18) rfl ?_
        refine x_ls (l := [(0, .ref 2000), (1, .ref 0), (2, .ref 256), (3, vi (x3 + 7))]) (show ([0, 1, 2, 3] : List Nat).Nodup from by decide +kernel) ⟨rfl, rfl, rfl, rfl, trivial⟩ ?_
        exact ih s347 (x3 + 7) hG_s347 trivial ⟨by omega, by omega⟩ J_s347 TR_s347 X1_s347 R1_s347 G1_s347 G3_s347 VCj_s347 VCl_s347  (by omega)
      · rw [c5]
        refine x_B k231_33 rfl (fun _ => rfl) (fun _ => rfl) (fun _ _ => rfl) ?_
        show xe (some (N, xs)) 231 802 [(0, .ref 2000), (1, .ref 0), (2, .ref 256), (3, vi x3)] [] s 295 10442 _
        refine x_A k231_802 (fun _ => rfl) ?_
        refine x_A k231_803 (fun _ => rfl) ?_
        refine x_A k231_804 (fun _ => rfl) ?_
        refine x_A k231_805 (fun _ => rfl) ?_
        refine x_iadd k231_806 ?_
        refine x_top (fun z348 e_z348 => ?_)
        refine x_scr k231_807 hN ⟨by omega, by omega⟩ (fun z349 g_z349 e_z349 => ?_)
        unfold in32 at g_z349
        refine x_A k231_808 (fun _ => rfl) ?_
        refine x_A k231_809 (fun _ => rfl) ?_
        refine x_A k231_810 (fun _ => rfl) ?_
        refine x_iadd k231_811 ?_
        refine x_top (fun z350 e_z350 => ?_)
        refine x_scr k231_812 hN ⟨by omega, by omega⟩ (fun z351 g_z351 e_z351 => ?_)
        unfold in32 at g_z351
        refine x_callV k231_813 (y := 109) (n := 2) (w0 := 0) (w1 := 2) (as := [vi z349, vi z351]) (rest := []) (by decide +kernel) (q := 0) (nq := 12) (kq := 3) ⟨by decide, rfl⟩ rfl rfl rfl rfl (xe_mono (C_X10_leads_0 s hG z349 (by first | exact x_rbe e_z349 g_z349 rfl rfl | exact x_rb g_z349 rfl rfl | exact ⟨by omega, by omega⟩) z351 (by first | exact x_rbe e_z351 g_z351 rfl rfl | exact x_rb g_z351 rfl rfl | exact ⟨by omega, by omega⟩)) ?_)
        rintro s353 v ⟨-, t_s353, z352, rfl, g_z352⟩
        rw [t_s353.nil]
        show xe (some (N, xs)) 231 816 [(0, .ref 2000), (1, .ref 0), (2, .ref 256), (3, vi x3)] [vi z352] s 295 10442 _
        refine x_A k231_816 (fun _ => rfl) ?_
        refine x_A k231_817 (fun _ => rfl) ?_
        refine x_A k231_818 (fun _ => rfl) ?_
        refine x_A k231_819 (fun _ => rfl) ?_
        refine x_A k231_820 (fun _ => rfl) ?_
        refine x_iadd k231_821 ?_
        refine x_top (fun z354 e_z354 => ?_)
        refine x_scr k231_822 hN ⟨by omega, by omega⟩ (fun z355 g_z355 e_z355 => ?_)
        unfold in32 at g_z355
        have q_z355 : z355 = z349 := by rw [e_z355, e_z349, show z354 = z348 by omega]
        refine x_A k231_823 (fun _ => rfl) ?_
        refine x_A k231_824 (fun _ => rfl) ?_
        refine x_A k231_825 (fun _ => rfl) ?_
        refine x_iadd k231_826 ?_
        refine x_top (fun z356 e_z356 => ?_)
        refine x_scr k231_827 hN ⟨by omega, by omega⟩ (fun z357 g_z357 e_z357 => ?_)
        unfold in32 at g_z357
        have q_z357 : z357 = z351 := by rw [e_z357, e_z351, show z356 = z350 by omega]
        refine x_callV k231_828 (y := 193) (n := 2) (w0 := 0) (w1 := 2) (as := [vi z355, vi z357]) (rest := []) (by decide +kernel) (q := 256) (nq := 62) (kq := 15) ⟨by decide, rfl⟩ rfl rfl rfl rfl (xe_mono (C_X11_leads_256 s hG z355 (by first | exact x_rbe e_z355 g_z355 rfl rfl | exact x_rb g_z355 rfl rfl | exact ⟨by omega, by omega⟩) z357 (by first | exact x_rbe e_z357 g_z357 rfl rfl | exact x_rb g_z357 rfl rfl | exact ⟨by omega, by omega⟩)) ?_)
        rintro s359 v ⟨-, t_s359, z358, rfl, g_z358⟩
        rw [t_s359.nil]
        show xe (some (N, xs)) 231 831 [(0, .ref 2000), (1, .ref 0), (2, .ref 256), (3, vi x3)] [vi z358] s 295 10442 _
        refine x_A k231_831 (fun _ => rfl) ?_
        refine x_goto k231_832 (t := 1300) rfl ?_
        refine x_iinc k231_1300 (ls' := [(3, vi (x3 + 7)), (0, .ref 2000), (1, .ref 0), (2, .ref 256)]) rfl (by decide) rfl ?_
        refine x_goto k231_1303 (t := 18) rfl ?_
        refine x_ls (l := [(0, .ref 2000), (1, .ref 0), (2, .ref 256), (3, vi (x3 + 7))]) (show ([0, 1, 2, 3] : List Nat).Nodup from by decide +kernel) ⟨rfl, rfl, rfl, rfl, trivial⟩ ?_
        exact ih s (x3 + 7) hG f ⟨by omega, by omega⟩ i_J i_TR i_X1 i_R1 i_G1 i_G3 i_VCj i_VCl  (by omega)
      · rw [c5]
        refine x_B k231_33 rfl (fun _ => rfl) (fun _ => rfl) (fun _ _ => rfl) ?_
        show xe (some (N, xs)) 231 835 [(0, .ref 2000), (1, .ref 0), (2, .ref 256), (3, vi x3)] [] s 295 10442 _
        refine x_A k231_835 (fun _ => rfl) ?_
        refine x_callV k231_836 (y := 110) (n := 0) (w0 := 0) (w1 := 0) (as := []) (rest := []) (by decide +kernel) (q := 0) (nq := 12) (kq := 3) ⟨by decide, rfl⟩ rfl rfl rfl rfl (xe_mono (E_X10_ask_0 s hG) ?_)
        rintro s361 v ⟨hG_s361, t_s361, z360, rfl, g_z360, xp_z360⟩
        have J_s361 : J s361 := J.fl i_J t_s361 (by decide +kernel)
        have TR_s361 : TR s361 := TR.fl i_TR (hG 256 1).2 t_s361 (by decide)
        have R1_s361 : R1 s361 := R1.fl i_R1 t_s361 (by decide +kernel)
        have G1_s361 : G1 s361 := G1.fl i_G1 t_s361 (by decide +kernel)
        have G3_s361 : G3 s361 := G3.fl i_G3 t_s361 (by decide +kernel)
        have VCj_s361 : VCj s361 := VCj.fl i_VCj hG t_s361 (by decide)
        have VCl_s361 : VCl s361 := VCl.fl i_VCl hG t_s361 (by decide)
        obtain ⟨z362, e_z362⟩ : ∃ z, z = s361 177 1 := ⟨_, rfl⟩
        have g_z362 : (0 : Int) ≤ s361 177 1 ∧ s361 177 1 ≤ 160 := hG_s361 177 1
        obtain ⟨z363, e_z363⟩ : ∃ z, z = s361 177 5 := ⟨_, rfl⟩
        have g_z363 : (0 : Int) ≤ s361 177 5 ∧ s361 177 5 ≤ 5 := hG_s361 177 5
        obtain ⟨z364, e_z364⟩ : ∃ z, z = s361 177 6 := ⟨_, rfl⟩
        have g_z364 : (-2147483648) ≤ s361 177 6 ∧ s361 177 6 ≤ 2147483647 := hG_s361 177 6
        obtain ⟨z365, e_z365⟩ : ∃ z, z = s361 0 11 := ⟨_, rfl⟩
        have g_z365 : (-2147483648) ≤ s361 0 11 ∧ s361 0 11 ≤ 2147483647 := hG_s361 0 11
        obtain ⟨z366, e_z366⟩ : ∃ z, z = s361 218 6 := ⟨_, rfl⟩
        have g_z366 : (0 : Int) ≤ s361 218 6 ∧ s361 218 6 ≤ 8 := hG_s361 218 6
        show xe (some (N, xs)) 231 839 [(0, .ref 2000), (1, .ref 0), (2, .ref 256), (3, vi x3)] [vi z360] s361 295 10442 _
        refine x_A k231_839 (fun _ => rfl) ?_
        refine x_A k231_840 (fun _ => rfl) ?_
        obtain ⟨z367, e_z367⟩ : ∃ z, z = s361 256 47 := ⟨_, rfl⟩
        have g_z367 : (0 : Int) ≤ s361 256 47 ∧ s361 256 47 ≤ 110 := hG_s361 256 47
        obtain ⟨z368, e_z368⟩ : ∃ z, z = s361 256 48 := ⟨_, rfl⟩
        have g_z368 : (0 : Int) ≤ s361 256 48 ∧ s361 256 48 ≤ 120 := hG_s361 256 48
        obtain ⟨z369, e_z369⟩ : ∃ z, z = s361 256 36 := ⟨_, rfl⟩
        have g_z369 : (0 : Int) ≤ s361 256 36 ∧ s361 256 36 ≤ 160 := hG_s361 256 36
        obtain ⟨z370, e_z370⟩ : ∃ z, z = s361 256 34 := ⟨_, rfl⟩
        have g_z370 : (0 : Int) ≤ s361 256 34 ∧ s361 256 34 ≤ 160 := hG_s361 256 34
        obtain ⟨z371, e_z371⟩ : ∃ z, z = s361 256 43 := ⟨_, rfl⟩
        have g_z371 : (0 : Int) ≤ s361 256 43 ∧ s361 256 43 ≤ 8 := hG_s361 256 43
        obtain ⟨z372, e_z372⟩ : ∃ z, z = s361 256 50 := ⟨_, rfl⟩
        have g_z372 : (0 : Int) ≤ s361 256 50 ∧ s361 256 50 ≤ 5 := hG_s361 256 50
        obtain ⟨z373, e_z373⟩ : ∃ z, z = s361 256 51 := ⟨_, rfl⟩
        have g_z373 : (0 : Int) ≤ s361 256 51 ∧ s361 256 51 ≤ 1 := hG_s361 256 51
        refine x_callV k231_841 (y := 200) (n := 0) (w0 := 0) (w1 := 0) (as := []) (rest := []) (by decide +kernel) (q := 256) (nq := 62) (kq := 15) ⟨by decide, rfl⟩ rfl rfl rfl rfl (xe_mono (E_X11_ask_256 s361 hG_s361 ⟨by omega, by omega⟩ ⟨by omega, by omega⟩ ⟨by omega, by omega⟩ ⟨by omega, by omega⟩ ⟨by omega, by omega⟩ ⟨by omega, by omega⟩ ⟨by omega, by omega⟩ J_s361) ?_)
        rintro s375 v ⟨hG_s375, t_s375, z374, rfl, g_z374, xp_z374, J_s375⟩
        have q376 : s375 177 1 = z362 := (t_s375 177 1 (show 1218 ∉ [4133, 4136, 4132, 4134, 4135, 6080, 6144, 4144, 4145, 4148, 4147, 6208, 4131, 6016, 4140] from by decide +kernel)).trans e_z362.symm
        have q377 : s375 177 5 = z363 := (t_s375 177 5 (show 1222 ∉ [4133, 4136, 4132, 4134, 4135, 6080, 6144, 4144, 4145, 4148, 4147, 6208, 4131, 6016, 4140] from by decide +kernel)).trans e_z363.symm
        have q378 : s375 177 6 = z364 := (t_s375 177 6 (show 1223 ∉ [4133, 4136, 4132, 4134, 4135, 6080, 6144, 4144, 4145, 4148, 4147, 6208, 4131, 6016, 4140] from by decide +kernel)).trans e_z364.symm
        have q379 : s375 0 11 = z365 := (t_s375 0 11 (show 12 ∉ [4133, 4136, 4132, 4134, 4135, 6080, 6144, 4144, 4145, 4148, 4147, 6208, 4131, 6016, 4140] from by decide +kernel)).trans e_z365.symm
        have q380 : s375 218 6 = z366 := (t_s375 218 6 (show 2503 ∉ [4133, 4136, 4132, 4134, 4135, 6080, 6144, 4144, 4145, 4148, 4147, 6208, 4131, 6016, 4140] from by decide +kernel)).trans e_z366.symm
        have TR_s375 : TR s375 := TR.fl TR_s361 (hG_s361 256 1).2 t_s375 (by decide)
        have R1_s375 : R1 s375 := R1.fl R1_s361 t_s375 (by decide +kernel)
        have G1_s375 : G1 s375 := G1.fl G1_s361 t_s375 (by decide +kernel)
        have G3_s375 : G3 s375 := G3.fl G3_s361 t_s375 (by decide +kernel)
        have VCj_s375 : VCj s375 := VCj.fl VCj_s361 hG_s361 t_s375 (by decide)
        have VCl_s375 : VCl s375 := VCl.fl VCl_s361 hG_s361 t_s375 (by decide)
        obtain ⟨z381, e_z381⟩ : ∃ z, z = s375 256 35 := ⟨_, rfl⟩
        have g_z381 : (-2147483648) ≤ s375 256 35 ∧ s375 256 35 ≤ 2147483647 := hG_s375 256 35
        obtain ⟨z382, e_z382⟩ : ∃ z, z = s375 256 34 := ⟨_, rfl⟩
        have g_z382 : (0 : Int) ≤ s375 256 34 ∧ s375 256 34 ≤ 160 := hG_s375 256 34
        obtain ⟨z383, e_z383⟩ : ∃ z, z = s375 256 43 := ⟨_, rfl⟩
        have g_z383 : (0 : Int) ≤ s375 256 43 ∧ s375 256 43 ≤ 8 := hG_s375 256 43
        show xe (some (N, xs)) 231 844 [(0, .ref 2000), (1, .ref 0), (2, .ref 256), (3, vi x3)] [vi z374] s375 295 10442 _
        obtain ⟨ez_s375, X1_s375⟩ := X1.ask i_X1 hG t_s361 t_s375 (by decide) (by decide) xp_z360 xp_z374
        refine x_A k231_844 (fun _ => rfl) ?_
        refine x_goto k231_845 (t := 1300) rfl ?_
        refine x_iinc k231_1300 (ls' := [(3, vi (x3 + 7)), (0, .ref 2000), (1, .ref 0), (2, .ref 256)]) rfl (by decide) rfl ?_
        refine x_goto k231_1303 (t := 18) rfl ?_
        refine x_ls (l := [(0, .ref 2000), (1, .ref 0), (2, .ref 256), (3, vi (x3 + 7))]) (show ([0, 1, 2, 3] : List Nat).Nodup from by decide +kernel) ⟨rfl, rfl, rfl, rfl, trivial⟩ ?_
        exact ih s375 (x3 + 7) hG_s375 trivial ⟨by omega, by omega⟩ J_s375 TR_s375 X1_s375 R1_s375 G1_s375 G3_s375 VCj_s375 VCl_s375  (by omega)
      · rw [c5]
        refine x_B k231_33 rfl (fun _ => rfl) (fun _ => rfl) (fun _ _ => rfl) ?_
        show xe (some (N, xs)) 231 848 [(0, .ref 2000), (1, .ref 0), (2, .ref 256), (3, vi x3)] [] s 295 10442 _
        refine x_A k231_848 (fun _ => rfl) ?_
        refine x_A k231_849 (fun _ => rfl) ?_
        refine x_A k231_850 (fun _ => rfl) ?_
        refine x_A k231_851 (fun _ => rfl) ?_
        refine x_iadd k231_852 ?_
        refine x_top (fun z384 e_z384 => ?_)
        refine x_scr k231_853 hN ⟨by omega, by omega⟩ (fun z385 g_z385 e_z385 => ?_)
        unfold in32 at g_z385
        refine x_A k231_854 (fun _ => rfl) ?_
        refine x_A k231_855 (fun _ => rfl) ?_
        refine x_A k231_856 (fun _ => rfl) ?_
        refine x_iadd k231_857 ?_
        refine x_top (fun z386 e_z386 => ?_)
        refine x_scr k231_858 hN ⟨by omega, by omega⟩ (fun z387 g_z387 e_z387 => ?_)
        unfold in32 at g_z387
        refine x_A k231_859 (fun _ => rfl) ?_
        refine x_A k231_860 (fun _ => rfl) ?_
        refine x_A k231_861 (fun _ => rfl) ?_
        refine x_iadd k231_862 ?_
        refine x_top (fun z388 e_z388 => ?_)
        refine x_scr k231_863 hN ⟨by omega, by omega⟩ (fun z389 g_z389 e_z389 => ?_)
        unfold in32 at g_z389
        refine x_callV k231_864 (y := 111) (n := 3) (w0 := 0) (w1 := 3) (as := [vi z385, vi z387, vi z389]) (rest := []) (by decide +kernel) (q := 0) (nq := 12) (kq := 3) ⟨by decide, rfl⟩ rfl rfl rfl rfl (xe_mono (V_X10_met_0 s hG i_J z385 (by first | exact x_rbe e_z385 g_z385 rfl rfl | exact x_rb g_z385 rfl rfl | exact ⟨by omega, by omega⟩) z387 (by first | exact x_rbe e_z387 g_z387 rfl rfl | exact x_rb g_z387 rfl rfl | exact ⟨by omega, by omega⟩) z389 (by first | exact x_rbe e_z389 g_z389 rfl rfl | exact x_rb g_z389 rfl rfl | exact ⟨by omega, by omega⟩) i_R1 i_VCj i_VCl) ?_)
        rintro s391 v ⟨hG_s391, t_s391, z390, rfl, g_z390, VCj_s391, VCl_s391⟩
        have J_s391 : J s391 := J.fl i_J t_s391 (by decide +kernel)
        have TR_s391 : TR s391 := TR.fl i_TR (hG 256 1).2 t_s391 (by decide)
        have X1_s391 : X1 s391 := X1.fl i_X1 t_s391 (by decide +kernel)
        have R1_s391 : R1 s391 := R1.fl i_R1 t_s391 (by decide +kernel)
        have G1_s391 : G1 s391 := G1.fl i_G1 t_s391 (by decide +kernel)
        have G3_s391 : G3 s391 := G3.fl i_G3 t_s391 (by decide +kernel)
        show xe (some (N, xs)) 231 867 [(0, .ref 2000), (1, .ref 0), (2, .ref 256), (3, vi x3)] [vi z390] s391 295 10442 _
        refine x_A k231_867 (fun _ => rfl) ?_
        refine x_A k231_868 (fun _ => rfl) ?_
        refine x_A k231_869 (fun _ => rfl) ?_
        refine x_A k231_870 (fun _ => rfl) ?_
        refine x_A k231_871 (fun _ => rfl) ?_
        refine x_iadd k231_872 ?_
        refine x_top (fun z392 e_z392 => ?_)
        refine x_scr k231_873 hN ⟨by omega, by omega⟩ (fun z393 g_z393 e_z393 => ?_)
        unfold in32 at g_z393
        have q_z393 : z393 = z385 := by rw [e_z393, e_z385, show z392 = z384 by omega]
        refine x_A k231_874 (fun _ => rfl) ?_
        refine x_A k231_875 (fun _ => rfl) ?_
        refine x_A k231_876 (fun _ => rfl) ?_
        refine x_iadd k231_877 ?_
        refine x_top (fun z394 e_z394 => ?_)
        refine x_scr k231_878 hN ⟨by omega, by omega⟩ (fun z395 g_z395 e_z395 => ?_)
        unfold in32 at g_z395
        have q_z395 : z395 = z387 := by rw [e_z395, e_z387, show z394 = z386 by omega]
        refine x_A k231_879 (fun _ => rfl) ?_
        refine x_A k231_880 (fun _ => rfl) ?_
        refine x_A k231_881 (fun _ => rfl) ?_
        refine x_iadd k231_882 ?_
        refine x_top (fun z396 e_z396 => ?_)
        refine x_scr k231_883 hN ⟨by omega, by omega⟩ (fun z397 g_z397 e_z397 => ?_)
        unfold in32 at g_z397
        have q_z397 : z397 = z389 := by rw [e_z397, e_z389, show z396 = z388 by omega]
        refine x_callV k231_884 (y := 204) (n := 3) (w0 := 0) (w1 := 3) (as := [vi z393, vi z395, vi z397]) (rest := []) (by decide +kernel) (q := 256) (nq := 62) (kq := 15) ⟨by decide, rfl⟩ rfl rfl rfl rfl (xe_mono (C_X11_met_256 s391 hG_s391 J_s391 z393 (by first | exact x_rbe e_z393 g_z393 rfl rfl | exact x_rb g_z393 rfl rfl | exact ⟨by omega, by omega⟩) z395 (by first | exact x_rbe e_z395 g_z395 rfl rfl | exact x_rb g_z395 rfl rfl | exact ⟨by omega, by omega⟩) z397 (by first | exact x_rbe e_z397 g_z397 rfl rfl | exact x_rb g_z397 rfl rfl | exact ⟨by omega, by omega⟩)) ?_)
        rintro s399 v ⟨hG_s399, t_s399, z398, rfl, g_z398⟩
        have J_s399 : J s399 := J.fl J_s391 t_s399 (by decide +kernel)
        have TR_s399 : TR s399 := TR.fl TR_s391 (hG_s391 256 1).2 t_s399 (by decide)
        have X1_s399 : X1 s399 := X1.fl X1_s391 t_s399 (by decide +kernel)
        have R1_s399 : R1 s399 := R1.fl R1_s391 t_s399 (by decide +kernel)
        have G1_s399 : G1 s399 := G1.fl G1_s391 t_s399 (by decide +kernel)
        have G3_s399 : G3 s399 := G3.fl G3_s391 t_s399 (by decide +kernel)
        have VCj_s399 : VCj s399 := VCj.fl VCj_s391 hG_s391 t_s399 (by decide)
        have VCl_s399 : VCl s399 := VCl.fl VCl_s391 hG_s391 t_s399 (by decide)
        show xe (some (N, xs)) 231 887 [(0, .ref 2000), (1, .ref 0), (2, .ref 256), (3, vi x3)] [vi z398] s399 295 10442 _
        refine x_A k231_887 (fun _ => rfl) ?_
        refine x_goto k231_888 (t := 1300) rfl ?_
        refine x_iinc k231_1300 (ls' := [(3, vi (x3 + 7)), (0, .ref 2000), (1, .ref 0), (2, .ref 256)]) rfl (by decide) rfl ?_
        refine x_goto k231_1303 (t := 18) rfl ?_
        refine x_ls (l := [(0, .ref 2000), (1, .ref 0), (2, .ref 256), (3, vi (x3 + 7))]) (show ([0, 1, 2, 3] : List Nat).Nodup from by decide +kernel) ⟨rfl, rfl, rfl, rfl, trivial⟩ ?_
        exact ih s399 (x3 + 7) hG_s399 trivial ⟨by omega, by omega⟩ J_s399 TR_s399 X1_s399 R1_s399 G1_s399 G3_s399 VCj_s399 VCl_s399  (by omega)
      · rw [c5]
        refine x_B k231_33 rfl (fun _ => rfl) (fun _ => rfl) (fun _ _ => rfl) ?_
        show xe (some (N, xs)) 231 891 [(0, .ref 2000), (1, .ref 0), (2, .ref 256), (3, vi x3)] [] s 295 10442 _
        refine x_A k231_891 (fun _ => rfl) ?_
        refine x_A k231_892 (fun _ => rfl) ?_
        refine x_A k231_893 (fun _ => rfl) ?_
        refine x_A k231_894 (fun _ => rfl) ?_
        refine x_iadd k231_895 ?_
        refine x_top (fun z400 e_z400 => ?_)
        refine x_scr k231_896 hN ⟨by omega, by omega⟩ (fun z401 g_z401 e_z401 => ?_)
        unfold in32 at g_z401
        refine x_A k231_897 (fun _ => rfl) ?_
        refine x_A k231_898 (fun _ => rfl) ?_
        refine x_A k231_899 (fun _ => rfl) ?_
        refine x_iadd k231_900 ?_
        refine x_top (fun z402 e_z402 => ?_)
        refine x_scr k231_901 hN ⟨by omega, by omega⟩ (fun z403 g_z403 e_z403 => ?_)
        unfold in32 at g_z403
        refine x_A k231_902 (fun _ => rfl) ?_
        refine x_A k231_903 (fun _ => rfl) ?_
        refine x_A k231_904 (fun _ => rfl) ?_
        refine x_iadd k231_905 ?_
        refine x_top (fun z404 e_z404 => ?_)
        refine x_scr k231_906 hN ⟨by omega, by omega⟩ (fun z405 g_z405 e_z405 => ?_)
        unfold in32 at g_z405
        refine x_A k231_907 (fun _ => rfl) ?_
        refine x_A k231_908 (fun _ => rfl) ?_
        refine x_A k231_909 (fun _ => rfl) ?_
        refine x_iadd k231_910 ?_
        refine x_top (fun z406 e_z406 => ?_)
        refine x_scr k231_911 hN ⟨by omega, by omega⟩ (fun z407 g_z407 e_z407 => ?_)
        unfold in32 at g_z407
        refine x_A k231_912 (fun _ => rfl) ?_
        refine x_A k231_913 (fun _ => rfl) ?_
        refine x_A k231_914 (fun _ => rfl) ?_
        refine x_iadd k231_915 ?_
        refine x_top (fun z408 e_z408 => ?_)
        refine x_scr k231_916 hN ⟨by omega, by omega⟩ (fun z409 g_z409 e_z409 => ?_)
        unfold in32 at g_z409
        refine x_callV k231_917 (y := 112) (n := 5) (w0 := 0) (w1 := 5) (as := [vi z401, vi z403, vi z405, vi z407, vi z409]) (rest := []) (by decide +kernel) (q := 0) (nq := 12) (kq := 3) ⟨by decide, rfl⟩ rfl rfl rfl rfl (xe_mono (V_X10_hands_0 s hG i_J z401 (by first | exact x_rbe e_z401 g_z401 rfl rfl | exact x_rb g_z401 rfl rfl | exact ⟨by omega, by omega⟩) z403 (by first | exact x_rbe e_z403 g_z403 rfl rfl | exact x_rb g_z403 rfl rfl | exact ⟨by omega, by omega⟩) z405 (by first | exact x_rbe e_z405 g_z405 rfl rfl | exact x_rb g_z405 rfl rfl | exact ⟨by omega, by omega⟩) z407 (by first | exact x_rbe e_z407 g_z407 rfl rfl | exact x_rb g_z407 rfl rfl | exact ⟨by omega, by omega⟩) z409 (by first | exact x_rbe e_z409 g_z409 rfl rfl | exact x_rb g_z409 rfl rfl | exact ⟨by omega, by omega⟩) i_R1 i_VCj i_VCl) ?_)
        rintro s411 v ⟨hG_s411, t_s411, z410, rfl, g_z410, VCj_s411, VCl_s411⟩
        have J_s411 : J s411 := J.fl i_J t_s411 (by decide +kernel)
        have TR_s411 : TR s411 := TR.fl i_TR (hG 256 1).2 t_s411 (by decide)
        have X1_s411 : X1 s411 := X1.fl i_X1 t_s411 (by decide +kernel)
        have R1_s411 : R1 s411 := R1.fl i_R1 t_s411 (by decide +kernel)
        have G1_s411 : G1 s411 := G1.fl i_G1 t_s411 (by decide +kernel)
        have G3_s411 : G3 s411 := G3.fl i_G3 t_s411 (by decide +kernel)
        show xe (some (N, xs)) 231 920 [(0, .ref 2000), (1, .ref 0), (2, .ref 256), (3, vi x3)] [vi z410] s411 295 10442 _
        refine x_A k231_920 (fun _ => rfl) ?_
        refine x_A k231_921 (fun _ => rfl) ?_
        refine x_A k231_922 (fun _ => rfl) ?_
        refine x_A k231_923 (fun _ => rfl) ?_
        refine x_A k231_924 (fun _ => rfl) ?_
        refine x_iadd k231_925 ?_
        refine x_top (fun z412 e_z412 => ?_)
        refine x_scr k231_926 hN ⟨by omega, by omega⟩ (fun z413 g_z413 e_z413 => ?_)
        unfold in32 at g_z413
        have q_z413 : z413 = z401 := by rw [e_z413, e_z401, show z412 = z400 by omega]
        refine x_A k231_927 (fun _ => rfl) ?_
        refine x_A k231_928 (fun _ => rfl) ?_
        refine x_A k231_929 (fun _ => rfl) ?_
        refine x_iadd k231_930 ?_
        refine x_top (fun z414 e_z414 => ?_)
        refine x_scr k231_931 hN ⟨by omega, by omega⟩ (fun z415 g_z415 e_z415 => ?_)
        unfold in32 at g_z415
        have q_z415 : z415 = z403 := by rw [e_z415, e_z403, show z414 = z402 by omega]
        refine x_A k231_932 (fun _ => rfl) ?_
        refine x_A k231_933 (fun _ => rfl) ?_
        refine x_A k231_934 (fun _ => rfl) ?_
        refine x_iadd k231_935 ?_
        refine x_top (fun z416 e_z416 => ?_)
        refine x_scr k231_936 hN ⟨by omega, by omega⟩ (fun z417 g_z417 e_z417 => ?_)
        unfold in32 at g_z417
        have q_z417 : z417 = z405 := by rw [e_z417, e_z405, show z416 = z404 by omega]
        refine x_A k231_937 (fun _ => rfl) ?_
        refine x_A k231_938 (fun _ => rfl) ?_
        refine x_A k231_939 (fun _ => rfl) ?_
        refine x_iadd k231_940 ?_
        refine x_top (fun z418 e_z418 => ?_)
        refine x_scr k231_941 hN ⟨by omega, by omega⟩ (fun z419 g_z419 e_z419 => ?_)
        unfold in32 at g_z419
        have q_z419 : z419 = z407 := by rw [e_z419, e_z407, show z418 = z406 by omega]
        refine x_A k231_942 (fun _ => rfl) ?_
        refine x_A k231_943 (fun _ => rfl) ?_
        refine x_A k231_944 (fun _ => rfl) ?_
        refine x_iadd k231_945 ?_
        refine x_top (fun z420 e_z420 => ?_)
        refine x_scr k231_946 hN ⟨by omega, by omega⟩ (fun z421 g_z421 e_z421 => ?_)
        unfold in32 at g_z421
        have q_z421 : z421 = z409 := by rw [e_z421, e_z409, show z420 = z408 by omega]
        refine x_callV k231_947 (y := 206) (n := 5) (w0 := 0) (w1 := 5) (as := [vi z413, vi z415, vi z417, vi z419, vi z421]) (rest := []) (by decide +kernel) (q := 256) (nq := 62) (kq := 15) ⟨by decide, rfl⟩ rfl rfl rfl rfl (xe_mono (C_X11_hands_256 s411 hG_s411 J_s411 z413 (by first | exact x_rbe e_z413 g_z413 rfl rfl | exact x_rb g_z413 rfl rfl | exact ⟨by omega, by omega⟩) z415 (by first | exact x_rbe e_z415 g_z415 rfl rfl | exact x_rb g_z415 rfl rfl | exact ⟨by omega, by omega⟩) z417 (by first | exact x_rbe e_z417 g_z417 rfl rfl | exact x_rb g_z417 rfl rfl | exact ⟨by omega, by omega⟩) z419 (by first | exact x_rbe e_z419 g_z419 rfl rfl | exact x_rb g_z419 rfl rfl | exact ⟨by omega, by omega⟩) z421 (by first | exact x_rbe e_z421 g_z421 rfl rfl | exact x_rb g_z421 rfl rfl | exact ⟨by omega, by omega⟩)) ?_)
        rintro s423 v ⟨hG_s423, t_s423, z422, rfl, g_z422⟩
        have J_s423 : J s423 := J.fl J_s411 t_s423 (by decide +kernel)
        have TR_s423 : TR s423 := TR.fl TR_s411 (hG_s411 256 1).2 t_s423 (by decide)
        have X1_s423 : X1 s423 := X1.fl X1_s411 t_s423 (by decide +kernel)
        have R1_s423 : R1 s423 := R1.fl R1_s411 t_s423 (by decide +kernel)
        have G1_s423 : G1 s423 := G1.fl G1_s411 t_s423 (by decide +kernel)
        have G3_s423 : G3 s423 := G3.fl G3_s411 t_s423 (by decide +kernel)
        have VCj_s423 : VCj s423 := VCj.fl VCj_s411 hG_s411 t_s423 (by decide)
        have VCl_s423 : VCl s423 := VCl.fl VCl_s411 hG_s411 t_s423 (by decide)
        show xe (some (N, xs)) 231 950 [(0, .ref 2000), (1, .ref 0), (2, .ref 256), (3, vi x3)] [vi z422] s423 295 10442 _
        refine x_A k231_950 (fun _ => rfl) ?_
        refine x_goto k231_951 (t := 1300) rfl ?_
        refine x_iinc k231_1300 (ls' := [(3, vi (x3 + 7)), (0, .ref 2000), (1, .ref 0), (2, .ref 256)]) rfl (by decide) rfl ?_
        refine x_goto k231_1303 (t := 18) rfl ?_
        refine x_ls (l := [(0, .ref 2000), (1, .ref 0), (2, .ref 256), (3, vi (x3 + 7))]) (show ([0, 1, 2, 3] : List Nat).Nodup from by decide +kernel) ⟨rfl, rfl, rfl, rfl, trivial⟩ ?_
        exact ih s423 (x3 + 7) hG_s423 trivial ⟨by omega, by omega⟩ J_s423 TR_s423 X1_s423 R1_s423 G1_s423 G3_s423 VCj_s423 VCl_s423  (by omega)
      · rw [c5]
        refine x_B k231_33 rfl (fun _ => rfl) (fun _ => rfl) (fun _ _ => rfl) ?_
        show xe (some (N, xs)) 231 954 [(0, .ref 2000), (1, .ref 0), (2, .ref 256), (3, vi x3)] [] s 295 10442 _
        refine x_A k231_954 (fun _ => rfl) ?_
        refine x_A k231_955 (fun _ => rfl) ?_
        refine x_A k231_956 (fun _ => rfl) ?_
        refine x_A k231_957 (fun _ => rfl) ?_
        refine x_iadd k231_958 ?_
        refine x_top (fun z424 e_z424 => ?_)
        refine x_scr k231_959 hN ⟨by omega, by omega⟩ (fun z425 g_z425 e_z425 => ?_)
        unfold in32 at g_z425
        refine x_A k231_960 (fun _ => rfl) ?_
        refine x_A k231_961 (fun _ => rfl) ?_
        refine x_A k231_962 (fun _ => rfl) ?_
        refine x_iadd k231_963 ?_
        refine x_top (fun z426 e_z426 => ?_)
        refine x_scr k231_964 hN ⟨by omega, by omega⟩ (fun z427 g_z427 e_z427 => ?_)
        unfold in32 at g_z427
        refine x_A k231_965 (fun _ => rfl) ?_
        refine x_A k231_966 (fun _ => rfl) ?_
        refine x_A k231_967 (fun _ => rfl) ?_
        refine x_iadd k231_968 ?_
        refine x_top (fun z428 e_z428 => ?_)
        refine x_scr k231_969 hN ⟨by omega, by omega⟩ (fun z429 g_z429 e_z429 => ?_)
        unfold in32 at g_z429
        refine x_A k231_970 (fun _ => rfl) ?_
        refine x_A k231_971 (fun _ => rfl) ?_
        refine x_A k231_972 (fun _ => rfl) ?_
        refine x_iadd k231_973 ?_
        refine x_top (fun z430 e_z430 => ?_)
        refine x_scr k231_974 hN ⟨by omega, by omega⟩ (fun z431 g_z431 e_z431 => ?_)
        unfold in32 at g_z431
        refine x_A k231_975 (fun _ => rfl) ?_
        refine x_A k231_976 (fun _ => rfl) ?_
        refine x_A k231_977 (fun _ => rfl) ?_
        refine x_iadd k231_978 ?_
        refine x_top (fun z432 e_z432 => ?_)
        refine x_scr k231_979 hN ⟨by omega, by omega⟩ (fun z433 g_z433 e_z433 => ?_)
        unfold in32 at g_z433
        refine x_A k231_980 (fun _ => rfl) ?_
        refine x_A k231_981 (fun _ => rfl) ?_
        refine x_bipush k231_982 (by decide +kernel) ?_
        refine x_iadd k231_984 ?_
        refine x_top (fun z434 e_z434 => ?_)
        refine x_scr k231_985 hN ⟨by omega, by omega⟩ (fun z435 g_z435 e_z435 => ?_)
        unfold in32 at g_z435
        refine x_callV k231_986 (y := 113) (n := 6) (w0 := 0) (w1 := 6) (as := [vi z425, vi z427, vi z429, vi z431, vi z433, vi z435]) (rest := []) (by decide +kernel) (q := 0) (nq := 12) (kq := 3) ⟨by decide, rfl⟩ rfl rfl rfl rfl (xe_mono (V_X10_together_0 s hG i_J z425 (by first | exact x_rbe e_z425 g_z425 rfl rfl | exact x_rb g_z425 rfl rfl | exact ⟨by omega, by omega⟩) z427 (by first | exact x_rbe e_z427 g_z427 rfl rfl | exact x_rb g_z427 rfl rfl | exact ⟨by omega, by omega⟩) z429 (by first | exact x_rbe e_z429 g_z429 rfl rfl | exact x_rb g_z429 rfl rfl | exact ⟨by omega, by omega⟩) z431 (by first | exact x_rbe e_z431 g_z431 rfl rfl | exact x_rb g_z431 rfl rfl | exact ⟨by omega, by omega⟩) z433 (by first | exact x_rbe e_z433 g_z433 rfl rfl | exact x_rb g_z433 rfl rfl | exact ⟨by omega, by omega⟩) z435 (by first | exact x_rbe e_z435 g_z435 rfl rfl | exact x_rb g_z435 rfl rfl | exact ⟨by omega, by omega⟩) i_R1 i_VCj i_VCl) ?_)
        rintro s437 v ⟨hG_s437, t_s437, z436, rfl, g_z436, VCj_s437, VCl_s437⟩
        have J_s437 : J s437 := J.fl i_J t_s437 (by decide +kernel)
        have TR_s437 : TR s437 := TR.fl i_TR (hG 256 1).2 t_s437 (by decide)
        have X1_s437 : X1 s437 := X1.fl i_X1 t_s437 (by decide +kernel)
        have R1_s437 : R1 s437 := R1.fl i_R1 t_s437 (by decide +kernel)
        have G1_s437 : G1 s437 := G1.fl i_G1 t_s437 (by decide +kernel)
        have G3_s437 : G3 s437 := G3.fl i_G3 t_s437 (by decide +kernel)
        show xe (some (N, xs)) 231 989 [(0, .ref 2000), (1, .ref 0), (2, .ref 256), (3, vi x3)] [vi z436] s437 295 10442 _
        refine x_A k231_989 (fun _ => rfl) ?_
        refine x_A k231_990 (fun _ => rfl) ?_
        refine x_A k231_991 (fun _ => rfl) ?_
        refine x_A k231_992 (fun _ => rfl) ?_
        refine x_A k231_993 (fun _ => rfl) ?_
        refine x_iadd k231_994 ?_
        refine x_top (fun z438 e_z438 => ?_)
        refine x_scr k231_995 hN ⟨by omega, by omega⟩ (fun z439 g_z439 e_z439 => ?_)
        unfold in32 at g_z439
        have q_z439 : z439 = z425 := by rw [e_z439, e_z425, show z438 = z424 by omega]
        refine x_A k231_996 (fun _ => rfl) ?_
        refine x_A k231_997 (fun _ => rfl) ?_
        refine x_A k231_998 (fun _ => rfl) ?_
        refine x_iadd k231_999 ?_
        refine x_top (fun z440 e_z440 => ?_)
        refine x_scr k231_1000 hN ⟨by omega, by omega⟩ (fun z441 g_z441 e_z441 => ?_)
        unfold in32 at g_z441
        have q_z441 : z441 = z427 := by rw [e_z441, e_z427, show z440 = z426 by omega]
        refine x_A k231_1001 (fun _ => rfl) ?_
        refine x_A k231_1002 (fun _ => rfl) ?_
        refine x_A k231_1003 (fun _ => rfl) ?_
        refine x_iadd k231_1004 ?_
        refine x_top (fun z442 e_z442 => ?_)
        refine x_scr k231_1005 hN ⟨by omega, by omega⟩ (fun z443 g_z443 e_z443 => ?_)
        unfold in32 at g_z443
        have q_z443 : z443 = z429 := by rw [e_z443, e_z429, show z442 = z428 by omega]
        refine x_A k231_1006 (fun _ => rfl) ?_
        refine x_A k231_1007 (fun _ => rfl) ?_
        refine x_A k231_1008 (fun _ => rfl) ?_
        refine x_iadd k231_1009 ?_
        refine x_top (fun z444 e_z444 => ?_)
        refine x_scr k231_1010 hN ⟨by omega, by omega⟩ (fun z445 g_z445 e_z445 => ?_)
        unfold in32 at g_z445
        have q_z445 : z445 = z431 := by rw [e_z445, e_z431, show z444 = z430 by omega]
        refine x_A k231_1011 (fun _ => rfl) ?_
        refine x_A k231_1012 (fun _ => rfl) ?_
        refine x_A k231_1013 (fun _ => rfl) ?_
        refine x_iadd k231_1014 ?_
        refine x_top (fun z446 e_z446 => ?_)
        refine x_scr k231_1015 hN ⟨by omega, by omega⟩ (fun z447 g_z447 e_z447 => ?_)
        unfold in32 at g_z447
        have q_z447 : z447 = z433 := by rw [e_z447, e_z433, show z446 = z432 by omega]
        refine x_A k231_1016 (fun _ => rfl) ?_
        refine x_A k231_1017 (fun _ => rfl) ?_
        refine x_bipush k231_1018 (by decide +kernel) ?_
        refine x_iadd k231_1020 ?_
        refine x_top (fun z448 e_z448 => ?_)
        refine x_scr k231_1021 hN ⟨by omega, by omega⟩ (fun z449 g_z449 e_z449 => ?_)
        unfold in32 at g_z449
        have q_z449 : z449 = z435 := by rw [e_z449, e_z435, show z448 = z434 by omega]
        refine x_callV k231_1022 (y := 208) (n := 6) (w0 := 0) (w1 := 6) (as := [vi z439, vi z441, vi z443, vi z445, vi z447, vi z449]) (rest := []) (by decide +kernel) (q := 256) (nq := 62) (kq := 15) ⟨by decide, rfl⟩ rfl rfl rfl rfl (xe_mono (C_X11_together_256 s437 hG_s437 J_s437 z439 (by first | exact x_rbe e_z439 g_z439 rfl rfl | exact x_rb g_z439 rfl rfl | exact ⟨by omega, by omega⟩) z441 (by first | exact x_rbe e_z441 g_z441 rfl rfl | exact x_rb g_z441 rfl rfl | exact ⟨by omega, by omega⟩) z443 (by first | exact x_rbe e_z443 g_z443 rfl rfl | exact x_rb g_z443 rfl rfl | exact ⟨by omega, by omega⟩) z445 (by first | exact x_rbe e_z445 g_z445 rfl rfl | exact x_rb g_z445 rfl rfl | exact ⟨by omega, by omega⟩) z447 (by first | exact x_rbe e_z447 g_z447 rfl rfl | exact x_rb g_z447 rfl rfl | exact ⟨by omega, by omega⟩) z449 (by first | exact x_rbe e_z449 g_z449 rfl rfl | exact x_rb g_z449 rfl rfl | exact ⟨by omega, by omega⟩)) ?_)
        rintro s451 v ⟨hG_s451, t_s451, z450, rfl, g_z450⟩
        have J_s451 : J s451 := J.fl J_s437 t_s451 (by decide +kernel)
        have TR_s451 : TR s451 := TR.fl TR_s437 (hG_s437 256 1).2 t_s451 (by decide)
        have X1_s451 : X1 s451 := X1.fl X1_s437 t_s451 (by decide +kernel)
        have R1_s451 : R1 s451 := R1.fl R1_s437 t_s451 (by decide +kernel)
        have G1_s451 : G1 s451 := G1.fl G1_s437 t_s451 (by decide +kernel)
        have G3_s451 : G3 s451 := G3.fl G3_s437 t_s451 (by decide +kernel)
        have VCj_s451 : VCj s451 := VCj.fl VCj_s437 hG_s437 t_s451 (by decide)
        have VCl_s451 : VCl s451 := VCl.fl VCl_s437 hG_s437 t_s451 (by decide)
        show xe (some (N, xs)) 231 1025 [(0, .ref 2000), (1, .ref 0), (2, .ref 256), (3, vi x3)] [vi z450] s451 295 10442 _
        refine x_A k231_1025 (fun _ => rfl) ?_
        refine x_goto k231_1026 (t := 1300) rfl ?_
        refine x_iinc k231_1300 (ls' := [(3, vi (x3 + 7)), (0, .ref 2000), (1, .ref 0), (2, .ref 256)]) rfl (by decide) rfl ?_
        refine x_goto k231_1303 (t := 18) rfl ?_
        refine x_ls (l := [(0, .ref 2000), (1, .ref 0), (2, .ref 256), (3, vi (x3 + 7))]) (show ([0, 1, 2, 3] : List Nat).Nodup from by decide +kernel) ⟨rfl, rfl, rfl, rfl, trivial⟩ ?_
        exact ih s451 (x3 + 7) hG_s451 trivial ⟨by omega, by omega⟩ J_s451 TR_s451 X1_s451 R1_s451 G1_s451 G3_s451 VCj_s451 VCl_s451  (by omega)
      · rw [c5]
        refine x_B k231_33 rfl (fun _ => rfl) (fun _ => rfl) (fun _ _ => rfl) ?_
        show xe (some (N, xs)) 231 1029 [(0, .ref 2000), (1, .ref 0), (2, .ref 256), (3, vi x3)] [] s 295 10442 _
        refine x_A k231_1029 (fun _ => rfl) ?_
        refine x_A k231_1030 (fun _ => rfl) ?_
        refine x_A k231_1031 (fun _ => rfl) ?_
        refine x_A k231_1032 (fun _ => rfl) ?_
        refine x_iadd k231_1033 ?_
        refine x_top (fun z452 e_z452 => ?_)
        refine x_scr k231_1034 hN ⟨by omega, by omega⟩ (fun z453 g_z453 e_z453 => ?_)
        unfold in32 at g_z453
        refine x_A k231_1035 (fun _ => rfl) ?_
        refine x_A k231_1036 (fun _ => rfl) ?_
        refine x_A k231_1037 (fun _ => rfl) ?_
        refine x_iadd k231_1038 ?_
        refine x_top (fun z454 e_z454 => ?_)
        refine x_scr k231_1039 hN ⟨by omega, by omega⟩ (fun z455 g_z455 e_z455 => ?_)
        unfold in32 at g_z455
        refine x_A k231_1040 (fun _ => rfl) ?_
        refine x_A k231_1041 (fun _ => rfl) ?_
        refine x_A k231_1042 (fun _ => rfl) ?_
        refine x_iadd k231_1043 ?_
        refine x_top (fun z456 e_z456 => ?_)
        refine x_scr k231_1044 hN ⟨by omega, by omega⟩ (fun z457 g_z457 e_z457 => ?_)
        unfold in32 at g_z457
        refine x_callV k231_1045 (y := 114) (n := 3) (w0 := 0) (w1 := 3) (as := [vi z453, vi z455, vi z457]) (rest := []) (by decide +kernel) (q := 0) (nq := 12) (kq := 3) ⟨by decide, rfl⟩ rfl rfl rfl rfl (xe_mono (V_X10_along_0 s hG i_J z453 (by first | exact x_rbe e_z453 g_z453 rfl rfl | exact x_rb g_z453 rfl rfl | exact ⟨by omega, by omega⟩) z455 (by first | exact x_rbe e_z455 g_z455 rfl rfl | exact x_rb g_z455 rfl rfl | exact ⟨by omega, by omega⟩) z457 (by first | exact x_rbe e_z457 g_z457 rfl rfl | exact x_rb g_z457 rfl rfl | exact ⟨by omega, by omega⟩) i_R1 i_VCj i_VCl) ?_)
        rintro s459 v ⟨hG_s459, t_s459, z458, rfl, g_z458, VCj_s459, VCl_s459⟩
        have J_s459 : J s459 := J.fl i_J t_s459 (by decide +kernel)
        have TR_s459 : TR s459 := TR.fl i_TR (hG 256 1).2 t_s459 (by decide)
        have X1_s459 : X1 s459 := X1.fl i_X1 t_s459 (by decide +kernel)
        have R1_s459 : R1 s459 := R1.fl i_R1 t_s459 (by decide +kernel)
        have G1_s459 : G1 s459 := G1.fl i_G1 t_s459 (by decide +kernel)
        have G3_s459 : G3 s459 := G3.fl i_G3 t_s459 (by decide +kernel)
        show xe (some (N, xs)) 231 1048 [(0, .ref 2000), (1, .ref 0), (2, .ref 256), (3, vi x3)] [vi z458] s459 295 10442 _
        refine x_A k231_1048 (fun _ => rfl) ?_
        refine x_A k231_1049 (fun _ => rfl) ?_
        refine x_A k231_1050 (fun _ => rfl) ?_
        refine x_A k231_1051 (fun _ => rfl) ?_
        refine x_A k231_1052 (fun _ => rfl) ?_
        refine x_iadd k231_1053 ?_
        refine x_top (fun z460 e_z460 => ?_)
        refine x_scr k231_1054 hN ⟨by omega, by omega⟩ (fun z461 g_z461 e_z461 => ?_)
        unfold in32 at g_z461
        have q_z461 : z461 = z453 := by rw [e_z461, e_z453, show z460 = z452 by omega]
        refine x_A k231_1055 (fun _ => rfl) ?_
        refine x_A k231_1056 (fun _ => rfl) ?_
        refine x_A k231_1057 (fun _ => rfl) ?_
        refine x_iadd k231_1058 ?_
        refine x_top (fun z462 e_z462 => ?_)
        refine x_scr k231_1059 hN ⟨by omega, by omega⟩ (fun z463 g_z463 e_z463 => ?_)
        unfold in32 at g_z463
        have q_z463 : z463 = z455 := by rw [e_z463, e_z455, show z462 = z454 by omega]
        refine x_A k231_1060 (fun _ => rfl) ?_
        refine x_A k231_1061 (fun _ => rfl) ?_
        refine x_A k231_1062 (fun _ => rfl) ?_
        refine x_iadd k231_1063 ?_
        refine x_top (fun z464 e_z464 => ?_)
        refine x_scr k231_1064 hN ⟨by omega, by omega⟩ (fun z465 g_z465 e_z465 => ?_)
        unfold in32 at g_z465
        have q_z465 : z465 = z457 := by rw [e_z465, e_z457, show z464 = z456 by omega]
        refine x_callV k231_1065 (y := 211) (n := 3) (w0 := 0) (w1 := 3) (as := [vi z461, vi z463, vi z465]) (rest := []) (by decide +kernel) (q := 256) (nq := 62) (kq := 15) ⟨by decide, rfl⟩ rfl rfl rfl rfl (xe_mono (C_X11_along_256 s459 hG_s459 J_s459 z461 (by first | exact x_rbe e_z461 g_z461 rfl rfl | exact x_rb g_z461 rfl rfl | exact ⟨by omega, by omega⟩) z463 (by first | exact x_rbe e_z463 g_z463 rfl rfl | exact x_rb g_z463 rfl rfl | exact ⟨by omega, by omega⟩) z465 (by first | exact x_rbe e_z465 g_z465 rfl rfl | exact x_rb g_z465 rfl rfl | exact ⟨by omega, by omega⟩)) ?_)
        rintro s467 v ⟨hG_s467, t_s467, z466, rfl, g_z466⟩
        have J_s467 : J s467 := J.fl J_s459 t_s467 (by decide +kernel)
        have TR_s467 : TR s467 := TR.fl TR_s459 (hG_s459 256 1).2 t_s467 (by decide)
        have X1_s467 : X1 s467 := X1.fl X1_s459 t_s467 (by decide +kernel)
        have R1_s467 : R1 s467 := R1.fl R1_s459 t_s467 (by decide +kernel)
        have G1_s467 : G1 s467 := G1.fl G1_s459 t_s467 (by decide +kernel)
        have G3_s467 : G3 s467 := G3.fl G3_s459 t_s467 (by decide +kernel)
        have VCj_s467 : VCj s467 := VCj.fl VCj_s459 hG_s459 t_s467 (by decide)
        have VCl_s467 : VCl s467 := VCl.fl VCl_s459 hG_s459 t_s467 (by decide)
        show xe (some (N, xs)) 231 1068 [(0, .ref 2000), (1, .ref 0), (2, .ref 256), (3, vi x3)] [vi z466] s467 295 10442 _
        refine x_A k231_1068 (fun _ => rfl) ?_
        refine x_goto k231_1069 (t := 1300) rfl ?_
        refine x_iinc k231_1300 (ls' := [(3, vi (x3 + 7)), (0, .ref 2000), (1, .ref 0), (2, .ref 256)]) rfl (by decide) rfl ?_
        refine x_goto k231_1303 (t := 18) rfl ?_
        refine x_ls (l := [(0, .ref 2000), (1, .ref 0), (2, .ref 256), (3, vi (x3 + 7))]) (show ([0, 1, 2, 3] : List Nat).Nodup from by decide +kernel) ⟨rfl, rfl, rfl, rfl, trivial⟩ ?_
        exact ih s467 (x3 + 7) hG_s467 trivial ⟨by omega, by omega⟩ J_s467 TR_s467 X1_s467 R1_s467 G1_s467 G3_s467 VCj_s467 VCl_s467  (by omega)
      · rw [c5]
        refine x_B k231_33 rfl (fun _ => rfl) (fun _ => rfl) (fun _ _ => rfl) ?_
        show xe (some (N, xs)) 231 1072 [(0, .ref 2000), (1, .ref 0), (2, .ref 256), (3, vi x3)] [] s 295 10442 _
        refine x_A k231_1072 (fun _ => rfl) ?_
        refine x_A k231_1073 (fun _ => rfl) ?_
        refine x_A k231_1074 (fun _ => rfl) ?_
        refine x_A k231_1075 (fun _ => rfl) ?_
        refine x_iadd k231_1076 ?_
        refine x_top (fun z468 e_z468 => ?_)
        refine x_scr k231_1077 hN ⟨by omega, by omega⟩ (fun z469 g_z469 e_z469 => ?_)
        unfold in32 at g_z469
        refine x_A k231_1078 (fun _ => rfl) ?_
        refine x_A k231_1079 (fun _ => rfl) ?_
        refine x_A k231_1080 (fun _ => rfl) ?_
        refine x_iadd k231_1081 ?_
        refine x_top (fun z470 e_z470 => ?_)
        refine x_scr k231_1082 hN ⟨by omega, by omega⟩ (fun z471 g_z471 e_z471 => ?_)
        unfold in32 at g_z471
        refine x_A k231_1083 (fun _ => rfl) ?_
        refine x_A k231_1084 (fun _ => rfl) ?_
        refine x_A k231_1085 (fun _ => rfl) ?_
        refine x_iadd k231_1086 ?_
        refine x_top (fun z472 e_z472 => ?_)
        refine x_scr k231_1087 hN ⟨by omega, by omega⟩ (fun z473 g_z473 e_z473 => ?_)
        unfold in32 at g_z473
        refine x_callV k231_1088 (y := 115) (n := 3) (w0 := 0) (w1 := 3) (as := [vi z469, vi z471, vi z473]) (rest := []) (by decide +kernel) (q := 0) (nq := 12) (kq := 3) ⟨by decide, rfl⟩ rfl rfl rfl rfl (xe_mono (V_X10_likely_0 s hG i_J z469 (by first | exact x_rbe e_z469 g_z469 rfl rfl | exact x_rb g_z469 rfl rfl | exact ⟨by omega, by omega⟩) z471 (by first | exact x_rbe e_z471 g_z471 rfl rfl | exact x_rb g_z471 rfl rfl | exact ⟨by omega, by omega⟩) z473 (by first | exact x_rbe e_z473 g_z473 rfl rfl | exact x_rb g_z473 rfl rfl | exact ⟨by omega, by omega⟩) i_R1 i_VCj i_VCl) ?_)
        rintro s475 v ⟨hG_s475, t_s475, z474, rfl, g_z474, VCj_s475, VCl_s475⟩
        have J_s475 : J s475 := J.fl i_J t_s475 (by decide +kernel)
        have TR_s475 : TR s475 := TR.fl i_TR (hG 256 1).2 t_s475 (by decide)
        have X1_s475 : X1 s475 := X1.fl i_X1 t_s475 (by decide +kernel)
        have R1_s475 : R1 s475 := R1.fl i_R1 t_s475 (by decide +kernel)
        have G1_s475 : G1 s475 := G1.fl i_G1 t_s475 (by decide +kernel)
        have G3_s475 : G3 s475 := G3.fl i_G3 t_s475 (by decide +kernel)
        show xe (some (N, xs)) 231 1091 [(0, .ref 2000), (1, .ref 0), (2, .ref 256), (3, vi x3)] [vi z474] s475 295 10442 _
        refine x_A k231_1091 (fun _ => rfl) ?_
        refine x_A k231_1092 (fun _ => rfl) ?_
        refine x_A k231_1093 (fun _ => rfl) ?_
        refine x_A k231_1094 (fun _ => rfl) ?_
        refine x_A k231_1095 (fun _ => rfl) ?_
        refine x_iadd k231_1096 ?_
        refine x_top (fun z476 e_z476 => ?_)
        refine x_scr k231_1097 hN ⟨by omega, by omega⟩ (fun z477 g_z477 e_z477 => ?_)
        unfold in32 at g_z477
        have q_z477 : z477 = z469 := by rw [e_z477, e_z469, show z476 = z468 by omega]
        refine x_A k231_1098 (fun _ => rfl) ?_
        refine x_A k231_1099 (fun _ => rfl) ?_
        refine x_A k231_1100 (fun _ => rfl) ?_
        refine x_iadd k231_1101 ?_
        refine x_top (fun z478 e_z478 => ?_)
        refine x_scr k231_1102 hN ⟨by omega, by omega⟩ (fun z479 g_z479 e_z479 => ?_)
        unfold in32 at g_z479
        have q_z479 : z479 = z471 := by rw [e_z479, e_z471, show z478 = z470 by omega]
        refine x_A k231_1103 (fun _ => rfl) ?_
        refine x_A k231_1104 (fun _ => rfl) ?_
        refine x_A k231_1105 (fun _ => rfl) ?_
        refine x_iadd k231_1106 ?_
        refine x_top (fun z480 e_z480 => ?_)
        refine x_scr k231_1107 hN ⟨by omega, by omega⟩ (fun z481 g_z481 e_z481 => ?_)
        unfold in32 at g_z481
        have q_z481 : z481 = z473 := by rw [e_z481, e_z473, show z480 = z472 by omega]
        refine x_callV k231_1108 (y := 212) (n := 3) (w0 := 0) (w1 := 3) (as := [vi z477, vi z479, vi z481]) (rest := []) (by decide +kernel) (q := 256) (nq := 62) (kq := 15) ⟨by decide, rfl⟩ rfl rfl rfl rfl (xe_mono (C_X11_likely_256 s475 hG_s475 J_s475 z477 (by first | exact x_rbe e_z477 g_z477 rfl rfl | exact x_rb g_z477 rfl rfl | exact ⟨by omega, by omega⟩) z479 (by first | exact x_rbe e_z479 g_z479 rfl rfl | exact x_rb g_z479 rfl rfl | exact ⟨by omega, by omega⟩) z481 (by first | exact x_rbe e_z481 g_z481 rfl rfl | exact x_rb g_z481 rfl rfl | exact ⟨by omega, by omega⟩)) ?_)
        rintro s483 v ⟨hG_s483, t_s483, z482, rfl, g_z482⟩
        have J_s483 : J s483 := J.fl J_s475 t_s483 (by decide +kernel)
        have TR_s483 : TR s483 := TR.fl TR_s475 (hG_s475 256 1).2 t_s483 (by decide)
        have X1_s483 : X1 s483 := X1.fl X1_s475 t_s483 (by decide +kernel)
        have R1_s483 : R1 s483 := R1.fl R1_s475 t_s483 (by decide +kernel)
        have G1_s483 : G1 s483 := G1.fl G1_s475 t_s483 (by decide +kernel)
        have G3_s483 : G3 s483 := G3.fl G3_s475 t_s483 (by decide +kernel)
        have VCj_s483 : VCj s483 := VCj.fl VCj_s475 hG_s475 t_s483 (by decide)
        have VCl_s483 : VCl s483 := VCl.fl VCl_s475 hG_s475 t_s483 (by decide)
        show xe (some (N, xs)) 231 1111 [(0, .ref 2000), (1, .ref 0), (2, .ref 256), (3, vi x3)] [vi z482] s483 295 10442 _
        refine x_A k231_1111 (fun _ => rfl) ?_
        refine x_goto k231_1112 (t := 1300) rfl ?_
        refine x_iinc k231_1300 (ls' := [(3, vi (x3 + 7)), (0, .ref 2000), (1, .ref 0), (2, .ref 256)]) rfl (by decide) rfl ?_
        refine x_goto k231_1303 (t := 18) rfl ?_
        refine x_ls (l := [(0, .ref 2000), (1, .ref 0), (2, .ref 256), (3, vi (x3 + 7))]) (show ([0, 1, 2, 3] : List Nat).Nodup from by decide +kernel) ⟨rfl, rfl, rfl, rfl, trivial⟩ ?_
        exact ih s483 (x3 + 7) hG_s483 trivial ⟨by omega, by omega⟩ J_s483 TR_s483 X1_s483 R1_s483 G1_s483 G3_s483 VCj_s483 VCl_s483  (by omega)
      · rw [c5]
        refine x_B k231_33 rfl (fun _ => rfl) (fun _ => rfl) (fun _ _ => rfl) ?_
        show xe (some (N, xs)) 231 1115 [(0, .ref 2000), (1, .ref 0), (2, .ref 256), (3, vi x3)] [] s 295 10442 _
        refine x_A k231_1115 (fun _ => rfl) ?_
        refine x_A k231_1116 (fun _ => rfl) ?_
        refine x_A k231_1117 (fun _ => rfl) ?_
        refine x_A k231_1118 (fun _ => rfl) ?_
        refine x_iadd k231_1119 ?_
        refine x_top (fun z484 e_z484 => ?_)
        refine x_scr k231_1120 hN ⟨by omega, by omega⟩ (fun z485 g_z485 e_z485 => ?_)
        unfold in32 at g_z485
        refine x_A k231_1121 (fun _ => rfl) ?_
        refine x_A k231_1122 (fun _ => rfl) ?_
        refine x_A k231_1123 (fun _ => rfl) ?_
        refine x_iadd k231_1124 ?_
        refine x_top (fun z486 e_z486 => ?_)
        refine x_scr k231_1125 hN ⟨by omega, by omega⟩ (fun z487 g_z487 e_z487 => ?_)
        unfold in32 at g_z487
        refine x_callV k231_1126 (y := 116) (n := 2) (w0 := 0) (w1 := 2) (as := [vi z485, vi z487]) (rest := []) (by decide +kernel) (q := 0) (nq := 12) (kq := 3) ⟨by decide, rfl⟩ rfl rfl rfl rfl (xe_mono (V_X10_lacking_0 s hG i_J z485 (by first | exact x_rbe e_z485 g_z485 rfl rfl | exact x_rb g_z485 rfl rfl | exact ⟨by omega, by omega⟩) z487 (by first | exact x_rbe e_z487 g_z487 rfl rfl | exact x_rb g_z487 rfl rfl | exact ⟨by omega, by omega⟩) i_R1 i_VCj i_VCl) ?_)
        rintro s489 v ⟨hG_s489, t_s489, z488, rfl, b_z488, VCj_s489, VCl_s489⟩
        have J_s489 : J s489 := J.fl i_J t_s489 (by decide +kernel)
        have TR_s489 : TR s489 := TR.fl i_TR (hG 256 1).2 t_s489 (by decide)
        have X1_s489 : X1 s489 := X1.fl i_X1 t_s489 (by decide +kernel)
        have R1_s489 : R1 s489 := R1.fl i_R1 t_s489 (by decide +kernel)
        have G1_s489 : G1 s489 := G1.fl i_G1 t_s489 (by decide +kernel)
        have G3_s489 : G3 s489 := G3.fl i_G3 t_s489 (by decide +kernel)
        show xe (some (N, xs)) 231 1129 [(0, .ref 2000), (1, .ref 0), (2, .ref 256), (3, vi x3)] [vj z488] s489 295 10442 _
        refine x_A k231_1129 (fun _ => rfl) ?_
        refine x_A k231_1130 (fun _ => rfl) ?_
        refine x_A k231_1131 (fun _ => rfl) ?_
        refine x_A k231_1132 (fun _ => rfl) ?_
        refine x_A k231_1133 (fun _ => rfl) ?_
        refine x_iadd k231_1134 ?_
        refine x_top (fun z490 e_z490 => ?_)
        refine x_scr k231_1135 hN ⟨by omega, by omega⟩ (fun z491 g_z491 e_z491 => ?_)
        unfold in32 at g_z491
        have q_z491 : z491 = z485 := by rw [e_z491, e_z485, show z490 = z484 by omega]
        refine x_A k231_1136 (fun _ => rfl) ?_
        refine x_A k231_1137 (fun _ => rfl) ?_
        refine x_A k231_1138 (fun _ => rfl) ?_
        refine x_iadd k231_1139 ?_
        refine x_top (fun z492 e_z492 => ?_)
        refine x_scr k231_1140 hN ⟨by omega, by omega⟩ (fun z493 g_z493 e_z493 => ?_)
        unfold in32 at g_z493
        have q_z493 : z493 = z487 := by rw [e_z493, e_z487, show z492 = z486 by omega]
        refine x_callV k231_1141 (y := 214) (n := 2) (w0 := 0) (w1 := 2) (as := [vi z491, vi z493]) (rest := []) (by decide +kernel) (q := 256) (nq := 62) (kq := 15) ⟨by decide, rfl⟩ rfl rfl rfl rfl (xe_mono (C_X11_lacking_256 s489 hG_s489 J_s489 z491 (by first | exact x_rbe e_z491 g_z491 rfl rfl | exact x_rb g_z491 rfl rfl | exact ⟨by omega, by omega⟩) z493 (by first | exact x_rbe e_z493 g_z493 rfl rfl | exact x_rb g_z493 rfl rfl | exact ⟨by omega, by omega⟩)) ?_)
        rintro s495 v ⟨hG_s495, t_s495, z494, rfl, b_z494⟩
        have J_s495 : J s495 := J.fl J_s489 t_s495 (by decide +kernel)
        have TR_s495 : TR s495 := TR.fl TR_s489 (hG_s489 256 1).2 t_s495 (by decide)
        have X1_s495 : X1 s495 := X1.fl X1_s489 t_s495 (by decide +kernel)
        have R1_s495 : R1 s495 := R1.fl R1_s489 t_s495 (by decide +kernel)
        have G1_s495 : G1 s495 := G1.fl G1_s489 t_s495 (by decide +kernel)
        have G3_s495 : G3 s495 := G3.fl G3_s489 t_s495 (by decide +kernel)
        have VCj_s495 : VCj s495 := VCj.fl VCj_s489 hG_s489 t_s495 (by decide)
        have VCl_s495 : VCl s495 := VCl.fl VCl_s489 hG_s489 t_s495 (by decide)
        show xe (some (N, xs)) 231 1144 [(0, .ref 2000), (1, .ref 0), (2, .ref 256), (3, vi x3)] [vj z494] s495 295 10442 _
        refine x_A k231_1144 (fun _ => rfl) ?_
        refine x_goto k231_1145 (t := 1300) rfl ?_
        refine x_iinc k231_1300 (ls' := [(3, vi (x3 + 7)), (0, .ref 2000), (1, .ref 0), (2, .ref 256)]) rfl (by decide) rfl ?_
        refine x_goto k231_1303 (t := 18) rfl ?_
        refine x_ls (l := [(0, .ref 2000), (1, .ref 0), (2, .ref 256), (3, vi (x3 + 7))]) (show ([0, 1, 2, 3] : List Nat).Nodup from by decide +kernel) ⟨rfl, rfl, rfl, rfl, trivial⟩ ?_
        exact ih s495 (x3 + 7) hG_s495 trivial ⟨by omega, by omega⟩ J_s495 TR_s495 X1_s495 R1_s495 G1_s495 G3_s495 VCj_s495 VCl_s495  (by omega)
      · rw [c5]
        refine x_B k231_33 rfl (fun _ => rfl) (fun _ => rfl) (fun _ _ => rfl) ?_
        show xe (some (N, xs)) 231 1148 [(0, .ref 2000), (1, .ref 0), (2, .ref 256), (3, vi x3)] [] s 295 10442 _
        refine x_A k231_1148 (fun _ => rfl) ?_
        refine x_callV k231_1149 (y := 117) (n := 0) (w0 := 0) (w1 := 0) (as := []) (rest := []) (by decide +kernel) (q := 0) (nq := 12) (kq := 3) ⟨by decide, rfl⟩ rfl rfl rfl rfl (xe_mono (C_X10_story_0 s hG) ?_)
        rintro s497 v ⟨hG_s497, t_s497, z496, rfl, g_z496⟩
        have J_s497 : J s497 := J.fl i_J t_s497 (by decide +kernel)
        have TR_s497 : TR s497 := TR.fl i_TR (hG 256 1).2 t_s497 (by decide)
        have X1_s497 : X1 s497 := X1.fl i_X1 t_s497 (by decide +kernel)
        have R1_s497 : R1 s497 := R1.fl i_R1 t_s497 (by decide +kernel)
        have G1_s497 : G1 s497 := G1.fl i_G1 t_s497 (by decide +kernel)
        have G3_s497 : G3 s497 := G3.fl i_G3 t_s497 (by decide +kernel)
        have VCj_s497 : VCj s497 := VCj.fl i_VCj hG t_s497 (by decide)
        have VCl_s497 : VCl s497 := VCl.fl i_VCl hG t_s497 (by decide)
        show xe (some (N, xs)) 231 1152 [(0, .ref 2000), (1, .ref 0), (2, .ref 256), (3, vi x3)] [vi z496] s497 295 10442 _
        refine x_A k231_1152 (fun _ => rfl) ?_
        refine x_A k231_1153 (fun _ => rfl) ?_
        refine x_callV k231_1154 (y := 215) (n := 0) (w0 := 0) (w1 := 0) (as := []) (rest := []) (by decide +kernel) (q := 256) (nq := 62) (kq := 15) ⟨by decide, rfl⟩ rfl rfl rfl rfl (xe_mono (C_X11_story_256 s497 hG_s497) ?_)
        rintro s499 v ⟨hG_s499, t_s499, z498, rfl, g_z498⟩
        have J_s499 : J s499 := J.fl J_s497 t_s499 (by decide +kernel)
        have TR_s499 : TR s499 := TR.fl TR_s497 (hG_s497 256 1).2 t_s499 (by decide)
        have X1_s499 : X1 s499 := X1.fl X1_s497 t_s499 (by decide +kernel)
        have R1_s499 : R1 s499 := R1.fl R1_s497 t_s499 (by decide +kernel)
        have G1_s499 : G1 s499 := G1.fl G1_s497 t_s499 (by decide +kernel)
        have G3_s499 : G3 s499 := G3.fl G3_s497 t_s499 (by decide +kernel)
        have VCj_s499 : VCj s499 := VCj.fl VCj_s497 hG_s497 t_s499 (by decide)
        have VCl_s499 : VCl s499 := VCl.fl VCl_s497 hG_s497 t_s499 (by decide)
        show xe (some (N, xs)) 231 1157 [(0, .ref 2000), (1, .ref 0), (2, .ref 256), (3, vi x3)] [vi z498] s499 295 10442 _
        refine x_A k231_1157 (fun _ => rfl) ?_
        refine x_goto k231_1158 (t := 1300) rfl ?_
        refine x_iinc k231_1300 (ls' := [(3, vi (x3 + 7)), (0, .ref 2000), (1, .ref 0), (2, .ref 256)]) rfl (by decide) rfl ?_
        refine x_goto k231_1303 (t := 18) rfl ?_
        refine x_ls (l := [(0, .ref 2000), (1, .ref 0), (2, .ref 256), (3, vi (x3 + 7))]) (show ([0, 1, 2, 3] : List Nat).Nodup from by decide +kernel) ⟨rfl, rfl, rfl, rfl, trivial⟩ ?_
        exact ih s499 (x3 + 7) hG_s499 trivial ⟨by omega, by omega⟩ J_s499 TR_s499 X1_s499 R1_s499 G1_s499 G3_s499 VCj_s499 VCl_s499  (by omega)
      · rw [c5]
        refine x_B k231_33 rfl (fun _ => rfl) (fun _ => rfl) (fun _ _ => rfl) ?_
        show xe (some (N, xs)) 231 1161 [(0, .ref 2000), (1, .ref 0), (2, .ref 256), (3, vi x3)] [] s 295 10442 _
        refine x_A k231_1161 (fun _ => rfl) ?_
        refine x_A k231_1162 (fun _ => rfl) ?_
        refine x_A k231_1163 (fun _ => rfl) ?_
        refine x_A k231_1164 (fun _ => rfl) ?_
        refine x_iadd k231_1165 ?_
        refine x_top (fun z500 e_z500 => ?_)
        refine x_scr k231_1166 hN ⟨by omega, by omega⟩ (fun z501 g_z501 e_z501 => ?_)
        unfold in32 at g_z501
        refine x_A k231_1167 (fun _ => rfl) ?_
        refine x_A k231_1168 (fun _ => rfl) ?_
        refine x_A k231_1169 (fun _ => rfl) ?_
        refine x_iadd k231_1170 ?_
        refine x_top (fun z502 e_z502 => ?_)
        refine x_scr k231_1171 hN ⟨by omega, by omega⟩ (fun z503 g_z503 e_z503 => ?_)
        unfold in32 at g_z503
        refine x_A k231_1172 (fun _ => rfl) ?_
        refine x_A k231_1173 (fun _ => rfl) ?_
        refine x_A k231_1174 (fun _ => rfl) ?_
        refine x_iadd k231_1175 ?_
        refine x_top (fun z504 e_z504 => ?_)
        refine x_scr k231_1176 hN ⟨by omega, by omega⟩ (fun z505 g_z505 e_z505 => ?_)
        unfold in32 at g_z505
        refine x_callV k231_1177 (y := 118) (n := 3) (w0 := 0) (w1 := 3) (as := [vi z501, vi z503, vi z505]) (rest := []) (by decide +kernel) (q := 0) (nq := 12) (kq := 3) ⟨by decide, rfl⟩ rfl rfl rfl rfl (xe_mono (C_X10_moment_0 s hG z501 (by first | exact x_rbe e_z501 g_z501 rfl rfl | exact x_rb g_z501 rfl rfl | exact ⟨by omega, by omega⟩) z503 (by first | exact x_rbe e_z503 g_z503 rfl rfl | exact x_rb g_z503 rfl rfl | exact ⟨by omega, by omega⟩) z505 (by first | exact x_rbe e_z505 g_z505 rfl rfl | exact x_rb g_z505 rfl rfl | exact ⟨by omega, by omega⟩)) ?_)
        rintro s507 v ⟨hG_s507, t_s507, z506, rfl, g_z506⟩
        have J_s507 : J s507 := J.fl i_J t_s507 (by decide +kernel)
        have TR_s507 : TR s507 := TR.fl i_TR (hG 256 1).2 t_s507 (by decide)
        have X1_s507 : X1 s507 := X1.fl i_X1 t_s507 (by decide +kernel)
        have R1_s507 : R1 s507 := R1.fl i_R1 t_s507 (by decide +kernel)
        have G1_s507 : G1 s507 := G1.fl i_G1 t_s507 (by decide +kernel)
        have G3_s507 : G3 s507 := G3.fl i_G3 t_s507 (by decide +kernel)
        have VCj_s507 : VCj s507 := VCj.fl i_VCj hG t_s507 (by decide)
        have VCl_s507 : VCl s507 := VCl.fl i_VCl hG t_s507 (by decide)
        show xe (some (N, xs)) 231 1180 [(0, .ref 2000), (1, .ref 0), (2, .ref 256), (3, vi x3)] [vi z506] s507 295 10442 _
        refine x_A k231_1180 (fun _ => rfl) ?_
        refine x_A k231_1181 (fun _ => rfl) ?_
        refine x_A k231_1182 (fun _ => rfl) ?_
        refine x_A k231_1183 (fun _ => rfl) ?_
        refine x_A k231_1184 (fun _ => rfl) ?_
        refine x_iadd k231_1185 ?_
        refine x_top (fun z508 e_z508 => ?_)
        refine x_scr k231_1186 hN ⟨by omega, by omega⟩ (fun z509 g_z509 e_z509 => ?_)
        unfold in32 at g_z509
        have q_z509 : z509 = z501 := by rw [e_z509, e_z501, show z508 = z500 by omega]
        refine x_A k231_1187 (fun _ => rfl) ?_
        refine x_A k231_1188 (fun _ => rfl) ?_
        refine x_A k231_1189 (fun _ => rfl) ?_
        refine x_iadd k231_1190 ?_
        refine x_top (fun z510 e_z510 => ?_)
        refine x_scr k231_1191 hN ⟨by omega, by omega⟩ (fun z511 g_z511 e_z511 => ?_)
        unfold in32 at g_z511
        have q_z511 : z511 = z503 := by rw [e_z511, e_z503, show z510 = z502 by omega]
        refine x_A k231_1192 (fun _ => rfl) ?_
        refine x_A k231_1193 (fun _ => rfl) ?_
        refine x_A k231_1194 (fun _ => rfl) ?_
        refine x_iadd k231_1195 ?_
        refine x_top (fun z512 e_z512 => ?_)
        refine x_scr k231_1196 hN ⟨by omega, by omega⟩ (fun z513 g_z513 e_z513 => ?_)
        unfold in32 at g_z513
        have q_z513 : z513 = z505 := by rw [e_z513, e_z505, show z512 = z504 by omega]
        refine x_callV k231_1197 (y := 216) (n := 3) (w0 := 0) (w1 := 3) (as := [vi z509, vi z511, vi z513]) (rest := []) (by decide +kernel) (q := 256) (nq := 62) (kq := 15) ⟨by decide, rfl⟩ rfl rfl rfl rfl (xe_mono (C_X11_moment_256 s507 hG_s507 z509 (by first | exact x_rbe e_z509 g_z509 rfl rfl | exact x_rb g_z509 rfl rfl | exact ⟨by omega, by omega⟩) z511 (by first | exact x_rbe e_z511 g_z511 rfl rfl | exact x_rb g_z511 rfl rfl | exact ⟨by omega, by omega⟩) z513 (by first | exact x_rbe e_z513 g_z513 rfl rfl | exact x_rb g_z513 rfl rfl | exact ⟨by omega, by omega⟩)) ?_)
        rintro s515 v ⟨hG_s515, t_s515, z514, rfl, g_z514⟩
        have J_s515 : J s515 := J.fl J_s507 t_s515 (by decide +kernel)
        have TR_s515 : TR s515 := TR.fl TR_s507 (hG_s507 256 1).2 t_s515 (by decide)
        have X1_s515 : X1 s515 := X1.fl X1_s507 t_s515 (by decide +kernel)
        have R1_s515 : R1 s515 := R1.fl R1_s507 t_s515 (by decide +kernel)
        have G1_s515 : G1 s515 := G1.fl G1_s507 t_s515 (by decide +kernel)
        have G3_s515 : G3 s515 := G3.fl G3_s507 t_s515 (by decide +kernel)
        have VCj_s515 : VCj s515 := VCj.fl VCj_s507 hG_s507 t_s515 (by decide)
        have VCl_s515 : VCl s515 := VCl.fl VCl_s507 hG_s507 t_s515 (by decide)
        show xe (some (N, xs)) 231 1200 [(0, .ref 2000), (1, .ref 0), (2, .ref 256), (3, vi x3)] [vi z514] s515 295 10442 _
        refine x_A k231_1200 (fun _ => rfl) ?_
        refine x_goto k231_1201 (t := 1300) rfl ?_
        refine x_iinc k231_1300 (ls' := [(3, vi (x3 + 7)), (0, .ref 2000), (1, .ref 0), (2, .ref 256)]) rfl (by decide) rfl ?_
        refine x_goto k231_1303 (t := 18) rfl ?_
        refine x_ls (l := [(0, .ref 2000), (1, .ref 0), (2, .ref 256), (3, vi (x3 + 7))]) (show ([0, 1, 2, 3] : List Nat).Nodup from by decide +kernel) ⟨rfl, rfl, rfl, rfl, trivial⟩ ?_
        exact ih s515 (x3 + 7) hG_s515 trivial ⟨by omega, by omega⟩ J_s515 TR_s515 X1_s515 R1_s515 G1_s515 G3_s515 VCj_s515 VCl_s515  (by omega)
      · rw [c5]
        refine x_B k231_33 rfl (fun _ => rfl) (fun _ => rfl) (fun _ _ => rfl) ?_
        show xe (some (N, xs)) 231 1204 [(0, .ref 2000), (1, .ref 0), (2, .ref 256), (3, vi x3)] [] s 295 10442 _
        refine x_A k231_1204 (fun _ => rfl) ?_
        refine x_A k231_1205 (fun _ => rfl) ?_
        refine x_A k231_1206 (fun _ => rfl) ?_
        refine x_A k231_1207 (fun _ => rfl) ?_
        refine x_iadd k231_1208 ?_
        refine x_top (fun z516 e_z516 => ?_)
        refine x_scr k231_1209 hN ⟨by omega, by omega⟩ (fun z517 g_z517 e_z517 => ?_)
        unfold in32 at g_z517
        refine x_A k231_1210 (fun _ => rfl) ?_
        refine x_A k231_1211 (fun _ => rfl) ?_
        refine x_A k231_1212 (fun _ => rfl) ?_
        refine x_iadd k231_1213 ?_
        refine x_top (fun z518 e_z518 => ?_)
        refine x_scr k231_1214 hN ⟨by omega, by omega⟩ (fun z519 g_z519 e_z519 => ?_)
        unfold in32 at g_z519
        refine x_A k231_1215 (fun _ => rfl) ?_
        refine x_A k231_1216 (fun _ => rfl) ?_
        refine x_A k231_1217 (fun _ => rfl) ?_
        refine x_iadd k231_1218 ?_
        refine x_top (fun z520 e_z520 => ?_)
        refine x_scr k231_1219 hN ⟨by omega, by omega⟩ (fun z521 g_z521 e_z521 => ?_)
        unfold in32 at g_z521
        refine x_A k231_1220 (fun _ => rfl) ?_
        refine x_A k231_1221 (fun _ => rfl) ?_
        refine x_A k231_1222 (fun _ => rfl) ?_
        refine x_iadd k231_1223 ?_
        refine x_top (fun z522 e_z522 => ?_)
        refine x_scr k231_1224 hN ⟨by omega, by omega⟩ (fun z523 g_z523 e_z523 => ?_)
        unfold in32 at g_z523
        refine x_callV k231_1225 (y := 119) (n := 4) (w0 := 0) (w1 := 4) (as := [vi z517, vi z519, vi z521, vi z523]) (rest := []) (by decide +kernel) (q := 0) (nq := 12) (kq := 3) ⟨by decide, rfl⟩ rfl rfl rfl rfl (xe_mono (V_X10_of_0 s hG i_J z517 (by first | exact x_rbe e_z517 g_z517 rfl rfl | exact x_rb g_z517 rfl rfl | exact ⟨by omega, by omega⟩) z519 (by first | exact x_rbe e_z519 g_z519 rfl rfl | exact x_rb g_z519 rfl rfl | exact ⟨by omega, by omega⟩) z521 (by first | exact x_rbe e_z521 g_z521 rfl rfl | exact x_rb g_z521 rfl rfl | exact ⟨by omega, by omega⟩) z523 (by first | exact x_rbe e_z523 g_z523 rfl rfl | exact x_rb g_z523 rfl rfl | exact ⟨by omega, by omega⟩) i_R1 i_VCj i_VCl) ?_)
        rintro s525 v ⟨hG_s525, t_s525, z524, rfl, g_z524, VCj_s525, VCl_s525⟩
        have J_s525 : J s525 := J.fl i_J t_s525 (by decide +kernel)
        have TR_s525 : TR s525 := TR.fl i_TR (hG 256 1).2 t_s525 (by decide)
        have X1_s525 : X1 s525 := X1.fl i_X1 t_s525 (by decide +kernel)
        have R1_s525 : R1 s525 := R1.fl i_R1 t_s525 (by decide +kernel)
        have G1_s525 : G1 s525 := G1.fl i_G1 t_s525 (by decide +kernel)
        have G3_s525 : G3 s525 := G3.fl i_G3 t_s525 (by decide +kernel)
        show xe (some (N, xs)) 231 1228 [(0, .ref 2000), (1, .ref 0), (2, .ref 256), (3, vi x3)] [vi z524] s525 295 10442 _
        refine x_A k231_1228 (fun _ => rfl) ?_
        refine x_A k231_1229 (fun _ => rfl) ?_
        refine x_A k231_1230 (fun _ => rfl) ?_
        refine x_A k231_1231 (fun _ => rfl) ?_
        refine x_A k231_1232 (fun _ => rfl) ?_
        refine x_iadd k231_1233 ?_
        refine x_top (fun z526 e_z526 => ?_)
        refine x_scr k231_1234 hN ⟨by omega, by omega⟩ (fun z527 g_z527 e_z527 => ?_)
        unfold in32 at g_z527
        have q_z527 : z527 = z517 := by rw [e_z527, e_z517, show z526 = z516 by omega]
        refine x_A k231_1235 (fun _ => rfl) ?_
        refine x_A k231_1236 (fun _ => rfl) ?_
        refine x_A k231_1237 (fun _ => rfl) ?_
        refine x_iadd k231_1238 ?_
        refine x_top (fun z528 e_z528 => ?_)
        refine x_scr k231_1239 hN ⟨by omega, by omega⟩ (fun z529 g_z529 e_z529 => ?_)
        unfold in32 at g_z529
        have q_z529 : z529 = z519 := by rw [e_z529, e_z519, show z528 = z518 by omega]
        refine x_A k231_1240 (fun _ => rfl) ?_
        refine x_A k231_1241 (fun _ => rfl) ?_
        refine x_A k231_1242 (fun _ => rfl) ?_
        refine x_iadd k231_1243 ?_
        refine x_top (fun z530 e_z530 => ?_)
        refine x_scr k231_1244 hN ⟨by omega, by omega⟩ (fun z531 g_z531 e_z531 => ?_)
        unfold in32 at g_z531
        have q_z531 : z531 = z521 := by rw [e_z531, e_z521, show z530 = z520 by omega]
        refine x_A k231_1245 (fun _ => rfl) ?_
        refine x_A k231_1246 (fun _ => rfl) ?_
        refine x_A k231_1247 (fun _ => rfl) ?_
        refine x_iadd k231_1248 ?_
        refine x_top (fun z532 e_z532 => ?_)
        refine x_scr k231_1249 hN ⟨by omega, by omega⟩ (fun z533 g_z533 e_z533 => ?_)
        unfold in32 at g_z533
        have q_z533 : z533 = z523 := by rw [e_z533, e_z523, show z532 = z522 by omega]
        refine x_callV k231_1250 (y := 217) (n := 4) (w0 := 0) (w1 := 4) (as := [vi z527, vi z529, vi z531, vi z533]) (rest := []) (by decide +kernel) (q := 256) (nq := 62) (kq := 15) ⟨by decide, rfl⟩ rfl rfl rfl rfl (xe_mono (C_X11_of_256 s525 hG_s525 J_s525 z527 (by first | exact x_rbe e_z527 g_z527 rfl rfl | exact x_rb g_z527 rfl rfl | exact ⟨by omega, by omega⟩) z529 (by first | exact x_rbe e_z529 g_z529 rfl rfl | exact x_rb g_z529 rfl rfl | exact ⟨by omega, by omega⟩) z531 (by first | exact x_rbe e_z531 g_z531 rfl rfl | exact x_rb g_z531 rfl rfl | exact ⟨by omega, by omega⟩) z533 (by first | exact x_rbe e_z533 g_z533 rfl rfl | exact x_rb g_z533 rfl rfl | exact ⟨by omega, by omega⟩)) ?_)
        rintro s535 v ⟨hG_s535, t_s535, z534, rfl, g_z534⟩
        have J_s535 : J s535 := J.fl J_s525 t_s535 (by decide +kernel)
        have TR_s535 : TR s535 := TR.fl TR_s525 (hG_s525 256 1).2 t_s535 (by decide)
        have X1_s535 : X1 s535 := X1.fl X1_s525 t_s535 (by decide +kernel)
        have R1_s535 : R1 s535 := R1.fl R1_s525 t_s535 (by decide +kernel)
        have G1_s535 : G1 s535 := G1.fl G1_s525 t_s535 (by decide +kernel)
        have G3_s535 : G3 s535 := G3.fl G3_s525 t_s535 (by decide +kernel)
        have VCj_s535 : VCj s535 := VCj.fl VCj_s525 hG_s525 t_s535 (by decide)
        have VCl_s535 : VCl s535 := VCl.fl VCl_s525 hG_s525 t_s535 (by decide)
        show xe (some (N, xs)) 231 1253 [(0, .ref 2000), (1, .ref 0), (2, .ref 256), (3, vi x3)] [vi z534] s535 295 10442 _
        refine x_A k231_1253 (fun _ => rfl) ?_
        refine x_goto k231_1254 (t := 1300) rfl ?_
        refine x_iinc k231_1300 (ls' := [(3, vi (x3 + 7)), (0, .ref 2000), (1, .ref 0), (2, .ref 256)]) rfl (by decide) rfl ?_
        refine x_goto k231_1303 (t := 18) rfl ?_
        refine x_ls (l := [(0, .ref 2000), (1, .ref 0), (2, .ref 256), (3, vi (x3 + 7))]) (show ([0, 1, 2, 3] : List Nat).Nodup from by decide +kernel) ⟨rfl, rfl, rfl, rfl, trivial⟩ ?_
        exact ih s535 (x3 + 7) hG_s535 trivial ⟨by omega, by omega⟩ J_s535 TR_s535 X1_s535 R1_s535 G1_s535 G3_s535 VCj_s535 VCl_s535  (by omega)
      · rw [c5]
        refine x_B k231_33 rfl (fun _ => rfl) (fun _ => rfl) (fun _ _ => rfl) ?_
        show xe (some (N, xs)) 231 1257 [(0, .ref 2000), (1, .ref 0), (2, .ref 256), (3, vi x3)] [] s 295 10442 _
        refine x_A k231_1257 (fun _ => rfl) ?_
        refine x_A k231_1258 (fun _ => rfl) ?_
        refine x_A k231_1259 (fun _ => rfl) ?_
        refine x_A k231_1260 (fun _ => rfl) ?_
        refine x_iadd k231_1261 ?_
        refine x_top (fun z536 e_z536 => ?_)
        refine x_scr k231_1262 hN ⟨by omega, by omega⟩ (fun z537 g_z537 e_z537 => ?_)
        unfold in32 at g_z537
        refine x_A k231_1263 (fun _ => rfl) ?_
        refine x_A k231_1264 (fun _ => rfl) ?_
        refine x_A k231_1265 (fun _ => rfl) ?_
        refine x_iadd k231_1266 ?_
        refine x_top (fun z538 e_z538 => ?_)
        refine x_scr k231_1267 hN ⟨by omega, by omega⟩ (fun z539 g_z539 e_z539 => ?_)
        unfold in32 at g_z539
        refine x_A k231_1268 (fun _ => rfl) ?_
        refine x_A k231_1269 (fun _ => rfl) ?_
        refine x_A k231_1270 (fun _ => rfl) ?_
        refine x_iadd k231_1271 ?_
        refine x_top (fun z540 e_z540 => ?_)
        refine x_scr k231_1272 hN ⟨by omega, by omega⟩ (fun z541 g_z541 e_z541 => ?_)
        unfold in32 at g_z541
        refine x_callV k231_1273 (y := 120) (n := 3) (w0 := 0) (w1 := 3) (as := [vi z537, vi z539, vi z541]) (rest := []) (by decide +kernel) (q := 0) (nq := 12) (kq := 3) ⟨by decide, rfl⟩ rfl rfl rfl rfl (xe_mono (V_X10_split_0 s hG i_J z537 (by first | exact x_rbe e_z537 g_z537 rfl rfl | exact x_rb g_z537 rfl rfl | exact ⟨by omega, by omega⟩) z539 (by first | exact x_rbe e_z539 g_z539 rfl rfl | exact x_rb g_z539 rfl rfl | exact ⟨by omega, by omega⟩) z541 (by first | exact x_rbe e_z541 g_z541 rfl rfl | exact x_rb g_z541 rfl rfl | exact ⟨by omega, by omega⟩) i_R1 i_VCj i_VCl) ?_)
        rintro s543 v ⟨hG_s543, t_s543, z542, rfl, g_z542, VCj_s543, VCl_s543⟩
        have J_s543 : J s543 := J.fl i_J t_s543 (by decide +kernel)
        have TR_s543 : TR s543 := TR.fl i_TR (hG 256 1).2 t_s543 (by decide)
        have X1_s543 : X1 s543 := X1.fl i_X1 t_s543 (by decide +kernel)
        have R1_s543 : R1 s543 := R1.fl i_R1 t_s543 (by decide +kernel)
        have G1_s543 : G1 s543 := G1.fl i_G1 t_s543 (by decide +kernel)
        have G3_s543 : G3 s543 := G3.fl i_G3 t_s543 (by decide +kernel)
        show xe (some (N, xs)) 231 1276 [(0, .ref 2000), (1, .ref 0), (2, .ref 256), (3, vi x3)] [vi z542] s543 295 10442 _
        refine x_A k231_1276 (fun _ => rfl) ?_
        refine x_A k231_1277 (fun _ => rfl) ?_
        refine x_A k231_1278 (fun _ => rfl) ?_
        refine x_A k231_1279 (fun _ => rfl) ?_
        refine x_A k231_1280 (fun _ => rfl) ?_
        refine x_iadd k231_1281 ?_
        refine x_top (fun z544 e_z544 => ?_)
        refine x_scr k231_1282 hN ⟨by omega, by omega⟩ (fun z545 g_z545 e_z545 => ?_)
        unfold in32 at g_z545
        have q_z545 : z545 = z537 := by rw [e_z545, e_z537, show z544 = z536 by omega]
        refine x_A k231_1283 (fun _ => rfl) ?_
        refine x_A k231_1284 (fun _ => rfl) ?_
        refine x_A k231_1285 (fun _ => rfl) ?_
        refine x_iadd k231_1286 ?_
        refine x_top (fun z546 e_z546 => ?_)
        refine x_scr k231_1287 hN ⟨by omega, by omega⟩ (fun z547 g_z547 e_z547 => ?_)
        unfold in32 at g_z547
        have q_z547 : z547 = z539 := by rw [e_z547, e_z539, show z546 = z538 by omega]
        refine x_A k231_1288 (fun _ => rfl) ?_
        refine x_A k231_1289 (fun _ => rfl) ?_
        refine x_A k231_1290 (fun _ => rfl) ?_
        refine x_iadd k231_1291 ?_
        refine x_top (fun z548 e_z548 => ?_)
        refine x_scr k231_1292 hN ⟨by omega, by omega⟩ (fun z549 g_z549 e_z549 => ?_)
        unfold in32 at g_z549
        have q_z549 : z549 = z541 := by rw [e_z549, e_z541, show z548 = z540 by omega]
        refine x_callV k231_1293 (y := 218) (n := 3) (w0 := 0) (w1 := 3) (as := [vi z545, vi z547, vi z549]) (rest := []) (by decide +kernel) (q := 256) (nq := 62) (kq := 15) ⟨by decide, rfl⟩ rfl rfl rfl rfl (xe_mono (C_X11_split_256 s543 hG_s543 J_s543 z545 (by first | exact x_rbe e_z545 g_z545 rfl rfl | exact x_rb g_z545 rfl rfl | exact ⟨by omega, by omega⟩) z547 (by first | exact x_rbe e_z547 g_z547 rfl rfl | exact x_rb g_z547 rfl rfl | exact ⟨by omega, by omega⟩) z549 (by first | exact x_rbe e_z549 g_z549 rfl rfl | exact x_rb g_z549 rfl rfl | exact ⟨by omega, by omega⟩)) ?_)
        rintro s551 v ⟨hG_s551, t_s551, z550, rfl, g_z550⟩
        have J_s551 : J s551 := J.fl J_s543 t_s551 (by decide +kernel)
        have TR_s551 : TR s551 := TR.fl TR_s543 (hG_s543 256 1).2 t_s551 (by decide)
        have X1_s551 : X1 s551 := X1.fl X1_s543 t_s551 (by decide +kernel)
        have R1_s551 : R1 s551 := R1.fl R1_s543 t_s551 (by decide +kernel)
        have G1_s551 : G1 s551 := G1.fl G1_s543 t_s551 (by decide +kernel)
        have G3_s551 : G3 s551 := G3.fl G3_s543 t_s551 (by decide +kernel)
        have VCj_s551 : VCj s551 := VCj.fl VCj_s543 hG_s543 t_s551 (by decide)
        have VCl_s551 : VCl s551 := VCl.fl VCl_s543 hG_s543 t_s551 (by decide)
        show xe (some (N, xs)) 231 1296 [(0, .ref 2000), (1, .ref 0), (2, .ref 256), (3, vi x3)] [vi z550] s551 295 10442 _
        refine x_A k231_1296 (fun _ => rfl) ?_
        refine x_goto k231_1297 (t := 1300) rfl ?_
        refine x_iinc k231_1300 (ls' := [(3, vi (x3 + 7)), (0, .ref 2000), (1, .ref 0), (2, .ref 256)]) rfl (by decide) rfl ?_
        refine x_goto k231_1303 (t := 18) rfl ?_
        refine x_ls (l := [(0, .ref 2000), (1, .ref 0), (2, .ref 256), (3, vi (x3 + 7))]) (show ([0, 1, 2, 3] : List Nat).Nodup from by decide +kernel) ⟨rfl, rfl, rfl, rfl, trivial⟩ ?_
        exact ih s551 (x3 + 7) hG_s551 trivial ⟨by omega, by omega⟩ J_s551 TR_s551 X1_s551 R1_s551 G1_s551 G3_s551 VCj_s551 VCl_s551  (by omega)
      · refine x_tabD k231_33 ⟨by omega, by omega⟩ c5 (t0 := 1300) rfl ?_
        refine x_iinc k231_1300 (ls' := [(3, vi (x3 + 7)), (0, .ref 2000), (1, .ref 0), (2, .ref 256)]) rfl (by decide) rfl ?_
        refine x_goto k231_1303 (t := 18) rfl ?_
        refine x_ls (l := [(0, .ref 2000), (1, .ref 0), (2, .ref 256), (3, vi (x3 + 7))]) (show ([0, 1, 2, 3] : List Nat).Nodup from by decide +kernel) ⟨rfl, rfl, rfl, rfl, trivial⟩ ?_
        exact ih s (x3 + 7) hG f ⟨by omega, by omega⟩ i_J i_TR i_X1 i_R1 i_G1 i_G3 i_VCj i_VCl  (by omega)
