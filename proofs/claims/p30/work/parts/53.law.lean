set_option maxHeartbeats 8000000 in
theorem law_loop (N : Nat) (xs : Nat → Int32) (hN : N ≤ 3584)  : ∀ (n : Nat) (s : xS) (x3 : Int) (hG : GI s) (f : True) (b_x3 : 0 ≤ x3 ∧ x3 ≤ 3584) (i_J : J s) (i_TR : TR s) (i_X1 : X1 s) (i_R1 : R1 s) (i_G1 : G1 s) (i_G3 : G3 s) (i_S1 : S1 s) (i_S2 : S2 s) (i_VCj : VCj s) (i_VCl : VCl s)  (hm : (3584 - x3) < (n : Int)), xe (some (N, xs)) 231 18 [(0, .ref 2000), (1, .ref 0), (2, .ref 256), (3, vi x3)] [] s 295 10442 (fun _ v => v = some (vi 1)) := by
  intro n
  induction n with
  | zero => intro s x3 hG f b_x3 i_J i_TR i_X1 i_R1 i_G1 i_G3 i_S1 i_S2 i_VCj i_VCl  hm; exfalso; omega
  | succ n ih =>
    intro s x3 hG f b_x3 i_J i_TR i_X1 i_R1 i_G1 i_G3 i_S1 i_S2 i_VCj i_VCl  hm
    refine x_A k231_18 (fun _ => rfl) ?_
    refine x_A k231_19 (fun _ => rfl) ?_
    refine x_slen k231_20 ?_
    refine x_bipush k231_21 (by decide +kernel) ?_
    refine x_isub k231_23 ?_
    refine x_top (fun z1 e_z1 => ?_)
    refine x_ic_gt k231_24 (t := 1306) rfl ⟨by omega, by omega⟩ ⟨by omega, by omega⟩ (fun c2 => ?_) (fun c2 => ?_)
    · skip
      refine x_A k231_1306 (fun _ => rfl) ?_
      exact x_zret k231_1307 rfl ⟨by omega, by omega⟩ rfl
    · skip
      refine x_A k231_27 (fun _ => rfl) ?_
      refine x_A k231_28 (fun _ => rfl) ?_
      refine x_scr k231_29 hN ⟨by omega, by omega⟩ (fun z3 g_z3 e_z3 => ?_)
      unfold in32 at g_z3
      refine x_bipush k231_30 (by decide +kernel) ?_
      refine x_and_mask k231_32 ⟨by omega, by omega⟩ (fun z4 g_z4 => ?_)
      have c5 : z4 = 0 ∨ z4 = 1 ∨ z4 = 2 ∨ z4 = 3 ∨ z4 = 4 ∨ z4 = 5 ∨ z4 = 6 ∨ z4 = 7 ∨ z4 = 8 ∨ z4 = 9 ∨ z4 = 10 ∨ z4 = 11 ∨ z4 = 12 ∨ z4 = 13 ∨ z4 = 14 ∨ z4 = 15 ∨ z4 = 16 ∨ z4 = 17 ∨ z4 = 18 ∨ z4 = 19 ∨ z4 = 20 ∨ z4 = 21 ∨ z4 = 22 ∨ z4 = 23 ∨ z4 = 24 ∨ z4 = 25 ∨ z4 = 26 ∨ z4 = 27 ∨ z4 = 28 ∨ z4 = 29 ∨ ¬ (0 ≤ z4 ∧ z4 ≤ 29) := by omega
      rcases c5 with c5 | c5 | c5 | c5 | c5 | c5 | c5 | c5 | c5 | c5 | c5 | c5 | c5 | c5 | c5 | c5 | c5 | c5 | c5 | c5 | c5 | c5 | c5 | c5 | c5 | c5 | c5 | c5 | c5 | c5 | c5
      · rw [c5]
        refine x_B k231_33 rfl (fun _ => rfl) (fun _ => rfl) (fun _ _ => rfl) ?_
        show xe (some (N, xs)) 231 168 [(0, .ref 2000), (1, .ref 0), (2, .ref 256), (3, vi x3)] [] s 295 10442 _
        refine x_A k231_168 (fun _ => rfl) ?_
        refine x_callV k231_169 (y := 91) (n := 0) (w0 := 0) (w1 := 0) (as := []) (rest := []) (by decide +kernel) (q := 0) (nq := 12) (kq := 3) ⟨by decide, rfl⟩ rfl rfl rfl rfl (xe_mono (C_X10_edition_0 s hG) ?_)
        rintro s7 v ⟨hG_s7, t_s7, z6, rfl, g_z6, xp_z6⟩
        have J_s7 : J s7 := J.fl i_J t_s7 (by decide)
        have X1_s7 : X1 s7 := X1.fl i_X1 t_s7 (by decide)
        have R1_s7 : R1 s7 := R1.fl i_R1 t_s7 (by decide)
        have G1_s7 : G1 s7 := G1.fl i_G1 t_s7 (by decide)
        have S1_s7 : S1 s7 := S1.fl i_S1 t_s7 (by decide)
        have S2_s7 : S2 s7 := S2.fl i_S2 t_s7 (by decide)
        have VCj_s7 : VCj s7 := VCj.fl i_VCj hG t_s7 (by decide)
        have VCl_s7 : VCl s7 := VCl.fl i_VCl hG t_s7 (by decide)
        obtain ⟨z8, e_z8⟩ : ∃ z, z = s7 0 10 := ⟨_, rfl⟩
        have g_z8 : (0 : Int) ≤ s7 0 10 ∧ s7 0 10 ≤ 9 := hG_s7 0 10
        show xe (some (N, xs)) 231 172 [(0, .ref 2000), (1, .ref 0), (2, .ref 256), (3, vi x3)] [vi z6] s7 295 10442 _
        refine x_A k231_172 (fun _ => rfl) ?_
        refine x_A k231_173 (fun _ => rfl) ?_
        refine x_callV k231_174 (y := 145) (n := 0) (w0 := 0) (w1 := 0) (as := []) (rest := []) (by decide +kernel) (q := 256) (nq := 62) (kq := 15) ⟨by decide, rfl⟩ rfl rfl rfl rfl (xe_mono (D_X11_edition_256 s7 hG_s7 J_s7) ?_)
        rintro s10 v ⟨hG_s10, t_s10, z9, rfl, g_z9, xp_z9, J_s10⟩
        have q11 : s10 0 10 = z8 := (t_s10 0 10 (show 11 ∉ [4097] from by decide)).trans e_z8.symm
        have X1_s10 : X1 s10 := X1.fl X1_s7 t_s10 (by decide)
        have R1_s10 : R1 s10 := R1.fl R1_s7 t_s10 (by decide)
        have G1_s10 : G1 s10 := G1.fl G1_s7 t_s10 (by decide)
        have S1_s10 : S1 s10 := S1.fl S1_s7 t_s10 (by decide)
        have S2_s10 : S2 s10 := S2.fl S2_s7 t_s10 (by decide)
        have VCj_s10 : VCj s10 := VCj.fl VCj_s7 hG_s7 t_s10 (by decide)
        have VCl_s10 : VCl s10 := VCl.fl VCl_s7 hG_s7 t_s10 (by decide)
        obtain ⟨z12, e_z12⟩ : ∃ z, z = s10 256 0 := ⟨_, rfl⟩
        have g_z12 : (0 : Int) ≤ s10 256 0 ∧ s10 256 0 ≤ 9 := hG_s10 256 0
        show xe (some (N, xs)) 231 177 [(0, .ref 2000), (1, .ref 0), (2, .ref 256), (3, vi x3)] [vi z9] s10 295 10442 _
        obtain ⟨ez_s10, TR_s10⟩ := TR.ed i_TR hG t_s7 t_s10 (by decide) (by decide) xp_z6 xp_z9
        have G3_s10 := G3.ed i_G3 t_s7 t_s10 (by decide) (by decide) xp_z6
        refine x_A k231_177 (fun _ => rfl) ?_
        refine x_goto k231_178 (t := 1300) rfl ?_
        refine x_iinc k231_1300 (ls' := [(3, vi (x3 + 7)), (0, .ref 2000), (1, .ref 0), (2, .ref 256)]) rfl (by decide) rfl ?_
        refine x_goto k231_1303 (t := 18) rfl ?_
        refine x_ls (l := [(0, .ref 2000), (1, .ref 0), (2, .ref 256), (3, vi (x3 + 7))]) (show ([0, 1, 2, 3] : List Nat).Nodup from by decide) ⟨rfl, rfl, rfl, rfl, trivial⟩ ?_
        exact ih s10 (x3 + 7) hG_s10 trivial ⟨by omega, by omega⟩ J_s10 TR_s10 X1_s10 R1_s10 G1_s10 G3_s10 S1_s10 S2_s10 VCj_s10 VCl_s10  (by omega)
      · rw [c5]
        refine x_B k231_33 rfl (fun _ => rfl) (fun _ => rfl) (fun _ _ => rfl) ?_
        show xe (some (N, xs)) 231 181 [(0, .ref 2000), (1, .ref 0), (2, .ref 256), (3, vi x3)] [] s 295 10442 _
        refine x_A k231_181 (fun _ => rfl) ?_
        refine x_A k231_182 (fun _ => rfl) ?_
        refine x_A k231_183 (fun _ => rfl) ?_
        refine x_A k231_184 (fun _ => rfl) ?_
        refine x_iadd k231_185 ?_
        refine x_top (fun z13 e_z13 => ?_)
        refine x_scr k231_186 hN ⟨by omega, by omega⟩ (fun z14 g_z14 e_z14 => ?_)
        unfold in32 at g_z14
        obtain ⟨z15, e_z15⟩ : ∃ z, z = s 1 4 := ⟨_, rfl⟩
        have g_z15 : (1 : Int) ≤ s 1 4 ∧ s 1 4 ≤ 40 := hG 1 4
        obtain ⟨z16, e_z16⟩ : ∃ z, z = s 0 10 := ⟨_, rfl⟩
        have g_z16 : (0 : Int) ≤ s 0 10 ∧ s 0 10 ≤ 9 := hG 0 10
        refine x_callV k231_187 (y := 92) (n := 1) (w0 := 0) (w1 := 1) (as := [vi z14]) (rest := []) (by decide +kernel) (q := 0) (nq := 12) (kq := 3) ⟨by decide, rfl⟩ rfl rfl rfl rfl (xe_mono (V_X10_mark_0 s hG z14 ⟨by omega, by omega⟩ ⟨by omega, by omega⟩ ⟨by omega, by omega⟩ i_VCj i_VCl) ?_)
        rintro s18 v ⟨hG_s18, t_s18, z17, rfl, g_z17, xp_z17, VCj_s18, VCl_s18⟩
        have q19 : s18 0 10 = z16 := (t_s18 0 10 (show 11 ∉ [69, 128, 384, 3276, 3277] from by decide)).trans e_z16.symm
        have J_s18 : J s18 := J.fl i_J t_s18 (by decide)
        have X1_s18 : X1 s18 := X1.fl i_X1 t_s18 (by decide)
        have R1_s18 : R1 s18 := R1.fl i_R1 t_s18 (by decide)
        have G1_s18 : G1 s18 := G1.fl i_G1 t_s18 (by decide)
        have S1_s18 : S1 s18 := S1.fl i_S1 t_s18 (by decide)
        have S2_s18 : S2 s18 := S2.fl i_S2 t_s18 (by decide)
        obtain ⟨z20, e_z20⟩ : ∃ z, z = s18 1 4 := ⟨_, rfl⟩
        have g_z20 : (1 : Int) ≤ s18 1 4 ∧ s18 1 4 ≤ 40 := hG_s18 1 4
        show xe (some (N, xs)) 231 190 [(0, .ref 2000), (1, .ref 0), (2, .ref 256), (3, vi x3)] [vi z17] s18 295 10442 _
        refine x_A k231_190 (fun _ => rfl) ?_
        refine x_A k231_191 (fun _ => rfl) ?_
        refine x_A k231_192 (fun _ => rfl) ?_
        refine x_A k231_193 (fun _ => rfl) ?_
        refine x_A k231_194 (fun _ => rfl) ?_
        refine x_iadd k231_195 ?_
        refine x_top (fun z21 e_z21 => ?_)
        refine x_scr k231_196 hN ⟨by omega, by omega⟩ (fun z22 g_z22 e_z22 => ?_)
        unfold in32 at g_z22
        have q_z22 : z22 = z14 := by rw [e_z22, e_z14, show z21 = z13 by omega]
        obtain ⟨z23, e_z23⟩ : ∃ z, z = s18 256 1 := ⟨_, rfl⟩
        have g_z23 : (1 : Int) ≤ s18 256 1 ∧ s18 256 1 ≤ 40 := hG_s18 256 1
        obtain ⟨z24, e_z24⟩ : ∃ z, z = s18 256 0 := ⟨_, rfl⟩
        have g_z24 : (0 : Int) ≤ s18 256 0 ∧ s18 256 0 ≤ 9 := hG_s18 256 0
        refine x_callV k231_197 (y := 146) (n := 1) (w0 := 0) (w1 := 1) (as := [vi z22]) (rest := []) (by decide +kernel) (q := 256) (nq := 62) (kq := 15) ⟨by decide, rfl⟩ rfl rfl rfl rfl (xe_mono (V_X11_mark_256 s18 hG_s18 z22 ⟨by omega, by omega⟩ ⟨by omega, by omega⟩ ⟨by omega, by omega⟩ J_s18) ?_)
        rintro s26 v ⟨hG_s26, t_s26, z25, rfl, g_z25, xp_z25, J_s26⟩
        have q27 : s26 0 10 = z16 := (t_s26 0 10 (show 11 ∉ [4098, 4160, 4224, 4288, 4352] from by decide)).trans q19
        have q28 : s26 1 4 = z20 := (t_s26 1 4 (show 69 ∉ [4098, 4160, 4224, 4288, 4352] from by decide)).trans e_z20.symm
        have q29 : s26 256 0 = z24 := (t_s26 256 0 (show 4097 ∉ [4098, 4160, 4224, 4288, 4352] from by decide)).trans e_z24.symm
        have X1_s26 : X1 s26 := X1.fl X1_s18 t_s26 (by decide)
        have R1_s26 : R1 s26 := R1.fl R1_s18 t_s26 (by decide)
        have G1_s26 : G1 s26 := G1.fl G1_s18 t_s26 (by decide)
        have S1_s26 : S1 s26 := S1.fl S1_s18 t_s26 (by decide)
        have S2_s26 : S2 s26 := S2.fl S2_s18 t_s26 (by decide)
        have VCj_s26 : VCj s26 := VCj.fl VCj_s18 hG_s18 t_s26 (by decide)
        have VCl_s26 : VCl s26 := VCl.fl VCl_s18 hG_s18 t_s26 (by decide)
        obtain ⟨z30, e_z30⟩ : ∃ z, z = s26 256 1 := ⟨_, rfl⟩
        have g_z30 : (1 : Int) ≤ s26 256 1 ∧ s26 256 1 ≤ 40 := hG_s26 256 1
        show xe (some (N, xs)) 231 200 [(0, .ref 2000), (1, .ref 0), (2, .ref 256), (3, vi x3)] [vi z25] s26 295 10442 _
        obtain ⟨ez_s26, TR_s26⟩ := TR.mark i_TR hG t_s18 t_s26 (by decide) (by decide) xp_z17 (by rw [← q_z22]; exact xp_z25)
        have G3_s26 := G3.mark i_G3 hG t_s18 t_s26 (by decide) (by decide) xp_z17.1
        refine x_A k231_200 (fun _ => rfl) ?_
        refine x_goto k231_201 (t := 1300) rfl ?_
        refine x_iinc k231_1300 (ls' := [(3, vi (x3 + 7)), (0, .ref 2000), (1, .ref 0), (2, .ref 256)]) rfl (by decide) rfl ?_
        refine x_goto k231_1303 (t := 18) rfl ?_
        refine x_ls (l := [(0, .ref 2000), (1, .ref 0), (2, .ref 256), (3, vi (x3 + 7))]) (show ([0, 1, 2, 3] : List Nat).Nodup from by decide) ⟨rfl, rfl, rfl, rfl, trivial⟩ ?_
        exact ih s26 (x3 + 7) hG_s26 trivial ⟨by omega, by omega⟩ J_s26 TR_s26 X1_s26 R1_s26 G1_s26 G3_s26 S1_s26 S2_s26 VCj_s26 VCl_s26  (by omega)
      · rw [c5]
        refine x_B k231_33 rfl (fun _ => rfl) (fun _ => rfl) (fun _ _ => rfl) ?_
        show xe (some (N, xs)) 231 204 [(0, .ref 2000), (1, .ref 0), (2, .ref 256), (3, vi x3)] [] s 295 10442 _
        refine x_A k231_204 (fun _ => rfl) ?_
        refine x_A k231_205 (fun _ => rfl) ?_
        refine x_A k231_206 (fun _ => rfl) ?_
        refine x_A k231_207 (fun _ => rfl) ?_
        refine x_iadd k231_208 ?_
        refine x_top (fun z31 e_z31 => ?_)
        refine x_scr k231_209 hN ⟨by omega, by omega⟩ (fun z32 g_z32 e_z32 => ?_)
        unfold in32 at g_z32
        refine x_A k231_210 (fun _ => rfl) ?_
        refine x_A k231_211 (fun _ => rfl) ?_
        refine x_A k231_212 (fun _ => rfl) ?_
        refine x_iadd k231_213 ?_
        refine x_top (fun z33 e_z33 => ?_)
        refine x_scr k231_214 hN ⟨by omega, by omega⟩ (fun z34 g_z34 e_z34 => ?_)
        unfold in32 at g_z34
        obtain ⟨z35, e_z35⟩ : ∃ z, z = s 1 4 := ⟨_, rfl⟩
        have g_z35 : (1 : Int) ≤ s 1 4 ∧ s 1 4 ≤ 40 := hG 1 4
        obtain ⟨z36, e_z36⟩ : ∃ z, z = s 0 10 := ⟨_, rfl⟩
        have g_z36 : (0 : Int) ≤ s 0 10 ∧ s 0 10 ≤ 9 := hG 0 10
        refine x_callV k231_215 (y := 93) (n := 2) (w0 := 0) (w1 := 2) (as := [vi z32, vi z34]) (rest := []) (by decide +kernel) (q := 0) (nq := 12) (kq := 3) ⟨by decide, rfl⟩ rfl rfl rfl rfl (xe_mono (V_X10_move_0 s hG z32 ⟨by omega, by omega⟩ z34 ⟨by omega, by omega⟩ ⟨by omega, by omega⟩ ⟨by omega, by omega⟩ i_VCj i_VCl) ?_)
        rintro s38 v ⟨hG_s38, t_s38, z37, rfl, g_z37, xp_z37, VCj_s38, VCl_s38⟩
        have q39 : s38 1 4 = z35 := (t_s38 1 4 (show 69 ∉ [384, 3276, 3277] from by decide)).trans e_z35.symm
        have q40 : s38 0 10 = z36 := (t_s38 0 10 (show 11 ∉ [384, 3276, 3277] from by decide)).trans e_z36.symm
        have J_s38 : J s38 := J.fl i_J t_s38 (by decide)
        have X1_s38 : X1 s38 := X1.fl i_X1 t_s38 (by decide)
        have R1_s38 : R1 s38 := R1.fl i_R1 t_s38 (by decide)
        have G1_s38 : G1 s38 := G1.fl i_G1 t_s38 (by decide)
        have G3_s38 : G3 s38 := G3.fl i_G3 t_s38 (by decide)
        have S1_s38 : S1 s38 := S1.fl i_S1 t_s38 (by decide)
        have S2_s38 : S2 s38 := S2.fl i_S2 t_s38 (by decide)
        show xe (some (N, xs)) 231 218 [(0, .ref 2000), (1, .ref 0), (2, .ref 256), (3, vi x3)] [vi z37] s38 295 10442 _
        refine x_A k231_218 (fun _ => rfl) ?_
        refine x_A k231_219 (fun _ => rfl) ?_
        refine x_A k231_220 (fun _ => rfl) ?_
        refine x_A k231_221 (fun _ => rfl) ?_
        refine x_A k231_222 (fun _ => rfl) ?_
        refine x_iadd k231_223 ?_
        refine x_top (fun z41 e_z41 => ?_)
        refine x_scr k231_224 hN ⟨by omega, by omega⟩ (fun z42 g_z42 e_z42 => ?_)
        unfold in32 at g_z42
        have q_z42 : z42 = z32 := by rw [e_z42, e_z32, show z41 = z31 by omega]
        refine x_A k231_225 (fun _ => rfl) ?_
        refine x_A k231_226 (fun _ => rfl) ?_
        refine x_A k231_227 (fun _ => rfl) ?_
        refine x_iadd k231_228 ?_
        refine x_top (fun z43 e_z43 => ?_)
        refine x_scr k231_229 hN ⟨by omega, by omega⟩ (fun z44 g_z44 e_z44 => ?_)
        unfold in32 at g_z44
        have q_z44 : z44 = z34 := by rw [e_z44, e_z34, show z43 = z33 by omega]
        obtain ⟨z45, e_z45⟩ : ∃ z, z = s38 256 1 := ⟨_, rfl⟩
        have g_z45 : (1 : Int) ≤ s38 256 1 ∧ s38 256 1 ≤ 40 := hG_s38 256 1
        obtain ⟨z46, e_z46⟩ : ∃ z, z = s38 256 0 := ⟨_, rfl⟩
        have g_z46 : (0 : Int) ≤ s38 256 0 ∧ s38 256 0 ≤ 9 := hG_s38 256 0
        refine x_callV k231_230 (y := 147) (n := 2) (w0 := 0) (w1 := 2) (as := [vi z42, vi z44]) (rest := []) (by decide +kernel) (q := 256) (nq := 62) (kq := 15) ⟨by decide, rfl⟩ rfl rfl rfl rfl (xe_mono (E_X11_move_256 s38 hG_s38 z42 ⟨by omega, by omega⟩ z44 ⟨by omega, by omega⟩ ⟨by omega, by omega⟩ ⟨by omega, by omega⟩ J_s38) ?_)
        rintro s48 v ⟨hG_s48, t_s48, z47, rfl, g_z47, xp_z47, J_s48⟩
        have q49 : s48 1 4 = z35 := (t_s48 1 4 (show 69 ∉ [4352] from by decide)).trans q39
        have q50 : s48 0 10 = z36 := (t_s48 0 10 (show 11 ∉ [4352] from by decide)).trans q40
        have q51 : s48 256 1 = z45 := (t_s48 256 1 (show 4098 ∉ [4352] from by decide)).trans e_z45.symm
        have q52 : s48 256 0 = z46 := (t_s48 256 0 (show 4097 ∉ [4352] from by decide)).trans e_z46.symm
        have X1_s48 : X1 s48 := X1.fl X1_s38 t_s48 (by decide)
        have R1_s48 : R1 s48 := R1.fl R1_s38 t_s48 (by decide)
        have G1_s48 : G1 s48 := G1.fl G1_s38 t_s48 (by decide)
        have G3_s48 : G3 s48 := G3.fl G3_s38 t_s48 (by decide)
        have S1_s48 : S1 s48 := S1.fl S1_s38 t_s48 (by decide)
        have S2_s48 : S2 s48 := S2.fl S2_s38 t_s48 (by decide)
        have VCj_s48 : VCj s48 := VCj.fl VCj_s38 hG_s38 t_s48 (by decide)
        have VCl_s48 : VCl s48 := VCl.fl VCl_s38 hG_s38 t_s48 (by decide)
        show xe (some (N, xs)) 231 233 [(0, .ref 2000), (1, .ref 0), (2, .ref 256), (3, vi x3)] [vi z47] s48 295 10442 _
        obtain ⟨ez_s48, TR_s48⟩ := TR.move i_TR i_J hG t_s38 t_s48 (by decide) (by decide) xp_z37 (by rw [← q_z42, ← q_z44]; exact xp_z47)
        refine x_A k231_233 (fun _ => rfl) ?_
        refine x_goto k231_234 (t := 1300) rfl ?_
        refine x_iinc k231_1300 (ls' := [(3, vi (x3 + 7)), (0, .ref 2000), (1, .ref 0), (2, .ref 256)]) rfl (by decide) rfl ?_
        refine x_goto k231_1303 (t := 18) rfl ?_
        refine x_ls (l := [(0, .ref 2000), (1, .ref 0), (2, .ref 256), (3, vi (x3 + 7))]) (show ([0, 1, 2, 3] : List Nat).Nodup from by decide) ⟨rfl, rfl, rfl, rfl, trivial⟩ ?_
        exact ih s48 (x3 + 7) hG_s48 trivial ⟨by omega, by omega⟩ J_s48 TR_s48 X1_s48 R1_s48 G1_s48 G3_s48 S1_s48 S2_s48 VCj_s48 VCl_s48  (by omega)
      · rw [c5]
        refine x_B k231_33 rfl (fun _ => rfl) (fun _ => rfl) (fun _ _ => rfl) ?_
        show xe (some (N, xs)) 231 237 [(0, .ref 2000), (1, .ref 0), (2, .ref 256), (3, vi x3)] [] s 295 10442 _
        refine x_A k231_237 (fun _ => rfl) ?_
        refine x_A k231_238 (fun _ => rfl) ?_
        refine x_A k231_239 (fun _ => rfl) ?_
        refine x_A k231_240 (fun _ => rfl) ?_
        refine x_iadd k231_241 ?_
        refine x_top (fun z53 e_z53 => ?_)
        refine x_scr k231_242 hN ⟨by omega, by omega⟩ (fun z54 g_z54 e_z54 => ?_)
        unfold in32 at g_z54
        refine x_A k231_243 (fun _ => rfl) ?_
        refine x_A k231_244 (fun _ => rfl) ?_
        refine x_A k231_245 (fun _ => rfl) ?_
        refine x_iadd k231_246 ?_
        refine x_top (fun z55 e_z55 => ?_)
        refine x_scr k231_247 hN ⟨by omega, by omega⟩ (fun z56 g_z56 e_z56 => ?_)
        unfold in32 at g_z56
        obtain ⟨z57, e_z57⟩ : ∃ z, z = s 1 4 := ⟨_, rfl⟩
        have g_z57 : (1 : Int) ≤ s 1 4 ∧ s 1 4 ≤ 40 := hG 1 4
        obtain ⟨z58, e_z58⟩ : ∃ z, z = s 0 10 := ⟨_, rfl⟩
        have g_z58 : (0 : Int) ≤ s 0 10 ∧ s 0 10 ≤ 9 := hG 0 10
        refine x_callV k231_248 (y := 94) (n := 2) (w0 := 0) (w1 := 2) (as := [vi z54, vi z56]) (rest := []) (by decide +kernel) (q := 0) (nq := 12) (kq := 3) ⟨by decide, rfl⟩ rfl rfl rfl rfl (xe_mono (V_X10_end_0 s hG z54 ⟨by omega, by omega⟩ z56 ⟨by omega, by omega⟩ ⟨by omega, by omega⟩ ⟨by omega, by omega⟩ i_VCj i_VCl) ?_)
        rintro s60 v ⟨hG_s60, t_s60, z59, rfl, g_z59, xp_z59, VCj_s60, VCl_s60⟩
        have q61 : s60 1 4 = z57 := (t_s60 1 4 (show 69 ∉ [192, 256, 3276, 3277] from by decide)).trans e_z57.symm
        have q62 : s60 0 10 = z58 := (t_s60 0 10 (show 11 ∉ [192, 256, 3276, 3277] from by decide)).trans e_z58.symm
        have J_s60 : J s60 := J.fl i_J t_s60 (by decide)
        have X1_s60 : X1 s60 := X1.fl i_X1 t_s60 (by decide)
        have R1_s60 : R1 s60 := R1.fl i_R1 t_s60 (by decide)
        have G1_s60 : G1 s60 := G1.fl i_G1 t_s60 (by decide)
        have G3_s60 : G3 s60 := G3.fl i_G3 t_s60 (by decide)
        have S1_s60 : S1 s60 := S1.fl i_S1 t_s60 (by decide)
        have S2_s60 : S2 s60 := S2.fl i_S2 t_s60 (by decide)
        show xe (some (N, xs)) 231 251 [(0, .ref 2000), (1, .ref 0), (2, .ref 256), (3, vi x3)] [vi z59] s60 295 10442 _
        refine x_A k231_251 (fun _ => rfl) ?_
        refine x_A k231_252 (fun _ => rfl) ?_
        refine x_A k231_253 (fun _ => rfl) ?_
        refine x_A k231_254 (fun _ => rfl) ?_
        refine x_A k231_255 (fun _ => rfl) ?_
        refine x_iadd k231_256 ?_
        refine x_top (fun z63 e_z63 => ?_)
        refine x_scr k231_257 hN ⟨by omega, by omega⟩ (fun z64 g_z64 e_z64 => ?_)
        unfold in32 at g_z64
        have q_z64 : z64 = z54 := by rw [e_z64, e_z54, show z63 = z53 by omega]
        refine x_A k231_258 (fun _ => rfl) ?_
        refine x_A k231_259 (fun _ => rfl) ?_
        refine x_A k231_260 (fun _ => rfl) ?_
        refine x_iadd k231_261 ?_
        refine x_top (fun z65 e_z65 => ?_)
        refine x_scr k231_262 hN ⟨by omega, by omega⟩ (fun z66 g_z66 e_z66 => ?_)
        unfold in32 at g_z66
        have q_z66 : z66 = z56 := by rw [e_z66, e_z56, show z65 = z55 by omega]
        obtain ⟨z67, e_z67⟩ : ∃ z, z = s60 256 1 := ⟨_, rfl⟩
        have g_z67 : (1 : Int) ≤ s60 256 1 ∧ s60 256 1 ≤ 40 := hG_s60 256 1
        obtain ⟨z68, e_z68⟩ : ∃ z, z = s60 256 0 := ⟨_, rfl⟩
        have g_z68 : (0 : Int) ≤ s60 256 0 ∧ s60 256 0 ≤ 9 := hG_s60 256 0
        refine x_callV k231_263 (y := 148) (n := 2) (w0 := 0) (w1 := 2) (as := [vi z64, vi z66]) (rest := []) (by decide +kernel) (q := 256) (nq := 62) (kq := 15) ⟨by decide, rfl⟩ rfl rfl rfl rfl (xe_mono (V_X11_end_256 s60 hG_s60 z64 ⟨by omega, by omega⟩ z66 ⟨by omega, by omega⟩ ⟨by omega, by omega⟩ ⟨by omega, by omega⟩ J_s60) ?_)
        rintro s70 v ⟨hG_s70, t_s70, z69, rfl, g_z69, xp_z69, J_s70⟩
        have q71 : s70 1 4 = z57 := (t_s70 1 4 (show 69 ∉ [4224, 4288] from by decide)).trans q61
        have q72 : s70 0 10 = z58 := (t_s70 0 10 (show 11 ∉ [4224, 4288] from by decide)).trans q62
        have q73 : s70 256 1 = z67 := (t_s70 256 1 (show 4098 ∉ [4224, 4288] from by decide)).trans e_z67.symm
        have q74 : s70 256 0 = z68 := (t_s70 256 0 (show 4097 ∉ [4224, 4288] from by decide)).trans e_z68.symm
        have X1_s70 : X1 s70 := X1.fl X1_s60 t_s70 (by decide)
        have R1_s70 : R1 s70 := R1.fl R1_s60 t_s70 (by decide)
        have G1_s70 : G1 s70 := G1.fl G1_s60 t_s70 (by decide)
        have G3_s70 : G3 s70 := G3.fl G3_s60 t_s70 (by decide)
        have S1_s70 : S1 s70 := S1.fl S1_s60 t_s70 (by decide)
        have S2_s70 : S2 s70 := S2.fl S2_s60 t_s70 (by decide)
        have VCj_s70 : VCj s70 := VCj.fl VCj_s60 hG_s60 t_s70 (by decide)
        have VCl_s70 : VCl s70 := VCl.fl VCl_s60 hG_s60 t_s70 (by decide)
        show xe (some (N, xs)) 231 266 [(0, .ref 2000), (1, .ref 0), (2, .ref 256), (3, vi x3)] [vi z69] s70 295 10442 _
        have TR_s70 := TR.end i_TR hG t_s60 t_s70 (by decide) (by decide) xp_z59 (by rw [← q_z64, ← q_z66]; exact xp_z69)
        refine x_A k231_266 (fun _ => rfl) ?_
        refine x_goto k231_267 (t := 1300) rfl ?_
        refine x_iinc k231_1300 (ls' := [(3, vi (x3 + 7)), (0, .ref 2000), (1, .ref 0), (2, .ref 256)]) rfl (by decide) rfl ?_
        refine x_goto k231_1303 (t := 18) rfl ?_
        refine x_ls (l := [(0, .ref 2000), (1, .ref 0), (2, .ref 256), (3, vi (x3 + 7))]) (show ([0, 1, 2, 3] : List Nat).Nodup from by decide) ⟨rfl, rfl, rfl, rfl, trivial⟩ ?_
        exact ih s70 (x3 + 7) hG_s70 trivial ⟨by omega, by omega⟩ J_s70 TR_s70 X1_s70 R1_s70 G1_s70 G3_s70 S1_s70 S2_s70 VCj_s70 VCl_s70  (by omega)
      · rw [c5]
        refine x_B k231_33 rfl (fun _ => rfl) (fun _ => rfl) (fun _ _ => rfl) ?_
        show xe (some (N, xs)) 231 270 [(0, .ref 2000), (1, .ref 0), (2, .ref 256), (3, vi x3)] [] s 295 10442 _
        refine x_A k231_270 (fun _ => rfl) ?_
        refine x_A k231_271 (fun _ => rfl) ?_
        refine x_A k231_272 (fun _ => rfl) ?_
        refine x_A k231_273 (fun _ => rfl) ?_
        refine x_iadd k231_274 ?_
        refine x_top (fun z75 e_z75 => ?_)
        refine x_scr k231_275 hN ⟨by omega, by omega⟩ (fun z76 g_z76 e_z76 => ?_)
        unfold in32 at g_z76
        refine x_A k231_276 (fun _ => rfl) ?_
        refine x_A k231_277 (fun _ => rfl) ?_
        refine x_A k231_278 (fun _ => rfl) ?_
        refine x_iadd k231_279 ?_
        refine x_top (fun z77 e_z77 => ?_)
        refine x_scr k231_280 hN ⟨by omega, by omega⟩ (fun z78 g_z78 e_z78 => ?_)
        unfold in32 at g_z78
        refine x_A k231_281 (fun _ => rfl) ?_
        refine x_A k231_282 (fun _ => rfl) ?_
        refine x_A k231_283 (fun _ => rfl) ?_
        refine x_iadd k231_284 ?_
        refine x_top (fun z79 e_z79 => ?_)
        refine x_scr k231_285 hN ⟨by omega, by omega⟩ (fun z80 g_z80 e_z80 => ?_)
        unfold in32 at g_z80
        refine x_callV k231_286 (y := 95) (n := 3) (w0 := 0) (w1 := 3) (as := [vi z76, vi z78, vi z80]) (rest := []) (by decide +kernel) (q := 0) (nq := 12) (kq := 3) ⟨by decide, rfl⟩ rfl rfl rfl rfl (xe_mono (V_X10_tree_0 s hG i_J z76 ⟨by omega, by omega⟩ z78 ⟨by omega, by omega⟩ z80 ⟨by omega, by omega⟩ i_R1 i_VCj i_VCl) ?_)
        rintro s82 v ⟨hG_s82, t_s82, z81, rfl, g_z81, VCj_s82, VCl_s82⟩
        have J_s82 : J s82 := J.fl i_J t_s82 (by decide)
        have TR_s82 : TR s82 := TR.fl i_TR (hG 256 1).2 t_s82 (by decide)
        have X1_s82 : X1 s82 := X1.fl i_X1 t_s82 (by decide)
        have R1_s82 : R1 s82 := R1.fl i_R1 t_s82 (by decide)
        have G1_s82 : G1 s82 := G1.fl i_G1 t_s82 (by decide)
        have G3_s82 : G3 s82 := G3.fl i_G3 t_s82 (by decide)
        have S1_s82 : S1 s82 := S1.fl i_S1 t_s82 (by decide)
        have S2_s82 : S2 s82 := S2.fl i_S2 t_s82 (by decide)
        show xe (some (N, xs)) 231 289 [(0, .ref 2000), (1, .ref 0), (2, .ref 256), (3, vi x3)] [vi z81] s82 295 10442 _
        refine x_A k231_289 (fun _ => rfl) ?_
        refine x_A k231_290 (fun _ => rfl) ?_
        refine x_A k231_291 (fun _ => rfl) ?_
        refine x_A k231_292 (fun _ => rfl) ?_
        refine x_A k231_293 (fun _ => rfl) ?_
        refine x_iadd k231_294 ?_
        refine x_top (fun z83 e_z83 => ?_)
        refine x_scr k231_295 hN ⟨by omega, by omega⟩ (fun z84 g_z84 e_z84 => ?_)
        unfold in32 at g_z84
        have q_z84 : z84 = z76 := by rw [e_z84, e_z76, show z83 = z75 by omega]
        refine x_A k231_296 (fun _ => rfl) ?_
        refine x_A k231_297 (fun _ => rfl) ?_
        refine x_A k231_298 (fun _ => rfl) ?_
        refine x_iadd k231_299 ?_
        refine x_top (fun z85 e_z85 => ?_)
        refine x_scr k231_300 hN ⟨by omega, by omega⟩ (fun z86 g_z86 e_z86 => ?_)
        unfold in32 at g_z86
        have q_z86 : z86 = z78 := by rw [e_z86, e_z78, show z85 = z77 by omega]
        refine x_A k231_301 (fun _ => rfl) ?_
        refine x_A k231_302 (fun _ => rfl) ?_
        refine x_A k231_303 (fun _ => rfl) ?_
        refine x_iadd k231_304 ?_
        refine x_top (fun z87 e_z87 => ?_)
        refine x_scr k231_305 hN ⟨by omega, by omega⟩ (fun z88 g_z88 e_z88 => ?_)
        unfold in32 at g_z88
        have q_z88 : z88 = z80 := by rw [e_z88, e_z80, show z87 = z79 by omega]
        refine x_callV k231_306 (y := 149) (n := 3) (w0 := 0) (w1 := 3) (as := [vi z84, vi z86, vi z88]) (rest := []) (by decide +kernel) (q := 256) (nq := 62) (kq := 15) ⟨by decide, rfl⟩ rfl rfl rfl rfl (xe_mono (C_X11_tree_256 s82 hG_s82 J_s82 z84 ⟨by omega, by omega⟩ z86 ⟨by omega, by omega⟩ z88 ⟨by omega, by omega⟩) ?_)
        rintro s90 v ⟨hG_s90, t_s90, z89, rfl, g_z89⟩
        have J_s90 : J s90 := J.fl J_s82 t_s90 (by decide)
        have TR_s90 : TR s90 := TR.fl TR_s82 (hG_s82 256 1).2 t_s90 (by decide)
        have X1_s90 : X1 s90 := X1.fl X1_s82 t_s90 (by decide)
        have R1_s90 : R1 s90 := R1.fl R1_s82 t_s90 (by decide)
        have G1_s90 : G1 s90 := G1.fl G1_s82 t_s90 (by decide)
        have G3_s90 : G3 s90 := G3.fl G3_s82 t_s90 (by decide)
        have S1_s90 : S1 s90 := S1.fl S1_s82 t_s90 (by decide)
        have S2_s90 : S2 s90 := S2.fl S2_s82 t_s90 (by decide)
        have VCj_s90 : VCj s90 := VCj.fl VCj_s82 hG_s82 t_s90 (by decide)
        have VCl_s90 : VCl s90 := VCl.fl VCl_s82 hG_s82 t_s90 (by decide)
        show xe (some (N, xs)) 231 309 [(0, .ref 2000), (1, .ref 0), (2, .ref 256), (3, vi x3)] [vi z89] s90 295 10442 _
        refine x_A k231_309 (fun _ => rfl) ?_
        refine x_goto k231_310 (t := 1300) rfl ?_
        refine x_iinc k231_1300 (ls' := [(3, vi (x3 + 7)), (0, .ref 2000), (1, .ref 0), (2, .ref 256)]) rfl (by decide) rfl ?_
        refine x_goto k231_1303 (t := 18) rfl ?_
        refine x_ls (l := [(0, .ref 2000), (1, .ref 0), (2, .ref 256), (3, vi (x3 + 7))]) (show ([0, 1, 2, 3] : List Nat).Nodup from by decide) ⟨rfl, rfl, rfl, rfl, trivial⟩ ?_
        exact ih s90 (x3 + 7) hG_s90 trivial ⟨by omega, by omega⟩ J_s90 TR_s90 X1_s90 R1_s90 G1_s90 G3_s90 S1_s90 S2_s90 VCj_s90 VCl_s90  (by omega)
      · rw [c5]
        refine x_B k231_33 rfl (fun _ => rfl) (fun _ => rfl) (fun _ _ => rfl) ?_
        show xe (some (N, xs)) 231 313 [(0, .ref 2000), (1, .ref 0), (2, .ref 256), (3, vi x3)] [] s 295 10442 _
        refine x_A k231_313 (fun _ => rfl) ?_
        refine x_A k231_314 (fun _ => rfl) ?_
        refine x_A k231_315 (fun _ => rfl) ?_
        refine x_A k231_316 (fun _ => rfl) ?_
        refine x_iadd k231_317 ?_
        refine x_top (fun z91 e_z91 => ?_)
        refine x_scr k231_318 hN ⟨by omega, by omega⟩ (fun z92 g_z92 e_z92 => ?_)
        unfold in32 at g_z92
        refine x_A k231_319 (fun _ => rfl) ?_
        refine x_A k231_320 (fun _ => rfl) ?_
        refine x_A k231_321 (fun _ => rfl) ?_
        refine x_iadd k231_322 ?_
        refine x_top (fun z93 e_z93 => ?_)
        refine x_scr k231_323 hN ⟨by omega, by omega⟩ (fun z94 g_z94 e_z94 => ?_)
        unfold in32 at g_z94
        refine x_A k231_324 (fun _ => rfl) ?_
        refine x_A k231_325 (fun _ => rfl) ?_
        refine x_A k231_326 (fun _ => rfl) ?_
        refine x_iadd k231_327 ?_
        refine x_top (fun z95 e_z95 => ?_)
        refine x_scr k231_328 hN ⟨by omega, by omega⟩ (fun z96 g_z96 e_z96 => ?_)
        unfold in32 at g_z96
        refine x_callV k231_329 (y := 96) (n := 3) (w0 := 0) (w1 := 3) (as := [vi z92, vi z94, vi z96]) (rest := []) (by decide +kernel) (q := 0) (nq := 12) (kq := 3) ⟨by decide, rfl⟩ rfl rfl rfl rfl (xe_mono (C_X10_below_0 s hG z92 ⟨by omega, by omega⟩ z94 ⟨by omega, by omega⟩ z96 ⟨by omega, by omega⟩) ?_)
        rintro s98 v ⟨-, t_s98, z97, rfl, g_z97⟩
        rw [t_s98.nil]
        show xe (some (N, xs)) 231 332 [(0, .ref 2000), (1, .ref 0), (2, .ref 256), (3, vi x3)] [vi z97] s 295 10442 _
        refine x_A k231_332 (fun _ => rfl) ?_
        refine x_A k231_333 (fun _ => rfl) ?_
        refine x_A k231_334 (fun _ => rfl) ?_
        refine x_A k231_335 (fun _ => rfl) ?_
        refine x_A k231_336 (fun _ => rfl) ?_
        refine x_iadd k231_337 ?_
        refine x_top (fun z99 e_z99 => ?_)
        refine x_scr k231_338 hN ⟨by omega, by omega⟩ (fun z100 g_z100 e_z100 => ?_)
        unfold in32 at g_z100
        have q_z100 : z100 = z92 := by rw [e_z100, e_z92, show z99 = z91 by omega]
        refine x_A k231_339 (fun _ => rfl) ?_
        refine x_A k231_340 (fun _ => rfl) ?_
        refine x_A k231_341 (fun _ => rfl) ?_
        refine x_iadd k231_342 ?_
        refine x_top (fun z101 e_z101 => ?_)
        refine x_scr k231_343 hN ⟨by omega, by omega⟩ (fun z102 g_z102 e_z102 => ?_)
        unfold in32 at g_z102
        have q_z102 : z102 = z94 := by rw [e_z102, e_z94, show z101 = z93 by omega]
        refine x_A k231_344 (fun _ => rfl) ?_
        refine x_A k231_345 (fun _ => rfl) ?_
        refine x_A k231_346 (fun _ => rfl) ?_
        refine x_iadd k231_347 ?_
        refine x_top (fun z103 e_z103 => ?_)
        refine x_scr k231_348 hN ⟨by omega, by omega⟩ (fun z104 g_z104 e_z104 => ?_)
        unfold in32 at g_z104
        have q_z104 : z104 = z96 := by rw [e_z104, e_z96, show z103 = z95 by omega]
        refine x_callV k231_349 (y := 150) (n := 3) (w0 := 0) (w1 := 3) (as := [vi z100, vi z102, vi z104]) (rest := []) (by decide +kernel) (q := 256) (nq := 62) (kq := 15) ⟨by decide, rfl⟩ rfl rfl rfl rfl (xe_mono (C_X11_below_256 s hG i_J z100 ⟨by omega, by omega⟩ z102 ⟨by omega, by omega⟩ z104 ⟨by omega, by omega⟩) ?_)
        rintro s106 v ⟨-, t_s106, z105, rfl, g_z105⟩
        rw [t_s106.nil]
        show xe (some (N, xs)) 231 352 [(0, .ref 2000), (1, .ref 0), (2, .ref 256), (3, vi x3)] [vi z105] s 295 10442 _
        refine x_A k231_352 (fun _ => rfl) ?_
        refine x_goto k231_353 (t := 1300) rfl ?_
        refine x_iinc k231_1300 (ls' := [(3, vi (x3 + 7)), (0, .ref 2000), (1, .ref 0), (2, .ref 256)]) rfl (by decide) rfl ?_
        refine x_goto k231_1303 (t := 18) rfl ?_
        refine x_ls (l := [(0, .ref 2000), (1, .ref 0), (2, .ref 256), (3, vi (x3 + 7))]) (show ([0, 1, 2, 3] : List Nat).Nodup from by decide) ⟨rfl, rfl, rfl, rfl, trivial⟩ ?_
        exact ih s (x3 + 7) hG f ⟨by omega, by omega⟩ i_J i_TR i_X1 i_R1 i_G1 i_G3 i_S1 i_S2 i_VCj i_VCl  (by omega)
      · rw [c5]
        refine x_B k231_33 rfl (fun _ => rfl) (fun _ => rfl) (fun _ _ => rfl) ?_
        show xe (some (N, xs)) 231 356 [(0, .ref 2000), (1, .ref 0), (2, .ref 256), (3, vi x3)] [] s 295 10442 _
        refine x_A k231_356 (fun _ => rfl) ?_
        refine x_A k231_357 (fun _ => rfl) ?_
        refine x_A k231_358 (fun _ => rfl) ?_
        refine x_A k231_359 (fun _ => rfl) ?_
        refine x_iadd k231_360 ?_
        refine x_top (fun z107 e_z107 => ?_)
        refine x_scr k231_361 hN ⟨by omega, by omega⟩ (fun z108 g_z108 e_z108 => ?_)
        unfold in32 at g_z108
        refine x_A k231_362 (fun _ => rfl) ?_
        refine x_A k231_363 (fun _ => rfl) ?_
        refine x_A k231_364 (fun _ => rfl) ?_
        refine x_iadd k231_365 ?_
        refine x_top (fun z109 e_z109 => ?_)
        refine x_scr k231_366 hN ⟨by omega, by omega⟩ (fun z110 g_z110 e_z110 => ?_)
        unfold in32 at g_z110
        refine x_A k231_367 (fun _ => rfl) ?_
        refine x_A k231_368 (fun _ => rfl) ?_
        refine x_A k231_369 (fun _ => rfl) ?_
        refine x_iadd k231_370 ?_
        refine x_top (fun z111 e_z111 => ?_)
        refine x_scr k231_371 hN ⟨by omega, by omega⟩ (fun z112 g_z112 e_z112 => ?_)
        unfold in32 at g_z112
        obtain ⟨z113, e_z113⟩ : ∃ z, z = s 46 3 := ⟨_, rfl⟩
        have g_z113 : (0 : Int) ≤ s 46 3 ∧ s 46 3 ≤ 40 := hG 46 3
        refine x_callV k231_372 (y := 97) (n := 3) (w0 := 0) (w1 := 3) (as := [vi z108, vi z110, vi z112]) (rest := []) (by decide +kernel) (q := 0) (nq := 12) (kq := 3) ⟨by decide, rfl⟩ rfl rfl rfl rfl (xe_mono (E_X10_picture_0 s hG z108 ⟨by omega, by omega⟩ z110 ⟨by omega, by omega⟩ z112 ⟨by omega, by omega⟩ ⟨by omega, by omega⟩) ?_)
        rintro s115 v ⟨hG_s115, t_s115, z114, rfl, g_z114, xp_z114⟩
        have J_s115 : J s115 := J.fl i_J t_s115 (by decide)
        have TR_s115 : TR s115 := TR.fl i_TR (hG 256 1).2 t_s115 (by decide)
        have X1_s115 : X1 s115 := X1.fl i_X1 t_s115 (by decide)
        have R1_s115 : R1 s115 := R1.fl i_R1 t_s115 (by decide)
        have G1_s115 : G1 s115 := G1.fl i_G1 t_s115 (by decide)
        have S1_s115 : S1 s115 := S1.fl i_S1 t_s115 (by decide)
        have S2_s115 : S2 s115 := S2.fl i_S2 t_s115 (by decide)
        have VCj_s115 : VCj s115 := VCj.fl i_VCj hG t_s115 (by decide)
        have VCl_s115 : VCl s115 := VCl.fl i_VCl hG t_s115 (by decide)
        obtain ⟨z116, e_z116⟩ : ∃ z, z = s115 46 3 := ⟨_, rfl⟩
        have g_z116 : (0 : Int) ≤ s115 46 3 ∧ s115 46 3 ≤ 40 := hG_s115 46 3
        show xe (some (N, xs)) 231 375 [(0, .ref 2000), (1, .ref 0), (2, .ref 256), (3, vi x3)] [vi z114] s115 295 10442 _
        refine x_A k231_375 (fun _ => rfl) ?_
        refine x_A k231_376 (fun _ => rfl) ?_
        refine x_A k231_377 (fun _ => rfl) ?_
        refine x_A k231_378 (fun _ => rfl) ?_
        refine x_A k231_379 (fun _ => rfl) ?_
        refine x_iadd k231_380 ?_
        refine x_top (fun z117 e_z117 => ?_)
        refine x_scr k231_381 hN ⟨by omega, by omega⟩ (fun z118 g_z118 e_z118 => ?_)
        unfold in32 at g_z118
        have q_z118 : z118 = z108 := by rw [e_z118, e_z108, show z117 = z107 by omega]
        refine x_A k231_382 (fun _ => rfl) ?_
        refine x_A k231_383 (fun _ => rfl) ?_
        refine x_A k231_384 (fun _ => rfl) ?_
        refine x_iadd k231_385 ?_
        refine x_top (fun z119 e_z119 => ?_)
        refine x_scr k231_386 hN ⟨by omega, by omega⟩ (fun z120 g_z120 e_z120 => ?_)
        unfold in32 at g_z120
        have q_z120 : z120 = z110 := by rw [e_z120, e_z110, show z119 = z109 by omega]
        refine x_A k231_387 (fun _ => rfl) ?_
        refine x_A k231_388 (fun _ => rfl) ?_
        refine x_A k231_389 (fun _ => rfl) ?_
        refine x_iadd k231_390 ?_
        refine x_top (fun z121 e_z121 => ?_)
        refine x_scr k231_391 hN ⟨by omega, by omega⟩ (fun z122 g_z122 e_z122 => ?_)
        unfold in32 at g_z122
        have q_z122 : z122 = z112 := by rw [e_z122, e_z112, show z121 = z111 by omega]
        obtain ⟨z123, e_z123⟩ : ∃ z, z = s115 256 6 := ⟨_, rfl⟩
        have g_z123 : (0 : Int) ≤ s115 256 6 ∧ s115 256 6 ≤ 40 := hG_s115 256 6
        refine x_callV k231_392 (y := 154) (n := 3) (w0 := 0) (w1 := 3) (as := [vi z118, vi z120, vi z122]) (rest := []) (by decide +kernel) (q := 256) (nq := 62) (kq := 15) ⟨by decide, rfl⟩ rfl rfl rfl rfl (xe_mono (E_X11_picture_256 s115 hG_s115 z118 ⟨by omega, by omega⟩ z120 ⟨by omega, by omega⟩ z122 ⟨by omega, by omega⟩ ⟨by omega, by omega⟩ J_s115) ?_)
        rintro s125 v ⟨hG_s125, t_s125, z124, rfl, g_z124, xp_z124, J_s125⟩
        have q126 : s125 46 3 = z116 := (t_s125 46 3 (show 452 ∉ [4103, 4416, 4480, 4544] from by decide)).trans e_z116.symm
        have TR_s125 : TR s125 := TR.fl TR_s115 (hG_s115 256 1).2 t_s125 (by decide)
        have X1_s125 : X1 s125 := X1.fl X1_s115 t_s125 (by decide)
        have R1_s125 : R1 s125 := R1.fl R1_s115 t_s125 (by decide)
        have G1_s125 : G1 s125 := G1.fl G1_s115 t_s125 (by decide)
        have S1_s125 : S1 s125 := S1.fl S1_s115 t_s125 (by decide)
        have S2_s125 : S2 s125 := S2.fl S2_s115 t_s125 (by decide)
        have VCj_s125 : VCj s125 := VCj.fl VCj_s115 hG_s115 t_s125 (by decide)
        have VCl_s125 : VCl s125 := VCl.fl VCl_s115 hG_s115 t_s125 (by decide)
        obtain ⟨z127, e_z127⟩ : ∃ z, z = s125 256 6 := ⟨_, rfl⟩
        have g_z127 : (0 : Int) ≤ s125 256 6 ∧ s125 256 6 ≤ 40 := hG_s125 256 6
        show xe (some (N, xs)) 231 395 [(0, .ref 2000), (1, .ref 0), (2, .ref 256), (3, vi x3)] [vi z124] s125 295 10442 _
        have g46_s125 := i_G3.1
        have e46_s125 : s125 46 3 = s115 46 3 := t_s125 46 3 (by decide)
        have e256_s125 : s115 256 6 = s 256 6 := t_s115 256 6 (by decide)
        have G3_s125 := G3.pic i_G3 t_s115 t_s125 (by decide) (by decide) (by omega) (by omega)
        refine x_A k231_395 (fun _ => rfl) ?_
        refine x_goto k231_396 (t := 1300) rfl ?_
        refine x_iinc k231_1300 (ls' := [(3, vi (x3 + 7)), (0, .ref 2000), (1, .ref 0), (2, .ref 256)]) rfl (by decide) rfl ?_
        refine x_goto k231_1303 (t := 18) rfl ?_
        refine x_ls (l := [(0, .ref 2000), (1, .ref 0), (2, .ref 256), (3, vi (x3 + 7))]) (show ([0, 1, 2, 3] : List Nat).Nodup from by decide) ⟨rfl, rfl, rfl, rfl, trivial⟩ ?_
        exact ih s125 (x3 + 7) hG_s125 trivial ⟨by omega, by omega⟩ J_s125 TR_s125 X1_s125 R1_s125 G1_s125 G3_s125 S1_s125 S2_s125 VCj_s125 VCl_s125  (by omega)
      · rw [c5]
        refine x_B k231_33 rfl (fun _ => rfl) (fun _ => rfl) (fun _ _ => rfl) ?_
        show xe (some (N, xs)) 231 399 [(0, .ref 2000), (1, .ref 0), (2, .ref 256), (3, vi x3)] [] s 295 10442 _
        refine x_A k231_399 (fun _ => rfl) ?_
        refine x_A k231_400 (fun _ => rfl) ?_
        refine x_A k231_401 (fun _ => rfl) ?_
        refine x_A k231_402 (fun _ => rfl) ?_
        refine x_iadd k231_403 ?_
        refine x_top (fun z128 e_z128 => ?_)
        refine x_scr k231_404 hN ⟨by omega, by omega⟩ (fun z129 g_z129 e_z129 => ?_)
        unfold in32 at g_z129
        refine x_A k231_405 (fun _ => rfl) ?_
        refine x_A k231_406 (fun _ => rfl) ?_
        refine x_A k231_407 (fun _ => rfl) ?_
        refine x_iadd k231_408 ?_
        refine x_top (fun z130 e_z130 => ?_)
        refine x_scr k231_409 hN ⟨by omega, by omega⟩ (fun z131 g_z131 e_z131 => ?_)
        unfold in32 at g_z131
        refine x_A k231_410 (fun _ => rfl) ?_
        refine x_A k231_411 (fun _ => rfl) ?_
        refine x_A k231_412 (fun _ => rfl) ?_
        refine x_iadd k231_413 ?_
        refine x_top (fun z132 e_z132 => ?_)
        refine x_scr k231_414 hN ⟨by omega, by omega⟩ (fun z133 g_z133 e_z133 => ?_)
        unfold in32 at g_z133
        refine x_A k231_415 (fun _ => rfl) ?_
        refine x_A k231_416 (fun _ => rfl) ?_
        refine x_A k231_417 (fun _ => rfl) ?_
        refine x_iadd k231_418 ?_
        refine x_top (fun z134 e_z134 => ?_)
        refine x_scr k231_419 hN ⟨by omega, by omega⟩ (fun z135 g_z135 e_z135 => ?_)
        unfold in32 at g_z135
        obtain ⟨z136, e_z136⟩ : ∃ z, z = s 50 6 := ⟨_, rfl⟩
        have g_z136 : (0 : Int) ≤ s 50 6 ∧ s 50 6 ≤ 120 := hG 50 6
        obtain ⟨z137, e_z137⟩ : ∃ z, z = s 46 3 := ⟨_, rfl⟩
        have g_z137 : (0 : Int) ≤ s 46 3 ∧ s 46 3 ≤ 40 := hG 46 3
        obtain ⟨z138, e_z138⟩ : ∃ z, z = s 1 4 := ⟨_, rfl⟩
        have g_z138 : (1 : Int) ≤ s 1 4 ∧ s 1 4 ≤ 40 := hG 1 4
        obtain ⟨z139, e_z139⟩ : ∃ z, z = s 0 10 := ⟨_, rfl⟩
        have g_z139 : (0 : Int) ≤ s 0 10 ∧ s 0 10 ≤ 9 := hG 0 10
        refine x_callV k231_420 (y := 98) (n := 4) (w0 := 0) (w1 := 4) (as := [vi z129, vi z131, vi z133, vi z135]) (rest := []) (by decide +kernel) (q := 0) (nq := 12) (kq := 3) ⟨by decide, rfl⟩ rfl rfl rfl rfl (xe_mono (V_X10_give_0 s hG z129 ⟨by omega, by omega⟩ z131 ⟨by omega, by omega⟩ z133 ⟨by omega, by omega⟩ z135 ⟨by omega, by omega⟩ ⟨by omega, by omega⟩ ⟨by omega, by omega⟩ ⟨by omega, by omega⟩ ⟨by omega, by omega⟩ i_VCj i_VCl) ?_)
        rintro s141 v ⟨hG_s141, t_s141, z140, rfl, g_z140, xp_z140, VCj_s141, VCl_s141⟩
        have q142 : s141 46 3 = z137 := (t_s141 46 3 (show 452 ∉ [711, 768, 832, 896, 960, 1024, 1152, 3276, 3277] from by decide)).trans e_z137.symm
        have q143 : s141 1 4 = z138 := (t_s141 1 4 (show 69 ∉ [711, 768, 832, 896, 960, 1024, 1152, 3276, 3277] from by decide)).trans e_z138.symm
        have q144 : s141 0 10 = z139 := (t_s141 0 10 (show 11 ∉ [711, 768, 832, 896, 960, 1024, 1152, 3276, 3277] from by decide)).trans e_z139.symm
        have J_s141 : J s141 := J.fl i_J t_s141 (by decide)
        have TR_s141 : TR s141 := TR.fl i_TR (hG 256 1).2 t_s141 (by decide)
        have X1_s141 : X1 s141 := X1.fl i_X1 t_s141 (by decide)
        have R1_s141 : R1 s141 := R1.fl i_R1 t_s141 (by decide)
        have S1_s141 : S1 s141 := S1.fl i_S1 t_s141 (by decide)
        have S2_s141 : S2 s141 := S2.fl i_S2 t_s141 (by decide)
        obtain ⟨z145, e_z145⟩ : ∃ z, z = s141 50 6 := ⟨_, rfl⟩
        have g_z145 : (0 : Int) ≤ s141 50 6 ∧ s141 50 6 ≤ 120 := hG_s141 50 6
        show xe (some (N, xs)) 231 423 [(0, .ref 2000), (1, .ref 0), (2, .ref 256), (3, vi x3)] [vi z140] s141 295 10442 _
        refine x_A k231_423 (fun _ => rfl) ?_
        refine x_A k231_424 (fun _ => rfl) ?_
        refine x_A k231_425 (fun _ => rfl) ?_
        refine x_A k231_426 (fun _ => rfl) ?_
        refine x_A k231_427 (fun _ => rfl) ?_
        refine x_iadd k231_428 ?_
        refine x_top (fun z146 e_z146 => ?_)
        refine x_scr k231_429 hN ⟨by omega, by omega⟩ (fun z147 g_z147 e_z147 => ?_)
        unfold in32 at g_z147
        have q_z147 : z147 = z129 := by rw [e_z147, e_z129, show z146 = z128 by omega]
        refine x_A k231_430 (fun _ => rfl) ?_
        refine x_A k231_431 (fun _ => rfl) ?_
        refine x_A k231_432 (fun _ => rfl) ?_
        refine x_iadd k231_433 ?_
        refine x_top (fun z148 e_z148 => ?_)
        refine x_scr k231_434 hN ⟨by omega, by omega⟩ (fun z149 g_z149 e_z149 => ?_)
        unfold in32 at g_z149
        have q_z149 : z149 = z131 := by rw [e_z149, e_z131, show z148 = z130 by omega]
        refine x_A k231_435 (fun _ => rfl) ?_
        refine x_A k231_436 (fun _ => rfl) ?_
        refine x_A k231_437 (fun _ => rfl) ?_
        refine x_iadd k231_438 ?_
        refine x_top (fun z150 e_z150 => ?_)
        refine x_scr k231_439 hN ⟨by omega, by omega⟩ (fun z151 g_z151 e_z151 => ?_)
        unfold in32 at g_z151
        have q_z151 : z151 = z133 := by rw [e_z151, e_z133, show z150 = z132 by omega]
        refine x_A k231_440 (fun _ => rfl) ?_
        refine x_A k231_441 (fun _ => rfl) ?_
        refine x_A k231_442 (fun _ => rfl) ?_
        refine x_iadd k231_443 ?_
        refine x_top (fun z152 e_z152 => ?_)
        refine x_scr k231_444 hN ⟨by omega, by omega⟩ (fun z153 g_z153 e_z153 => ?_)
        unfold in32 at g_z153
        have q_z153 : z153 = z135 := by rw [e_z153, e_z135, show z152 = z134 by omega]
        obtain ⟨z154, e_z154⟩ : ∃ z, z = s141 256 10 := ⟨_, rfl⟩
        have g_z154 : (0 : Int) ≤ s141 256 10 ∧ s141 256 10 ≤ 120 := hG_s141 256 10
        obtain ⟨z155, e_z155⟩ : ∃ z, z = s141 256 6 := ⟨_, rfl⟩
        have g_z155 : (0 : Int) ≤ s141 256 6 ∧ s141 256 6 ≤ 40 := hG_s141 256 6
        obtain ⟨z156, e_z156⟩ : ∃ z, z = s141 256 1 := ⟨_, rfl⟩
        have g_z156 : (1 : Int) ≤ s141 256 1 ∧ s141 256 1 ≤ 40 := hG_s141 256 1
        obtain ⟨z157, e_z157⟩ : ∃ z, z = s141 256 0 := ⟨_, rfl⟩
        have g_z157 : (0 : Int) ≤ s141 256 0 ∧ s141 256 0 ≤ 9 := hG_s141 256 0
        refine x_callV k231_445 (y := 155) (n := 4) (w0 := 0) (w1 := 4) (as := [vi z147, vi z149, vi z151, vi z153]) (rest := []) (by decide +kernel) (q := 256) (nq := 62) (kq := 15) ⟨by decide, rfl⟩ rfl rfl rfl rfl (xe_mono (V_X11_give_256 s141 hG_s141 z147 ⟨by omega, by omega⟩ z149 ⟨by omega, by omega⟩ z151 ⟨by omega, by omega⟩ z153 ⟨by omega, by omega⟩ ⟨by omega, by omega⟩ ⟨by omega, by omega⟩ ⟨by omega, by omega⟩ ⟨by omega, by omega⟩) ?_)
        rintro s159 v ⟨hG_s159, t_s159, z158, rfl, g_z158, xp_z158⟩
        have q160 : s159 46 3 = z137 := (t_s159 46 3 (show 452 ∉ [4107, 4608, 4672, 4736, 4800, 4864, 4928] from by decide)).trans q142
        have q161 : s159 1 4 = z138 := (t_s159 1 4 (show 69 ∉ [4107, 4608, 4672, 4736, 4800, 4864, 4928] from by decide)).trans q143
        have q162 : s159 0 10 = z139 := (t_s159 0 10 (show 11 ∉ [4107, 4608, 4672, 4736, 4800, 4864, 4928] from by decide)).trans q144
        have q163 : s159 50 6 = z145 := (t_s159 50 6 (show 711 ∉ [4107, 4608, 4672, 4736, 4800, 4864, 4928] from by decide)).trans e_z145.symm
        have q164 : s159 256 6 = z155 := (t_s159 256 6 (show 4103 ∉ [4107, 4608, 4672, 4736, 4800, 4864, 4928] from by decide)).trans e_z155.symm
        have q165 : s159 256 1 = z156 := (t_s159 256 1 (show 4098 ∉ [4107, 4608, 4672, 4736, 4800, 4864, 4928] from by decide)).trans e_z156.symm
        have q166 : s159 256 0 = z157 := (t_s159 256 0 (show 4097 ∉ [4107, 4608, 4672, 4736, 4800, 4864, 4928] from by decide)).trans e_z157.symm
        have J_s159 : J s159 := J.fl J_s141 t_s159 (by decide)
        have TR_s159 : TR s159 := TR.fl TR_s141 (hG_s141 256 1).2 t_s159 (by decide)
        have X1_s159 : X1 s159 := X1.fl X1_s141 t_s159 (by decide)
        have R1_s159 : R1 s159 := R1.fl R1_s141 t_s159 (by decide)
        have S1_s159 : S1 s159 := S1.fl S1_s141 t_s159 (by decide)
        have S2_s159 : S2 s159 := S2.fl S2_s141 t_s159 (by decide)
        have VCj_s159 : VCj s159 := VCj.fl VCj_s141 hG_s141 t_s159 (by decide)
        have VCl_s159 : VCl s159 := VCl.fl VCl_s141 hG_s141 t_s159 (by decide)
        obtain ⟨z167, e_z167⟩ : ∃ z, z = s159 256 10 := ⟨_, rfl⟩
        have g_z167 : (0 : Int) ≤ s159 256 10 ∧ s159 256 10 ≤ 120 := hG_s159 256 10
        show xe (some (N, xs)) 231 448 [(0, .ref 2000), (1, .ref 0), (2, .ref 256), (3, vi x3)] [vi z158] s159 295 10442 _
        obtain ⟨ez_s159, G1_s159⟩ := G1.give i_G1 i_TR.1.2.1 i_G3.1 hG t_s141 t_s159 (by decide) (by decide) xp_z140.1 (by rw [← q_z147, ← q_z149, ← q_z151, ← q_z153]; exact xp_z158.1)
        have G3_s159 := G3.give i_G3 i_G1 i_TR.1 i_TR.2.1 hG t_s141 t_s159 (by decide) (by decide) ez_s159 xp_z140.1 xp_z140.2 (by have w_ := xp_z158.2; (try rw [q_z147] at w_); (try rw [q_z149] at w_); (try rw [q_z151] at w_); (try rw [q_z153] at w_); exact w_)
        refine x_A k231_448 (fun _ => rfl) ?_
        refine x_goto k231_449 (t := 1300) rfl ?_
        refine x_iinc k231_1300 (ls' := [(3, vi (x3 + 7)), (0, .ref 2000), (1, .ref 0), (2, .ref 256)]) rfl (by decide) rfl ?_
        refine x_goto k231_1303 (t := 18) rfl ?_
        refine x_ls (l := [(0, .ref 2000), (1, .ref 0), (2, .ref 256), (3, vi (x3 + 7))]) (show ([0, 1, 2, 3] : List Nat).Nodup from by decide) ⟨rfl, rfl, rfl, rfl, trivial⟩ ?_
        exact ih s159 (x3 + 7) hG_s159 trivial ⟨by omega, by omega⟩ J_s159 TR_s159 X1_s159 R1_s159 G1_s159 G3_s159 S1_s159 S2_s159 VCj_s159 VCl_s159  (by omega)
      · rw [c5]
        refine x_B k231_33 rfl (fun _ => rfl) (fun _ => rfl) (fun _ _ => rfl) ?_
        show xe (some (N, xs)) 231 452 [(0, .ref 2000), (1, .ref 0), (2, .ref 256), (3, vi x3)] [] s 295 10442 _
        refine x_A k231_452 (fun _ => rfl) ?_
        refine x_A k231_453 (fun _ => rfl) ?_
        refine x_A k231_454 (fun _ => rfl) ?_
        refine x_A k231_455 (fun _ => rfl) ?_
        refine x_iadd k231_456 ?_
        refine x_top (fun z168 e_z168 => ?_)
        refine x_scr k231_457 hN ⟨by omega, by omega⟩ (fun z169 g_z169 e_z169 => ?_)
        unfold in32 at g_z169
        refine x_A k231_458 (fun _ => rfl) ?_
        refine x_A k231_459 (fun _ => rfl) ?_
        refine x_A k231_460 (fun _ => rfl) ?_
        refine x_iadd k231_461 ?_
        refine x_top (fun z170 e_z170 => ?_)
        refine x_scr k231_462 hN ⟨by omega, by omega⟩ (fun z171 g_z171 e_z171 => ?_)
        unfold in32 at g_z171
        obtain ⟨z172, e_z172⟩ : ∃ z, z = s 50 6 := ⟨_, rfl⟩
        have g_z172 : (0 : Int) ≤ s 50 6 ∧ s 50 6 ≤ 120 := hG 50 6
        obtain ⟨z173, e_z173⟩ : ∃ z, z = s 0 10 := ⟨_, rfl⟩
        have g_z173 : (0 : Int) ≤ s 0 10 ∧ s 0 10 ≤ 9 := hG 0 10
        refine x_callV k231_463 (y := 99) (n := 2) (w0 := 0) (w1 := 2) (as := [vi z169, vi z171]) (rest := []) (by decide +kernel) (q := 0) (nq := 12) (kq := 3) ⟨by decide, rfl⟩ rfl rfl rfl rfl (xe_mono (V_X10_doubt_0 s hG z169 ⟨by omega, by omega⟩ z171 ⟨by omega, by omega⟩ ⟨by omega, by omega⟩ ⟨by omega, by omega⟩ i_VCj i_VCl) ?_)
        rintro s175 v ⟨hG_s175, t_s175, z174, rfl, g_z174, xp_z174, VCj_s175, VCl_s175⟩
        have q176 : s175 50 6 = z172 := (t_s175 50 6 (show 711 ∉ [1152, 3276, 3277] from by decide)).trans e_z172.symm
        have q177 : s175 0 10 = z173 := (t_s175 0 10 (show 11 ∉ [1152, 3276, 3277] from by decide)).trans e_z173.symm
        have J_s175 : J s175 := J.fl i_J t_s175 (by decide)
        have TR_s175 : TR s175 := TR.fl i_TR (hG 256 1).2 t_s175 (by decide)
        have X1_s175 : X1 s175 := X1.fl i_X1 t_s175 (by decide)
        have R1_s175 : R1 s175 := R1.fl i_R1 t_s175 (by decide)
        have G3_s175 : G3 s175 := G3.fl i_G3 t_s175 (by decide)
        have S1_s175 : S1 s175 := S1.fl i_S1 t_s175 (by decide)
        have S2_s175 : S2 s175 := S2.fl i_S2 t_s175 (by decide)
        show xe (some (N, xs)) 231 466 [(0, .ref 2000), (1, .ref 0), (2, .ref 256), (3, vi x3)] [vi z174] s175 295 10442 _
        refine x_A k231_466 (fun _ => rfl) ?_
        refine x_A k231_467 (fun _ => rfl) ?_
        refine x_A k231_468 (fun _ => rfl) ?_
        refine x_A k231_469 (fun _ => rfl) ?_
        refine x_A k231_470 (fun _ => rfl) ?_
        refine x_iadd k231_471 ?_
        refine x_top (fun z178 e_z178 => ?_)
        refine x_scr k231_472 hN ⟨by omega, by omega⟩ (fun z179 g_z179 e_z179 => ?_)
        unfold in32 at g_z179
        have q_z179 : z179 = z169 := by rw [e_z179, e_z169, show z178 = z168 by omega]
        refine x_A k231_473 (fun _ => rfl) ?_
        refine x_A k231_474 (fun _ => rfl) ?_
        refine x_A k231_475 (fun _ => rfl) ?_
        refine x_iadd k231_476 ?_
        refine x_top (fun z180 e_z180 => ?_)
        refine x_scr k231_477 hN ⟨by omega, by omega⟩ (fun z181 g_z181 e_z181 => ?_)
        unfold in32 at g_z181
        have q_z181 : z181 = z171 := by rw [e_z181, e_z171, show z180 = z170 by omega]
        obtain ⟨z182, e_z182⟩ : ∃ z, z = s175 256 10 := ⟨_, rfl⟩
        have g_z182 : (0 : Int) ≤ s175 256 10 ∧ s175 256 10 ≤ 120 := hG_s175 256 10
        obtain ⟨z183, e_z183⟩ : ∃ z, z = s175 256 0 := ⟨_, rfl⟩
        have g_z183 : (0 : Int) ≤ s175 256 0 ∧ s175 256 0 ≤ 9 := hG_s175 256 0
        refine x_callV k231_478 (y := 157) (n := 2) (w0 := 0) (w1 := 2) (as := [vi z179, vi z181]) (rest := []) (by decide +kernel) (q := 256) (nq := 62) (kq := 15) ⟨by decide, rfl⟩ rfl rfl rfl rfl (xe_mono (E_X11_doubt_256 s175 hG_s175 z179 ⟨by omega, by omega⟩ z181 ⟨by omega, by omega⟩ ⟨by omega, by omega⟩ ⟨by omega, by omega⟩) ?_)
        rintro s185 v ⟨hG_s185, t_s185, z184, rfl, g_z184, xp_z184⟩
        have q186 : s185 50 6 = z172 := (t_s185 50 6 (show 711 ∉ [4928] from by decide)).trans q176
        have q187 : s185 0 10 = z173 := (t_s185 0 10 (show 11 ∉ [4928] from by decide)).trans q177
        have q188 : s185 256 10 = z182 := (t_s185 256 10 (show 4107 ∉ [4928] from by decide)).trans e_z182.symm
        have q189 : s185 256 0 = z183 := (t_s185 256 0 (show 4097 ∉ [4928] from by decide)).trans e_z183.symm
        have J_s185 : J s185 := J.fl J_s175 t_s185 (by decide)
        have TR_s185 : TR s185 := TR.fl TR_s175 (hG_s175 256 1).2 t_s185 (by decide)
        have X1_s185 : X1 s185 := X1.fl X1_s175 t_s185 (by decide)
        have R1_s185 : R1 s185 := R1.fl R1_s175 t_s185 (by decide)
        have G3_s185 : G3 s185 := G3.fl G3_s175 t_s185 (by decide)
        have S1_s185 : S1 s185 := S1.fl S1_s175 t_s185 (by decide)
        have S2_s185 : S2 s185 := S2.fl S2_s175 t_s185 (by decide)
        have VCj_s185 : VCj s185 := VCj.fl VCj_s175 hG_s175 t_s185 (by decide)
        have VCl_s185 : VCl s185 := VCl.fl VCl_s175 hG_s175 t_s185 (by decide)
        show xe (some (N, xs)) 231 481 [(0, .ref 2000), (1, .ref 0), (2, .ref 256), (3, vi x3)] [vi z184] s185 295 10442 _
        obtain ⟨ez_s185, G1_s185⟩ := G1.doubt i_G1 i_TR.1.1 hG t_s175 t_s185 (by decide) (by decide) xp_z174 (by rw [← q_z179, ← q_z181]; exact xp_z184)
        refine x_A k231_481 (fun _ => rfl) ?_
        refine x_goto k231_482 (t := 1300) rfl ?_
        refine x_iinc k231_1300 (ls' := [(3, vi (x3 + 7)), (0, .ref 2000), (1, .ref 0), (2, .ref 256)]) rfl (by decide) rfl ?_
        refine x_goto k231_1303 (t := 18) rfl ?_
        refine x_ls (l := [(0, .ref 2000), (1, .ref 0), (2, .ref 256), (3, vi (x3 + 7))]) (show ([0, 1, 2, 3] : List Nat).Nodup from by decide) ⟨rfl, rfl, rfl, rfl, trivial⟩ ?_
        exact ih s185 (x3 + 7) hG_s185 trivial ⟨by omega, by omega⟩ J_s185 TR_s185 X1_s185 R1_s185 G1_s185 G3_s185 S1_s185 S2_s185 VCj_s185 VCl_s185  (by omega)
      · rw [c5]
        refine x_B k231_33 rfl (fun _ => rfl) (fun _ => rfl) (fun _ _ => rfl) ?_
        show xe (some (N, xs)) 231 485 [(0, .ref 2000), (1, .ref 0), (2, .ref 256), (3, vi x3)] [] s 295 10442 _
        refine x_A k231_485 (fun _ => rfl) ?_
        refine x_A k231_486 (fun _ => rfl) ?_
        refine x_A k231_487 (fun _ => rfl) ?_
        refine x_A k231_488 (fun _ => rfl) ?_
        refine x_iadd k231_489 ?_
        refine x_top (fun z190 e_z190 => ?_)
        refine x_scr k231_490 hN ⟨by omega, by omega⟩ (fun z191 g_z191 e_z191 => ?_)
        unfold in32 at g_z191
        refine x_A k231_491 (fun _ => rfl) ?_
        refine x_A k231_492 (fun _ => rfl) ?_
        refine x_A k231_493 (fun _ => rfl) ?_
        refine x_iadd k231_494 ?_
        refine x_top (fun z192 e_z192 => ?_)
        refine x_scr k231_495 hN ⟨by omega, by omega⟩ (fun z193 g_z193 e_z193 => ?_)
        unfold in32 at g_z193
        obtain ⟨z194, e_z194⟩ : ∃ z, z = s 50 6 := ⟨_, rfl⟩
        have g_z194 : (0 : Int) ≤ s 50 6 ∧ s 50 6 ≤ 120 := hG 50 6
        obtain ⟨z195, e_z195⟩ : ∃ z, z = s 0 10 := ⟨_, rfl⟩
        have g_z195 : (0 : Int) ≤ s 0 10 ∧ s 0 10 ≤ 9 := hG 0 10
        refine x_callV k231_496 (y := 100) (n := 2) (w0 := 0) (w1 := 2) (as := [vi z191, vi z193]) (rest := []) (by decide +kernel) (q := 0) (nq := 12) (kq := 3) ⟨by decide, rfl⟩ rfl rfl rfl rfl (xe_mono (W_X10_told_0 s hG i_J z191 ⟨by omega, by omega⟩ z193 ⟨by omega, by omega⟩ ⟨by omega, by omega⟩ ⟨by omega, by omega⟩ i_R1 i_VCj i_VCl) ?_)
        rintro s197 v ⟨hG_s197, t_s197, z196, rfl, g_z196, xp_z196, VCj_s197, VCl_s197⟩
        have q198 : s197 50 6 = z194 := (t_s197 50 6 (show 711 ∉ [3329, 3334, 3335, 3336, 3392, 3456, 3520, 3584, 3276, 3648, 3712, 3776, 3840, 3904, 3968, 3277, 4032] from by decide)).trans e_z194.symm
        have q199 : s197 0 10 = z195 := (t_s197 0 10 (show 11 ∉ [3329, 3334, 3335, 3336, 3392, 3456, 3520, 3584, 3276, 3648, 3712, 3776, 3840, 3904, 3968, 3277, 4032] from by decide)).trans e_z195.symm
        have J_s197 : J s197 := J.fl i_J t_s197 (by decide)
        have TR_s197 : TR s197 := TR.fl i_TR (hG 256 1).2 t_s197 (by decide)
        have X1_s197 : X1 s197 := X1.fl i_X1 t_s197 (by decide)
        have R1_s197 : R1 s197 := R1.fl i_R1 t_s197 (by decide)
        have G1_s197 : G1 s197 := G1.fl i_G1 t_s197 (by decide)
        have G3_s197 : G3 s197 := G3.fl i_G3 t_s197 (by decide)
        have S1_s197 : S1 s197 := S1.fl i_S1 t_s197 (by decide)
        have S2_s197 : S2 s197 := S2.fl i_S2 t_s197 (by decide)
        show xe (some (N, xs)) 231 499 [(0, .ref 2000), (1, .ref 0), (2, .ref 256), (3, vi x3)] [vi z196] s197 295 10442 _
        refine x_A k231_499 (fun _ => rfl) ?_
        refine x_A k231_500 (fun _ => rfl) ?_
        refine x_A k231_501 (fun _ => rfl) ?_
        refine x_A k231_502 (fun _ => rfl) ?_
        refine x_A k231_503 (fun _ => rfl) ?_
        refine x_iadd k231_504 ?_
        refine x_top (fun z200 e_z200 => ?_)
        refine x_scr k231_505 hN ⟨by omega, by omega⟩ (fun z201 g_z201 e_z201 => ?_)
        unfold in32 at g_z201
        have q_z201 : z201 = z191 := by rw [e_z201, e_z191, show z200 = z190 by omega]
        refine x_A k231_506 (fun _ => rfl) ?_
        refine x_A k231_507 (fun _ => rfl) ?_
        refine x_A k231_508 (fun _ => rfl) ?_
        refine x_iadd k231_509 ?_
        refine x_top (fun z202 e_z202 => ?_)
        refine x_scr k231_510 hN ⟨by omega, by omega⟩ (fun z203 g_z203 e_z203 => ?_)
        unfold in32 at g_z203
        have q_z203 : z203 = z193 := by rw [e_z203, e_z193, show z202 = z192 by omega]
        refine x_callV k231_511 (y := 158) (n := 2) (w0 := 0) (w1 := 2) (as := [vi z201, vi z203]) (rest := []) (by decide +kernel) (q := 256) (nq := 62) (kq := 15) ⟨by decide, rfl⟩ rfl rfl rfl rfl (xe_mono (E_X11_told_256 s197 hG_s197 J_s197 z201 ⟨by omega, by omega⟩ z203 ⟨by omega, by omega⟩ R1_s197 TR_s197 G1_s197 G3_s197) ?_)
        rintro s205 v ⟨hG_s205, t_s205, z204, rfl, g_z204, xp_z204⟩
        have q206 : s205 50 6 = z194 := (t_s205 50 6 (show 711 ∉ [5312, 5376, 4123, 5440, 5504, 5568] from by decide)).trans q198
        have q207 : s205 0 10 = z195 := (t_s205 0 10 (show 11 ∉ [5312, 5376, 4123, 5440, 5504, 5568] from by decide)).trans q199
        have J_s205 : J s205 := J.fl J_s197 t_s205 (by decide)
        have TR_s205 : TR s205 := TR.fl TR_s197 (hG_s197 256 1).2 t_s205 (by decide)
        have X1_s205 : X1 s205 := X1.fl X1_s197 t_s205 (by decide)
        have R1_s205 : R1 s205 := R1.fl R1_s197 t_s205 (by decide)
        have G1_s205 : G1 s205 := G1.fl G1_s197 t_s205 (by decide)
        have G3_s205 : G3 s205 := G3.fl G3_s197 t_s205 (by decide)
        have S1_s205 : S1 s205 := S1.fl S1_s197 t_s205 (by decide)
        have S2_s205 : S2 s205 := S2.fl S2_s197 t_s205 (by decide)
        have VCj_s205 : VCj s205 := VCj.fl VCj_s197 hG_s197 t_s205 (by decide)
        have VCl_s205 : VCl s205 := VCl.fl VCl_s197 hG_s197 t_s205 (by decide)
        show xe (some (N, xs)) 231 514 [(0, .ref 2000), (1, .ref 0), (2, .ref 256), (3, vi x3)] [vi z204] s205 295 10442 _
        refine x_A k231_514 (fun _ => rfl) ?_
        refine x_goto k231_515 (t := 1300) rfl ?_
        refine x_iinc k231_1300 (ls' := [(3, vi (x3 + 7)), (0, .ref 2000), (1, .ref 0), (2, .ref 256)]) rfl (by decide) rfl ?_
        refine x_goto k231_1303 (t := 18) rfl ?_
        refine x_ls (l := [(0, .ref 2000), (1, .ref 0), (2, .ref 256), (3, vi (x3 + 7))]) (show ([0, 1, 2, 3] : List Nat).Nodup from by decide) ⟨rfl, rfl, rfl, rfl, trivial⟩ ?_
        exact ih s205 (x3 + 7) hG_s205 trivial ⟨by omega, by omega⟩ J_s205 TR_s205 X1_s205 R1_s205 G1_s205 G3_s205 S1_s205 S2_s205 VCj_s205 VCl_s205  (by omega)
      · rw [c5]
        refine x_B k231_33 rfl (fun _ => rfl) (fun _ => rfl) (fun _ _ => rfl) ?_
        show xe (some (N, xs)) 231 518 [(0, .ref 2000), (1, .ref 0), (2, .ref 256), (3, vi x3)] [] s 295 10442 _
        refine x_A k231_518 (fun _ => rfl) ?_
        refine x_A k231_519 (fun _ => rfl) ?_
        refine x_A k231_520 (fun _ => rfl) ?_
        refine x_A k231_521 (fun _ => rfl) ?_
        refine x_iadd k231_522 ?_
        refine x_top (fun z208 e_z208 => ?_)
        refine x_scr k231_523 hN ⟨by omega, by omega⟩ (fun z209 g_z209 e_z209 => ?_)
        unfold in32 at g_z209
        refine x_A k231_524 (fun _ => rfl) ?_
        refine x_A k231_525 (fun _ => rfl) ?_
        refine x_A k231_526 (fun _ => rfl) ?_
        refine x_iadd k231_527 ?_
        refine x_top (fun z210 e_z210 => ?_)
        refine x_scr k231_528 hN ⟨by omega, by omega⟩ (fun z211 g_z211 e_z211 => ?_)
        unfold in32 at g_z211
        refine x_A k231_529 (fun _ => rfl) ?_
        refine x_A k231_530 (fun _ => rfl) ?_
        refine x_A k231_531 (fun _ => rfl) ?_
        refine x_iadd k231_532 ?_
        refine x_top (fun z212 e_z212 => ?_)
        refine x_scr k231_533 hN ⟨by omega, by omega⟩ (fun z213 g_z213 e_z213 => ?_)
        unfold in32 at g_z213
        refine x_callV k231_534 (y := 101) (n := 3) (w0 := 0) (w1 := 3) (as := [vi z209, vi z211, vi z213]) (rest := []) (by decide +kernel) (q := 0) (nq := 12) (kq := 3) ⟨by decide, rfl⟩ rfl rfl rfl rfl (xe_mono (V_X10_means_0 s hG i_J z209 ⟨by omega, by omega⟩ z211 ⟨by omega, by omega⟩ z213 ⟨by omega, by omega⟩ i_R1 i_VCj i_VCl) ?_)
        rintro s215 v ⟨hG_s215, t_s215, z214, rfl, g_z214, VCj_s215, VCl_s215⟩
        have J_s215 : J s215 := J.fl i_J t_s215 (by decide)
        have TR_s215 : TR s215 := TR.fl i_TR (hG 256 1).2 t_s215 (by decide)
        have X1_s215 : X1 s215 := X1.fl i_X1 t_s215 (by decide)
        have R1_s215 : R1 s215 := R1.fl i_R1 t_s215 (by decide)
        have G1_s215 : G1 s215 := G1.fl i_G1 t_s215 (by decide)
        have G3_s215 : G3 s215 := G3.fl i_G3 t_s215 (by decide)
        have S1_s215 : S1 s215 := S1.fl i_S1 t_s215 (by decide)
        have S2_s215 : S2 s215 := S2.fl i_S2 t_s215 (by decide)
        show xe (some (N, xs)) 231 537 [(0, .ref 2000), (1, .ref 0), (2, .ref 256), (3, vi x3)] [vi z214] s215 295 10442 _
        refine x_A k231_537 (fun _ => rfl) ?_
        refine x_A k231_538 (fun _ => rfl) ?_
        refine x_A k231_539 (fun _ => rfl) ?_
        refine x_A k231_540 (fun _ => rfl) ?_
        refine x_A k231_541 (fun _ => rfl) ?_
        refine x_iadd k231_542 ?_
        refine x_top (fun z216 e_z216 => ?_)
        refine x_scr k231_543 hN ⟨by omega, by omega⟩ (fun z217 g_z217 e_z217 => ?_)
        unfold in32 at g_z217
        have q_z217 : z217 = z209 := by rw [e_z217, e_z209, show z216 = z208 by omega]
        refine x_A k231_544 (fun _ => rfl) ?_
        refine x_A k231_545 (fun _ => rfl) ?_
        refine x_A k231_546 (fun _ => rfl) ?_
        refine x_iadd k231_547 ?_
        refine x_top (fun z218 e_z218 => ?_)
        refine x_scr k231_548 hN ⟨by omega, by omega⟩ (fun z219 g_z219 e_z219 => ?_)
        unfold in32 at g_z219
        have q_z219 : z219 = z211 := by rw [e_z219, e_z211, show z218 = z210 by omega]
        refine x_A k231_549 (fun _ => rfl) ?_
        refine x_A k231_550 (fun _ => rfl) ?_
        refine x_A k231_551 (fun _ => rfl) ?_
        refine x_iadd k231_552 ?_
        refine x_top (fun z220 e_z220 => ?_)
        refine x_scr k231_553 hN ⟨by omega, by omega⟩ (fun z221 g_z221 e_z221 => ?_)
        unfold in32 at g_z221
        have q_z221 : z221 = z213 := by rw [e_z221, e_z213, show z220 = z212 by omega]
        refine x_callV k231_554 (y := 172) (n := 3) (w0 := 0) (w1 := 3) (as := [vi z217, vi z219, vi z221]) (rest := []) (by decide +kernel) (q := 256) (nq := 62) (kq := 15) ⟨by decide, rfl⟩ rfl rfl rfl rfl (xe_mono (C_X11_means_256 s215 hG_s215 J_s215 z217 ⟨by omega, by omega⟩ z219 ⟨by omega, by omega⟩ z221 ⟨by omega, by omega⟩) ?_)
        rintro s223 v ⟨hG_s223, t_s223, z222, rfl, g_z222⟩
        have J_s223 : J s223 := J.fl J_s215 t_s223 (by decide)
        have TR_s223 : TR s223 := TR.fl TR_s215 (hG_s215 256 1).2 t_s223 (by decide)
        have X1_s223 : X1 s223 := X1.fl X1_s215 t_s223 (by decide)
        have R1_s223 : R1 s223 := R1.fl R1_s215 t_s223 (by decide)
        have G1_s223 : G1 s223 := G1.fl G1_s215 t_s223 (by decide)
        have G3_s223 : G3 s223 := G3.fl G3_s215 t_s223 (by decide)
        have S1_s223 : S1 s223 := S1.fl S1_s215 t_s223 (by decide)
        have S2_s223 : S2 s223 := S2.fl S2_s215 t_s223 (by decide)
        have VCj_s223 : VCj s223 := VCj.fl VCj_s215 hG_s215 t_s223 (by decide)
        have VCl_s223 : VCl s223 := VCl.fl VCl_s215 hG_s215 t_s223 (by decide)
        show xe (some (N, xs)) 231 557 [(0, .ref 2000), (1, .ref 0), (2, .ref 256), (3, vi x3)] [vi z222] s223 295 10442 _
        refine x_A k231_557 (fun _ => rfl) ?_
        refine x_goto k231_558 (t := 1300) rfl ?_
        refine x_iinc k231_1300 (ls' := [(3, vi (x3 + 7)), (0, .ref 2000), (1, .ref 0), (2, .ref 256)]) rfl (by decide) rfl ?_
        refine x_goto k231_1303 (t := 18) rfl ?_
        refine x_ls (l := [(0, .ref 2000), (1, .ref 0), (2, .ref 256), (3, vi (x3 + 7))]) (show ([0, 1, 2, 3] : List Nat).Nodup from by decide) ⟨rfl, rfl, rfl, rfl, trivial⟩ ?_
        exact ih s223 (x3 + 7) hG_s223 trivial ⟨by omega, by omega⟩ J_s223 TR_s223 X1_s223 R1_s223 G1_s223 G3_s223 S1_s223 S2_s223 VCj_s223 VCl_s223  (by omega)
      · rw [c5]
        refine x_B k231_33 rfl (fun _ => rfl) (fun _ => rfl) (fun _ _ => rfl) ?_
        show xe (some (N, xs)) 231 561 [(0, .ref 2000), (1, .ref 0), (2, .ref 256), (3, vi x3)] [] s 295 10442 _
        refine x_A k231_561 (fun _ => rfl) ?_
        refine x_A k231_562 (fun _ => rfl) ?_
        refine x_A k231_563 (fun _ => rfl) ?_
        refine x_A k231_564 (fun _ => rfl) ?_
        refine x_iadd k231_565 ?_
        refine x_top (fun z224 e_z224 => ?_)
        refine x_scr k231_566 hN ⟨by omega, by omega⟩ (fun z225 g_z225 e_z225 => ?_)
        unfold in32 at g_z225
        refine x_A k231_567 (fun _ => rfl) ?_
        refine x_A k231_568 (fun _ => rfl) ?_
        refine x_A k231_569 (fun _ => rfl) ?_
        refine x_iadd k231_570 ?_
        refine x_top (fun z226 e_z226 => ?_)
        refine x_scr k231_571 hN ⟨by omega, by omega⟩ (fun z227 g_z227 e_z227 => ?_)
        unfold in32 at g_z227
        refine x_A k231_572 (fun _ => rfl) ?_
        refine x_A k231_573 (fun _ => rfl) ?_
        refine x_A k231_574 (fun _ => rfl) ?_
        refine x_iadd k231_575 ?_
        refine x_top (fun z228 e_z228 => ?_)
        refine x_scr k231_576 hN ⟨by omega, by omega⟩ (fun z229 g_z229 e_z229 => ?_)
        unfold in32 at g_z229
        refine x_callV k231_577 (y := 102) (n := 3) (w0 := 0) (w1 := 3) (as := [vi z225, vi z227, vi z229]) (rest := []) (by decide +kernel) (q := 0) (nq := 12) (kq := 3) ⟨by decide, rfl⟩ rfl rfl rfl rfl (xe_mono (V_X10_led_0 s hG i_J z225 ⟨by omega, by omega⟩ z227 ⟨by omega, by omega⟩ z229 ⟨by omega, by omega⟩ i_R1 i_VCj i_VCl) ?_)
        rintro s231 v ⟨hG_s231, t_s231, z230, rfl, g_z230, VCj_s231, VCl_s231⟩
        have J_s231 : J s231 := J.fl i_J t_s231 (by decide)
        have TR_s231 : TR s231 := TR.fl i_TR (hG 256 1).2 t_s231 (by decide)
        have X1_s231 : X1 s231 := X1.fl i_X1 t_s231 (by decide)
        have R1_s231 : R1 s231 := R1.fl i_R1 t_s231 (by decide)
        have G1_s231 : G1 s231 := G1.fl i_G1 t_s231 (by decide)
        have G3_s231 : G3 s231 := G3.fl i_G3 t_s231 (by decide)
        have S1_s231 : S1 s231 := S1.fl i_S1 t_s231 (by decide)
        have S2_s231 : S2 s231 := S2.fl i_S2 t_s231 (by decide)
        show xe (some (N, xs)) 231 580 [(0, .ref 2000), (1, .ref 0), (2, .ref 256), (3, vi x3)] [vi z230] s231 295 10442 _
        refine x_A k231_580 (fun _ => rfl) ?_
        refine x_A k231_581 (fun _ => rfl) ?_
        refine x_A k231_582 (fun _ => rfl) ?_
        refine x_A k231_583 (fun _ => rfl) ?_
        refine x_A k231_584 (fun _ => rfl) ?_
        refine x_iadd k231_585 ?_
        refine x_top (fun z232 e_z232 => ?_)
        refine x_scr k231_586 hN ⟨by omega, by omega⟩ (fun z233 g_z233 e_z233 => ?_)
        unfold in32 at g_z233
        have q_z233 : z233 = z225 := by rw [e_z233, e_z225, show z232 = z224 by omega]
        refine x_A k231_587 (fun _ => rfl) ?_
        refine x_A k231_588 (fun _ => rfl) ?_
        refine x_A k231_589 (fun _ => rfl) ?_
        refine x_iadd k231_590 ?_
        refine x_top (fun z234 e_z234 => ?_)
        refine x_scr k231_591 hN ⟨by omega, by omega⟩ (fun z235 g_z235 e_z235 => ?_)
        unfold in32 at g_z235
        have q_z235 : z235 = z227 := by rw [e_z235, e_z227, show z234 = z226 by omega]
        refine x_A k231_592 (fun _ => rfl) ?_
        refine x_A k231_593 (fun _ => rfl) ?_
        refine x_A k231_594 (fun _ => rfl) ?_
        refine x_iadd k231_595 ?_
        refine x_top (fun z236 e_z236 => ?_)
        refine x_scr k231_596 hN ⟨by omega, by omega⟩ (fun z237 g_z237 e_z237 => ?_)
        unfold in32 at g_z237
        have q_z237 : z237 = z229 := by rw [e_z237, e_z229, show z236 = z228 by omega]
        refine x_callV k231_597 (y := 173) (n := 3) (w0 := 0) (w1 := 3) (as := [vi z233, vi z235, vi z237]) (rest := []) (by decide +kernel) (q := 256) (nq := 62) (kq := 15) ⟨by decide, rfl⟩ rfl rfl rfl rfl (xe_mono (C_X11_led_256 s231 hG_s231 J_s231 z233 ⟨by omega, by omega⟩ z235 ⟨by omega, by omega⟩ z237 ⟨by omega, by omega⟩) ?_)
        rintro s239 v ⟨hG_s239, t_s239, z238, rfl, g_z238⟩
        have J_s239 : J s239 := J.fl J_s231 t_s239 (by decide)
        have TR_s239 : TR s239 := TR.fl TR_s231 (hG_s231 256 1).2 t_s239 (by decide)
        have X1_s239 : X1 s239 := X1.fl X1_s231 t_s239 (by decide)
        have R1_s239 : R1 s239 := R1.fl R1_s231 t_s239 (by decide)
        have G1_s239 : G1 s239 := G1.fl G1_s231 t_s239 (by decide)
        have G3_s239 : G3 s239 := G3.fl G3_s231 t_s239 (by decide)
        have S1_s239 : S1 s239 := S1.fl S1_s231 t_s239 (by decide)
        have S2_s239 : S2 s239 := S2.fl S2_s231 t_s239 (by decide)
        have VCj_s239 : VCj s239 := VCj.fl VCj_s231 hG_s231 t_s239 (by decide)
        have VCl_s239 : VCl s239 := VCl.fl VCl_s231 hG_s231 t_s239 (by decide)
        show xe (some (N, xs)) 231 600 [(0, .ref 2000), (1, .ref 0), (2, .ref 256), (3, vi x3)] [vi z238] s239 295 10442 _
        refine x_A k231_600 (fun _ => rfl) ?_
        refine x_goto k231_601 (t := 1300) rfl ?_
        refine x_iinc k231_1300 (ls' := [(3, vi (x3 + 7)), (0, .ref 2000), (1, .ref 0), (2, .ref 256)]) rfl (by decide) rfl ?_
        refine x_goto k231_1303 (t := 18) rfl ?_
        refine x_ls (l := [(0, .ref 2000), (1, .ref 0), (2, .ref 256), (3, vi (x3 + 7))]) (show ([0, 1, 2, 3] : List Nat).Nodup from by decide) ⟨rfl, rfl, rfl, rfl, trivial⟩ ?_
        exact ih s239 (x3 + 7) hG_s239 trivial ⟨by omega, by omega⟩ J_s239 TR_s239 X1_s239 R1_s239 G1_s239 G3_s239 S1_s239 S2_s239 VCj_s239 VCl_s239  (by omega)
      · rw [c5]
        refine x_B k231_33 rfl (fun _ => rfl) (fun _ => rfl) (fun _ _ => rfl) ?_
        show xe (some (N, xs)) 231 604 [(0, .ref 2000), (1, .ref 0), (2, .ref 256), (3, vi x3)] [] s 295 10442 _
        refine x_A k231_604 (fun _ => rfl) ?_
        refine x_A k231_605 (fun _ => rfl) ?_
        refine x_A k231_606 (fun _ => rfl) ?_
        refine x_A k231_607 (fun _ => rfl) ?_
        refine x_iadd k231_608 ?_
        refine x_top (fun z240 e_z240 => ?_)
        refine x_scr k231_609 hN ⟨by omega, by omega⟩ (fun z241 g_z241 e_z241 => ?_)
        unfold in32 at g_z241
        refine x_callV k231_610 (y := 103) (n := 1) (w0 := 0) (w1 := 1) (as := [vi z241]) (rest := []) (by decide +kernel) (q := 0) (nq := 12) (kq := 3) ⟨by decide, rfl⟩ rfl rfl rfl rfl (xe_mono (V_X10_count_0 s hG i_J z241 ⟨by omega, by omega⟩ i_R1 i_VCj i_VCl) ?_)
        rintro s243 v ⟨hG_s243, t_s243, z242, rfl, g_z242, VCj_s243, VCl_s243⟩
        have J_s243 : J s243 := J.fl i_J t_s243 (by decide)
        have TR_s243 : TR s243 := TR.fl i_TR (hG 256 1).2 t_s243 (by decide)
        have X1_s243 : X1 s243 := X1.fl i_X1 t_s243 (by decide)
        have R1_s243 : R1 s243 := R1.fl i_R1 t_s243 (by decide)
        have G1_s243 : G1 s243 := G1.fl i_G1 t_s243 (by decide)
        have G3_s243 : G3 s243 := G3.fl i_G3 t_s243 (by decide)
        have S1_s243 : S1 s243 := S1.fl i_S1 t_s243 (by decide)
        have S2_s243 : S2 s243 := S2.fl i_S2 t_s243 (by decide)
        show xe (some (N, xs)) 231 613 [(0, .ref 2000), (1, .ref 0), (2, .ref 256), (3, vi x3)] [vi z242] s243 295 10442 _
        refine x_A k231_613 (fun _ => rfl) ?_
        refine x_A k231_614 (fun _ => rfl) ?_
        refine x_A k231_615 (fun _ => rfl) ?_
        refine x_A k231_616 (fun _ => rfl) ?_
        refine x_A k231_617 (fun _ => rfl) ?_
        refine x_iadd k231_618 ?_
        refine x_top (fun z244 e_z244 => ?_)
        refine x_scr k231_619 hN ⟨by omega, by omega⟩ (fun z245 g_z245 e_z245 => ?_)
        unfold in32 at g_z245
        have q_z245 : z245 = z241 := by rw [e_z245, e_z241, show z244 = z240 by omega]
        refine x_callV k231_620 (y := 174) (n := 1) (w0 := 0) (w1 := 1) (as := [vi z245]) (rest := []) (by decide +kernel) (q := 256) (nq := 62) (kq := 15) ⟨by decide, rfl⟩ rfl rfl rfl rfl (xe_mono (C_X11_count_256 s243 hG_s243 J_s243 z245 ⟨by omega, by omega⟩) ?_)
        rintro s247 v ⟨hG_s247, t_s247, z246, rfl, g_z246⟩
        have J_s247 : J s247 := J.fl J_s243 t_s247 (by decide)
        have TR_s247 : TR s247 := TR.fl TR_s243 (hG_s243 256 1).2 t_s247 (by decide)
        have X1_s247 : X1 s247 := X1.fl X1_s243 t_s247 (by decide)
        have R1_s247 : R1 s247 := R1.fl R1_s243 t_s247 (by decide)
        have G1_s247 : G1 s247 := G1.fl G1_s243 t_s247 (by decide)
        have G3_s247 : G3 s247 := G3.fl G3_s243 t_s247 (by decide)
        have S1_s247 : S1 s247 := S1.fl S1_s243 t_s247 (by decide)
        have S2_s247 : S2 s247 := S2.fl S2_s243 t_s247 (by decide)
        have VCj_s247 : VCj s247 := VCj.fl VCj_s243 hG_s243 t_s247 (by decide)
        have VCl_s247 : VCl s247 := VCl.fl VCl_s243 hG_s243 t_s247 (by decide)
        show xe (some (N, xs)) 231 623 [(0, .ref 2000), (1, .ref 0), (2, .ref 256), (3, vi x3)] [vi z246] s247 295 10442 _
        refine x_A k231_623 (fun _ => rfl) ?_
        refine x_goto k231_624 (t := 1300) rfl ?_
        refine x_iinc k231_1300 (ls' := [(3, vi (x3 + 7)), (0, .ref 2000), (1, .ref 0), (2, .ref 256)]) rfl (by decide) rfl ?_
        refine x_goto k231_1303 (t := 18) rfl ?_
        refine x_ls (l := [(0, .ref 2000), (1, .ref 0), (2, .ref 256), (3, vi (x3 + 7))]) (show ([0, 1, 2, 3] : List Nat).Nodup from by decide) ⟨rfl, rfl, rfl, rfl, trivial⟩ ?_
        exact ih s247 (x3 + 7) hG_s247 trivial ⟨by omega, by omega⟩ J_s247 TR_s247 X1_s247 R1_s247 G1_s247 G3_s247 S1_s247 S2_s247 VCj_s247 VCl_s247  (by omega)
      · rw [c5]
        refine x_B k231_33 rfl (fun _ => rfl) (fun _ => rfl) (fun _ _ => rfl) ?_
        show xe (some (N, xs)) 231 627 [(0, .ref 2000), (1, .ref 0), (2, .ref 256), (3, vi x3)] [] s 295 10442 _
        refine x_A k231_627 (fun _ => rfl) ?_
        refine x_A k231_628 (fun _ => rfl) ?_
        refine x_A k231_629 (fun _ => rfl) ?_
        refine x_A k231_630 (fun _ => rfl) ?_
        refine x_iadd k231_631 ?_
        refine x_top (fun z248 e_z248 => ?_)
        refine x_scr k231_632 hN ⟨by omega, by omega⟩ (fun z249 g_z249 e_z249 => ?_)
        unfold in32 at g_z249
        refine x_A k231_633 (fun _ => rfl) ?_
        refine x_A k231_634 (fun _ => rfl) ?_
        refine x_A k231_635 (fun _ => rfl) ?_
        refine x_iadd k231_636 ?_
        refine x_top (fun z250 e_z250 => ?_)
        refine x_scr k231_637 hN ⟨by omega, by omega⟩ (fun z251 g_z251 e_z251 => ?_)
        unfold in32 at g_z251
        refine x_i2l k231_638 ⟨by omega, by omega⟩ ?_
        refine x_bipush k231_639 (by decide +kernel) ?_
        refine x_lshl_f k231_641 (fun z252 b_z252 e_z252 => ?_)
        refine x_A k231_642 (fun _ => rfl) ?_
        refine x_A k231_643 (fun _ => rfl) ?_
        refine x_A k231_644 (fun _ => rfl) ?_
        refine x_iadd k231_645 ?_
        refine x_top (fun z253 e_z253 => ?_)
        refine x_scr k231_646 hN ⟨by omega, by omega⟩ (fun z254 g_z254 e_z254 => ?_)
        unfold in32 at g_z254
        refine x_i2l k231_647 ⟨by omega, by omega⟩ ?_
        refine x_ldc2 k231_648 (z := 4294967295) rfl (by decide +kernel) ?_
        refine x_land_f k231_651 (fun z255 b_z255 e_z255 => ?_)
        refine x_lor_f k231_652 (fun z256 b_z256 e_z256 => ?_)
        refine x_callV k231_653 (y := 104) (n := 2) (w0 := 0) (w1 := 3) (as := [vi z249, vj z256]) (rest := []) (by decide +kernel) (q := 0) (nq := 12) (kq := 3) ⟨by decide, rfl⟩ rfl rfl rfl rfl (xe_mono (E_X10_feed_0 s hG z249 ⟨by omega, by omega⟩ z256 b_z256) ?_)
        rintro s258 v ⟨hG_s258, t_s258, z257, rfl, g_z257, xp_z257⟩
        have J_s258 : J s258 := J.fl i_J t_s258 (by decide)
        have TR_s258 : TR s258 := TR.fl i_TR (hG 256 1).2 t_s258 (by decide)
        have R1_s258 : R1 s258 := R1.fl i_R1 t_s258 (by decide)
        have G1_s258 : G1 s258 := G1.fl i_G1 t_s258 (by decide)
        have G3_s258 : G3 s258 := G3.fl i_G3 t_s258 (by decide)
        have S1_s258 : S1 s258 := S1.fl i_S1 t_s258 (by decide)
        have S2_s258 : S2 s258 := S2.fl i_S2 t_s258 (by decide)
        have VCj_s258 : VCj s258 := VCj.fl i_VCj hG t_s258 (by decide)
        have VCl_s258 : VCl s258 := VCl.fl i_VCl hG t_s258 (by decide)
        obtain ⟨z259, e_z259⟩ : ∃ z, z = s258 177 1 := ⟨_, rfl⟩
        have g_z259 : (0 : Int) ≤ s258 177 1 ∧ s258 177 1 ≤ 160 := hG_s258 177 1
        show xe (some (N, xs)) 231 656 [(0, .ref 2000), (1, .ref 0), (2, .ref 256), (3, vi x3)] [vi z257] s258 295 10442 _
        refine x_A k231_656 (fun _ => rfl) ?_
        refine x_A k231_657 (fun _ => rfl) ?_
        refine x_A k231_658 (fun _ => rfl) ?_
        refine x_A k231_659 (fun _ => rfl) ?_
        refine x_A k231_660 (fun _ => rfl) ?_
        refine x_iadd k231_661 ?_
        refine x_top (fun z260 e_z260 => ?_)
        refine x_scr k231_662 hN ⟨by omega, by omega⟩ (fun z261 g_z261 e_z261 => ?_)
        unfold in32 at g_z261
        have q_z261 : z261 = z249 := by rw [e_z261, e_z249, show z260 = z248 by omega]
        refine x_A k231_663 (fun _ => rfl) ?_
        refine x_A k231_664 (fun _ => rfl) ?_
        refine x_A k231_665 (fun _ => rfl) ?_
        refine x_iadd k231_666 ?_
        refine x_top (fun z262 e_z262 => ?_)
        refine x_scr k231_667 hN ⟨by omega, by omega⟩ (fun z263 g_z263 e_z263 => ?_)
        unfold in32 at g_z263
        have q_z263 : z263 = z251 := by rw [e_z263, e_z251, show z262 = z250 by omega]
        refine x_i2l k231_668 ⟨by omega, by omega⟩ ?_
        refine x_bipush k231_669 (by decide +kernel) ?_
        refine x_lshl_f k231_671 (fun z264 b_z264 e_z264 => ?_)
        refine x_A k231_672 (fun _ => rfl) ?_
        refine x_A k231_673 (fun _ => rfl) ?_
        refine x_A k231_674 (fun _ => rfl) ?_
        refine x_iadd k231_675 ?_
        refine x_top (fun z265 e_z265 => ?_)
        refine x_scr k231_676 hN ⟨by omega, by omega⟩ (fun z266 g_z266 e_z266 => ?_)
        unfold in32 at g_z266
        have q_z266 : z266 = z254 := by rw [e_z266, e_z254, show z265 = z253 by omega]
        refine x_i2l k231_677 ⟨by omega, by omega⟩ ?_
        refine x_ldc2 k231_678 (z := 4294967295) rfl (by decide +kernel) ?_
        refine x_land_f k231_681 (fun z267 b_z267 e_z267 => ?_)
        refine x_lor_f k231_682 (fun z268 b_z268 e_z268 => ?_)
        refine x_callV k231_683 (y := 175) (n := 2) (w0 := 0) (w1 := 3) (as := [vi z261, vj z268]) (rest := []) (by decide +kernel) (q := 256) (nq := 62) (kq := 15) ⟨by decide, rfl⟩ rfl rfl rfl rfl (xe_mono (E_X11_feed_256 s258 hG_s258 z261 ⟨by omega, by omega⟩ z268 b_z268) ?_)
        rintro s270 v ⟨hG_s270, t_s270, z269, rfl, g_z269, xp_z269⟩
        have q271 : s270 177 1 = z259 := (t_s270 177 1 (show 1218 ∉ [4131, 5824] from by decide)).trans e_z259.symm
        have J_s270 : J s270 := J.fl J_s258 t_s270 (by decide)
        have TR_s270 : TR s270 := TR.fl TR_s258 (hG_s258 256 1).2 t_s270 (by decide)
        have R1_s270 : R1 s270 := R1.fl R1_s258 t_s270 (by decide)
        have G1_s270 : G1 s270 := G1.fl G1_s258 t_s270 (by decide)
        have G3_s270 : G3 s270 := G3.fl G3_s258 t_s270 (by decide)
        have S1_s270 : S1 s270 := S1.fl S1_s258 t_s270 (by decide)
        have S2_s270 : S2 s270 := S2.fl S2_s258 t_s270 (by decide)
        have VCj_s270 : VCj s270 := VCj.fl VCj_s258 hG_s258 t_s270 (by decide)
        have VCl_s270 : VCl s270 := VCl.fl VCl_s258 hG_s258 t_s270 (by decide)
        obtain ⟨z272, e_z272⟩ : ∃ z, z = s270 256 34 := ⟨_, rfl⟩
        have g_z272 : (0 : Int) ≤ s270 256 34 ∧ s270 256 34 ≤ 160 := hG_s270 256 34
        show xe (some (N, xs)) 231 686 [(0, .ref 2000), (1, .ref 0), (2, .ref 256), (3, vi x3)] [vi z269] s270 295 10442 _
        have q_z268 : z268 = z256 := by rw [e_z268, e_z256, e_z264, e_z252, e_z267, e_z255, q_z263, q_z266]
        obtain ⟨ez_s270, X1_s270⟩ := X1.feed i_X1 t_s258 t_s270 (by decide) (by decide) xp_z257 (by rw [← q_z261, ← q_z268]; exact xp_z269)
        refine x_A k231_686 (fun _ => rfl) ?_
        refine x_goto k231_687 (t := 1300) rfl ?_
        refine x_iinc k231_1300 (ls' := [(3, vi (x3 + 7)), (0, .ref 2000), (1, .ref 0), (2, .ref 256)]) rfl (by decide) rfl ?_
        refine x_goto k231_1303 (t := 18) rfl ?_
        refine x_ls (l := [(0, .ref 2000), (1, .ref 0), (2, .ref 256), (3, vi (x3 + 7))]) (show ([0, 1, 2, 3] : List Nat).Nodup from by decide) ⟨rfl, rfl, rfl, rfl, trivial⟩ ?_
        exact ih s270 (x3 + 7) hG_s270 trivial ⟨by omega, by omega⟩ J_s270 TR_s270 X1_s270 R1_s270 G1_s270 G3_s270 S1_s270 S2_s270 VCj_s270 VCl_s270  (by omega)
      · rw [c5]
        refine x_B k231_33 rfl (fun _ => rfl) (fun _ => rfl) (fun _ _ => rfl) ?_
        show xe (some (N, xs)) 231 690 [(0, .ref 2000), (1, .ref 0), (2, .ref 256), (3, vi x3)] [] s 295 10442 _
        refine x_A k231_690 (fun _ => rfl) ?_
        refine x_A k231_691 (fun _ => rfl) ?_
        refine x_A k231_692 (fun _ => rfl) ?_
        refine x_A k231_693 (fun _ => rfl) ?_
        refine x_iadd k231_694 ?_
        refine x_top (fun z273 e_z273 => ?_)
        refine x_scr k231_695 hN ⟨by omega, by omega⟩ (fun z274 g_z274 e_z274 => ?_)
        unfold in32 at g_z274
        refine x_callV k231_696 (y := 105) (n := 1) (w0 := 0) (w1 := 1) (as := [vi z274]) (rest := []) (by decide +kernel) (q := 0) (nq := 12) (kq := 3) ⟨by decide, rfl⟩ rfl rfl rfl rfl (xe_mono (V_X10_rule_0 s hG z274 ⟨by omega, by omega⟩ i_J i_VCj i_VCl) ?_)
        rintro s276 v ⟨hG_s276, t_s276, z275, rfl, g_z275, xp_z275, J_s276, VCj_s276, VCl_s276⟩
        have TR_s276 : TR s276 := TR.fl i_TR (hG 256 1).2 t_s276 (by decide)
        have G1_s276 : G1 s276 := G1.fl i_G1 t_s276 (by decide)
        have G3_s276 : G3 s276 := G3.fl i_G3 t_s276 (by decide)
        have S1_s276 : S1 s276 := S1.fl i_S1 t_s276 (by decide)
        have S2_s276 : S2 s276 := S2.fl i_S2 t_s276 (by decide)
        obtain ⟨z277, e_z277⟩ : ∃ z, z = s276 177 1 := ⟨_, rfl⟩
        have g_z277 : (0 : Int) ≤ s276 177 1 ∧ s276 177 1 ≤ 160 := hG_s276 177 1
        obtain ⟨z278, e_z278⟩ : ∃ z, z = s276 177 5 := ⟨_, rfl⟩
        have g_z278 : (0 : Int) ≤ s276 177 5 ∧ s276 177 5 ≤ 5 := hG_s276 177 5
        obtain ⟨z279, e_z279⟩ : ∃ z, z = s276 177 6 := ⟨_, rfl⟩
        have g_z279 : (-2147483648) ≤ s276 177 6 ∧ s276 177 6 ≤ 2147483647 := hG_s276 177 6
        obtain ⟨z280, e_z280⟩ : ∃ z, z = s276 0 11 := ⟨_, rfl⟩
        have g_z280 : (-2147483648) ≤ s276 0 11 ∧ s276 0 11 ≤ 2147483647 := hG_s276 0 11
        show xe (some (N, xs)) 231 699 [(0, .ref 2000), (1, .ref 0), (2, .ref 256), (3, vi x3)] [vi z275] s276 295 10442 _
        refine x_A k231_699 (fun _ => rfl) ?_
        refine x_A k231_700 (fun _ => rfl) ?_
        refine x_A k231_701 (fun _ => rfl) ?_
        refine x_A k231_702 (fun _ => rfl) ?_
        refine x_A k231_703 (fun _ => rfl) ?_
        refine x_iadd k231_704 ?_
        refine x_top (fun z281 e_z281 => ?_)
        refine x_scr k231_705 hN ⟨by omega, by omega⟩ (fun z282 g_z282 e_z282 => ?_)
        unfold in32 at g_z282
        have q_z282 : z282 = z274 := by rw [e_z282, e_z274, show z281 = z273 by omega]
        obtain ⟨z283, e_z283⟩ : ∃ z, z = s276 256 20 := ⟨_, rfl⟩
        have g_z283 : (0 : Int) ≤ s276 256 20 ∧ s276 256 20 ≤ 64 := hG_s276 256 20
        obtain ⟨z284, e_z284⟩ : ∃ z, z = s276 256 17 := ⟨_, rfl⟩
        have g_z284 : (0 : Int) ≤ s276 256 17 ∧ s276 256 17 ≤ 8 := hG_s276 256 17
        refine x_callV k231_706 (y := 187) (n := 1) (w0 := 0) (w1 := 1) (as := [vi z282]) (rest := []) (by decide +kernel) (q := 256) (nq := 62) (kq := 15) ⟨by decide, rfl⟩ rfl rfl rfl rfl (xe_mono (E_X11_rule_256 s276 hG_s276 z282 ⟨by omega, by omega⟩ ⟨by omega, by omega⟩ ⟨by omega, by omega⟩ J_s276) ?_)
        rintro s286 v ⟨hG_s286, t_s286, z285, rfl, g_z285, xp_z285, J_s286⟩
        have q287 : s286 177 1 = z277 := (t_s286 177 1 (show 1218 ∉ [4133, 4136, 4132, 4134, 4135, 5120, 5184, 5248, 4131, 4992, 5056, 4117, 4114] from by decide)).trans e_z277.symm
        have q288 : s286 177 5 = z278 := (t_s286 177 5 (show 1222 ∉ [4133, 4136, 4132, 4134, 4135, 5120, 5184, 5248, 4131, 4992, 5056, 4117, 4114] from by decide)).trans e_z278.symm
        have q289 : s286 177 6 = z279 := (t_s286 177 6 (show 1223 ∉ [4133, 4136, 4132, 4134, 4135, 5120, 5184, 5248, 4131, 4992, 5056, 4117, 4114] from by decide)).trans e_z279.symm
        have q290 : s286 0 11 = z280 := (t_s286 0 11 (show 12 ∉ [4133, 4136, 4132, 4134, 4135, 5120, 5184, 5248, 4131, 4992, 5056, 4117, 4114] from by decide)).trans e_z280.symm
        have TR_s286 : TR s286 := TR.fl TR_s276 (hG_s276 256 1).2 t_s286 (by decide)
        have G1_s286 : G1 s286 := G1.fl G1_s276 t_s286 (by decide)
        have G3_s286 : G3 s286 := G3.fl G3_s276 t_s286 (by decide)
        have S1_s286 : S1 s286 := S1.fl S1_s276 t_s286 (by decide)
        have S2_s286 : S2 s286 := S2.fl S2_s276 t_s286 (by decide)
        have VCj_s286 : VCj s286 := VCj.fl VCj_s276 hG_s276 t_s286 (by decide)
        have VCl_s286 : VCl s286 := VCl.fl VCl_s276 hG_s276 t_s286 (by decide)
        obtain ⟨z291, e_z291⟩ : ∃ z, z = s286 256 35 := ⟨_, rfl⟩
        have g_z291 : (-2147483648) ≤ s286 256 35 ∧ s286 256 35 ≤ 2147483647 := hG_s286 256 35
        obtain ⟨z292, e_z292⟩ : ∃ z, z = s286 256 34 := ⟨_, rfl⟩
        have g_z292 : (0 : Int) ≤ s286 256 34 ∧ s286 256 34 ≤ 160 := hG_s286 256 34
        obtain ⟨z293, e_z293⟩ : ∃ z, z = s286 256 17 := ⟨_, rfl⟩
        have g_z293 : (0 : Int) ≤ s286 256 17 ∧ s286 256 17 ≤ 8 := hG_s286 256 17
        obtain ⟨z294, e_z294⟩ : ∃ z, z = s286 256 20 := ⟨_, rfl⟩
        have g_z294 : (0 : Int) ≤ s286 256 20 ∧ s286 256 20 ≤ 64 := hG_s286 256 20
        show xe (some (N, xs)) 231 709 [(0, .ref 2000), (1, .ref 0), (2, .ref 256), (3, vi x3)] [vi z285] s286 295 10442 _
        have R1_s286 := R1.rule i_R1 i_X1 i_J hG t_s276 t_s286 (by decide) (by decide) xp_z275 (by rw [← q_z282]; exact xp_z285)
        obtain ⟨ez_s286, X1_s286⟩ := X1.rule i_X1 hG t_s276 t_s286 (by decide) (by decide) xp_z275 (by rw [← q_z282]; exact xp_z285)
        refine x_A k231_709 (fun _ => rfl) ?_
        refine x_goto k231_710 (t := 1300) rfl ?_
        refine x_iinc k231_1300 (ls' := [(3, vi (x3 + 7)), (0, .ref 2000), (1, .ref 0), (2, .ref 256)]) rfl (by decide) rfl ?_
        refine x_goto k231_1303 (t := 18) rfl ?_
        refine x_ls (l := [(0, .ref 2000), (1, .ref 0), (2, .ref 256), (3, vi (x3 + 7))]) (show ([0, 1, 2, 3] : List Nat).Nodup from by decide) ⟨rfl, rfl, rfl, rfl, trivial⟩ ?_
        exact ih s286 (x3 + 7) hG_s286 trivial ⟨by omega, by omega⟩ J_s286 TR_s286 X1_s286 R1_s286 G1_s286 G3_s286 S1_s286 S2_s286 VCj_s286 VCl_s286  (by omega)
      · rw [c5]
        refine x_B k231_33 rfl (fun _ => rfl) (fun _ => rfl) (fun _ _ => rfl) ?_
        show xe (some (N, xs)) 231 713 [(0, .ref 2000), (1, .ref 0), (2, .ref 256), (3, vi x3)] [] s 295 10442 _
        refine x_A k231_713 (fun _ => rfl) ?_
        refine x_callV k231_714 (y := 106) (n := 0) (w0 := 0) (w1 := 0) (as := []) (rest := []) (by decide +kernel) (q := 0) (nq := 12) (kq := 3) ⟨by decide, rfl⟩ rfl rfl rfl rfl (xe_mono (E_X10_fault_0 s hG) ?_)
        rintro s296 v ⟨-, t_s296, z295, rfl, g_z295, xp_z295⟩
        rw [t_s296.nil]
        try rw [t_s296.nil] at xp_z295
        show xe (some (N, xs)) 231 717 [(0, .ref 2000), (1, .ref 0), (2, .ref 256), (3, vi x3)] [vi z295] s 295 10442 _
        refine x_A k231_717 (fun _ => rfl) ?_
        refine x_A k231_718 (fun _ => rfl) ?_
        refine x_callV k231_719 (y := 188) (n := 0) (w0 := 0) (w1 := 0) (as := []) (rest := []) (by decide +kernel) (q := 256) (nq := 62) (kq := 15) ⟨by decide, rfl⟩ rfl rfl rfl rfl (xe_mono (E_X11_fault_256 s hG) ?_)
        rintro s298 v ⟨-, t_s298, z297, rfl, g_z297, xp_z297⟩
        rw [t_s298.nil]
        try rw [t_s298.nil] at xp_z297
        show xe (some (N, xs)) 231 722 [(0, .ref 2000), (1, .ref 0), (2, .ref 256), (3, vi x3)] [vi z297] s 295 10442 _
        refine x_A k231_722 (fun _ => rfl) ?_
        refine x_goto k231_723 (t := 1300) rfl ?_
        refine x_iinc k231_1300 (ls' := [(3, vi (x3 + 7)), (0, .ref 2000), (1, .ref 0), (2, .ref 256)]) rfl (by decide) rfl ?_
        refine x_goto k231_1303 (t := 18) rfl ?_
        refine x_ls (l := [(0, .ref 2000), (1, .ref 0), (2, .ref 256), (3, vi (x3 + 7))]) (show ([0, 1, 2, 3] : List Nat).Nodup from by decide) ⟨rfl, rfl, rfl, rfl, trivial⟩ ?_
        exact ih s (x3 + 7) hG f ⟨by omega, by omega⟩ i_J i_TR i_X1 i_R1 i_G1 i_G3 i_S1 i_S2 i_VCj i_VCl  (by omega)
      · rw [c5]
        refine x_B k231_33 rfl (fun _ => rfl) (fun _ => rfl) (fun _ _ => rfl) ?_
        show xe (some (N, xs)) 231 726 [(0, .ref 2000), (1, .ref 0), (2, .ref 256), (3, vi x3)] [] s 295 10442 _
        refine x_A k231_726 (fun _ => rfl) ?_
        refine x_A k231_727 (fun _ => rfl) ?_
        refine x_A k231_728 (fun _ => rfl) ?_
        refine x_A k231_729 (fun _ => rfl) ?_
        refine x_iadd k231_730 ?_
        refine x_top (fun z299 e_z299 => ?_)
        refine x_scr k231_731 hN ⟨by omega, by omega⟩ (fun z300 g_z300 e_z300 => ?_)
        unfold in32 at g_z300
        refine x_A k231_732 (fun _ => rfl) ?_
        refine x_A k231_733 (fun _ => rfl) ?_
        refine x_A k231_734 (fun _ => rfl) ?_
        refine x_iadd k231_735 ?_
        refine x_top (fun z301 e_z301 => ?_)
        refine x_scr k231_736 hN ⟨by omega, by omega⟩ (fun z302 g_z302 e_z302 => ?_)
        unfold in32 at g_z302
        refine x_callV k231_737 (y := 107) (n := 2) (w0 := 0) (w1 := 2) (as := [vi z300, vi z302]) (rest := []) (by decide +kernel) (q := 0) (nq := 12) (kq := 3) ⟨by decide, rfl⟩ rfl rfl rfl rfl (xe_mono (E_X10_force_0 s hG i_J z300 ⟨by omega, by omega⟩ z302 ⟨by omega, by omega⟩ i_R1) ?_)
        rintro s304 v ⟨hG_s304, t_s304, z303, rfl, g_z303, xp_z303⟩
        have J_s304 : J s304 := J.fl i_J t_s304 (by decide)
        have TR_s304 : TR s304 := TR.fl i_TR (hG 256 1).2 t_s304 (by decide)
        have X1_s304 : X1 s304 := X1.fl i_X1 t_s304 (by decide)
        have R1_s304 : R1 s304 := R1.fl i_R1 t_s304 (by decide)
        have G1_s304 : G1 s304 := G1.fl i_G1 t_s304 (by decide)
        have G3_s304 : G3 s304 := G3.fl i_G3 t_s304 (by decide)
        have S1_s304 : S1 s304 := S1.fl i_S1 t_s304 (by decide)
        have S2_s304 : S2 s304 := S2.fl i_S2 t_s304 (by decide)
        have VCj_s304 : VCj s304 := VCj.fl i_VCj hG t_s304 (by decide)
        have VCl_s304 : VCl s304 := VCl.fl i_VCl hG t_s304 (by decide)
        show xe (some (N, xs)) 231 740 [(0, .ref 2000), (1, .ref 0), (2, .ref 256), (3, vi x3)] [vi z303] s304 295 10442 _
        refine x_A k231_740 (fun _ => rfl) ?_
        refine x_A k231_741 (fun _ => rfl) ?_
        refine x_A k231_742 (fun _ => rfl) ?_
        refine x_A k231_743 (fun _ => rfl) ?_
        refine x_A k231_744 (fun _ => rfl) ?_
        refine x_iadd k231_745 ?_
        refine x_top (fun z305 e_z305 => ?_)
        refine x_scr k231_746 hN ⟨by omega, by omega⟩ (fun z306 g_z306 e_z306 => ?_)
        unfold in32 at g_z306
        have q_z306 : z306 = z300 := by rw [e_z306, e_z300, show z305 = z299 by omega]
        refine x_A k231_747 (fun _ => rfl) ?_
        refine x_A k231_748 (fun _ => rfl) ?_
        refine x_A k231_749 (fun _ => rfl) ?_
        refine x_iadd k231_750 ?_
        refine x_top (fun z307 e_z307 => ?_)
        refine x_scr k231_751 hN ⟨by omega, by omega⟩ (fun z308 g_z308 e_z308 => ?_)
        unfold in32 at g_z308
        have q_z308 : z308 = z302 := by rw [e_z308, e_z302, show z307 = z301 by omega]
        refine x_callV k231_752 (y := 189) (n := 2) (w0 := 0) (w1 := 2) (as := [vi z306, vi z308]) (rest := []) (by decide +kernel) (q := 256) (nq := 62) (kq := 15) ⟨by decide, rfl⟩ rfl rfl rfl rfl (xe_mono (E_X11_force_256 s304 hG_s304 J_s304 z306 ⟨by omega, by omega⟩ z308 ⟨by omega, by omega⟩ R1_s304) ?_)
        rintro s310 v ⟨hG_s310, t_s310, z309, rfl, g_z309, xp_z309⟩
        have J_s310 : J s310 := J.fl J_s304 t_s310 (by decide)
        have TR_s310 : TR s310 := TR.fl TR_s304 (hG_s304 256 1).2 t_s310 (by decide)
        have X1_s310 : X1 s310 := X1.fl X1_s304 t_s310 (by decide)
        have R1_s310 : R1 s310 := R1.fl R1_s304 t_s310 (by decide)
        have G1_s310 : G1 s310 := G1.fl G1_s304 t_s310 (by decide)
        have G3_s310 : G3 s310 := G3.fl G3_s304 t_s310 (by decide)
        have S1_s310 : S1 s310 := S1.fl S1_s304 t_s310 (by decide)
        have S2_s310 : S2 s310 := S2.fl S2_s304 t_s310 (by decide)
        have VCj_s310 : VCj s310 := VCj.fl VCj_s304 hG_s304 t_s310 (by decide)
        have VCl_s310 : VCl s310 := VCl.fl VCl_s304 hG_s304 t_s310 (by decide)
        show xe (some (N, xs)) 231 755 [(0, .ref 2000), (1, .ref 0), (2, .ref 256), (3, vi x3)] [vi z309] s310 295 10442 _
        refine x_A k231_755 (fun _ => rfl) ?_
        refine x_goto k231_756 (t := 1300) rfl ?_
        refine x_iinc k231_1300 (ls' := [(3, vi (x3 + 7)), (0, .ref 2000), (1, .ref 0), (2, .ref 256)]) rfl (by decide) rfl ?_
        refine x_goto k231_1303 (t := 18) rfl ?_
        refine x_ls (l := [(0, .ref 2000), (1, .ref 0), (2, .ref 256), (3, vi (x3 + 7))]) (show ([0, 1, 2, 3] : List Nat).Nodup from by decide) ⟨rfl, rfl, rfl, rfl, trivial⟩ ?_
        exact ih s310 (x3 + 7) hG_s310 trivial ⟨by omega, by omega⟩ J_s310 TR_s310 X1_s310 R1_s310 G1_s310 G3_s310 S1_s310 S2_s310 VCj_s310 VCl_s310  (by omega)
      · rw [c5]
        refine x_B k231_33 rfl (fun _ => rfl) (fun _ => rfl) (fun _ _ => rfl) ?_
        show xe (some (N, xs)) 231 759 [(0, .ref 2000), (1, .ref 0), (2, .ref 256), (3, vi x3)] [] s 295 10442 _
        refine x_A k231_759 (fun _ => rfl) ?_
        refine x_A k231_760 (fun _ => rfl) ?_
        refine x_A k231_761 (fun _ => rfl) ?_
        refine x_A k231_762 (fun _ => rfl) ?_
        refine x_iadd k231_763 ?_
        refine x_top (fun z311 e_z311 => ?_)
        refine x_scr k231_764 hN ⟨by omega, by omega⟩ (fun z312 g_z312 e_z312 => ?_)
        unfold in32 at g_z312
        refine x_A k231_765 (fun _ => rfl) ?_
        refine x_A k231_766 (fun _ => rfl) ?_
        refine x_A k231_767 (fun _ => rfl) ?_
        refine x_iadd k231_768 ?_
        refine x_top (fun z313 e_z313 => ?_)
        refine x_scr k231_769 hN ⟨by omega, by omega⟩ (fun z314 g_z314 e_z314 => ?_)
        unfold in32 at g_z314
        refine x_A k231_770 (fun _ => rfl) ?_
        refine x_A k231_771 (fun _ => rfl) ?_
        refine x_A k231_772 (fun _ => rfl) ?_
        refine x_iadd k231_773 ?_
        refine x_top (fun z315 e_z315 => ?_)
        refine x_scr k231_774 hN ⟨by omega, by omega⟩ (fun z316 g_z316 e_z316 => ?_)
        unfold in32 at g_z316
        refine x_callV k231_775 (y := 108) (n := 3) (w0 := 0) (w1 := 3) (as := [vi z312, vi z314, vi z316]) (rest := []) (by decide +kernel) (q := 0) (nq := 12) (kq := 3) ⟨by decide, rfl⟩ rfl rfl rfl rfl (xe_mono (C_X10_word_0 s hG z312 ⟨by omega, by omega⟩ z314 ⟨by omega, by omega⟩ z316 ⟨by omega, by omega⟩) ?_)
        rintro s318 v ⟨hG_s318, t_s318, z317, rfl, g_z317⟩
        have J_s318 : J s318 := J.fl i_J t_s318 (by decide)
        have TR_s318 : TR s318 := TR.fl i_TR (hG 256 1).2 t_s318 (by decide)
        have X1_s318 : X1 s318 := X1.fl i_X1 t_s318 (by decide)
        have R1_s318 : R1 s318 := R1.fl i_R1 t_s318 (by decide)
        have G1_s318 : G1 s318 := G1.fl i_G1 t_s318 (by decide)
        have G3_s318 : G3 s318 := G3.fl i_G3 t_s318 (by decide)
        have S1_s318 : S1 s318 := S1.fl i_S1 t_s318 (by decide)
        have S2_s318 : S2 s318 := S2.fl i_S2 t_s318 (by decide)
        have VCj_s318 : VCj s318 := VCj.fl i_VCj hG t_s318 (by decide)
        have VCl_s318 : VCl s318 := VCl.fl i_VCl hG t_s318 (by decide)
        show xe (some (N, xs)) 231 778 [(0, .ref 2000), (1, .ref 0), (2, .ref 256), (3, vi x3)] [vi z317] s318 295 10442 _
        refine x_A k231_778 (fun _ => rfl) ?_
        refine x_A k231_779 (fun _ => rfl) ?_
        refine x_A k231_780 (fun _ => rfl) ?_
        refine x_A k231_781 (fun _ => rfl) ?_
        refine x_A k231_782 (fun _ => rfl) ?_
        refine x_iadd k231_783 ?_
        refine x_top (fun z319 e_z319 => ?_)
        refine x_scr k231_784 hN ⟨by omega, by omega⟩ (fun z320 g_z320 e_z320 => ?_)
        unfold in32 at g_z320
        have q_z320 : z320 = z312 := by rw [e_z320, e_z312, show z319 = z311 by omega]
        refine x_A k231_785 (fun _ => rfl) ?_
        refine x_A k231_786 (fun _ => rfl) ?_
        refine x_A k231_787 (fun _ => rfl) ?_
        refine x_iadd k231_788 ?_
        refine x_top (fun z321 e_z321 => ?_)
        refine x_scr k231_789 hN ⟨by omega, by omega⟩ (fun z322 g_z322 e_z322 => ?_)
        unfold in32 at g_z322
        have q_z322 : z322 = z314 := by rw [e_z322, e_z314, show z321 = z313 by omega]
        refine x_A k231_790 (fun _ => rfl) ?_
        refine x_A k231_791 (fun _ => rfl) ?_
        refine x_A k231_792 (fun _ => rfl) ?_
        refine x_iadd k231_793 ?_
        refine x_top (fun z323 e_z323 => ?_)
        refine x_scr k231_794 hN ⟨by omega, by omega⟩ (fun z324 g_z324 e_z324 => ?_)
        unfold in32 at g_z324
        have q_z324 : z324 = z316 := by rw [e_z324, e_z316, show z323 = z315 by omega]
        refine x_callV k231_795 (y := 192) (n := 3) (w0 := 0) (w1 := 3) (as := [vi z320, vi z322, vi z324]) (rest := []) (by decide +kernel) (q := 256) (nq := 62) (kq := 15) ⟨by decide, rfl⟩ rfl rfl rfl rfl (xe_mono (C_X11_word_256 s318 hG_s318 z320 ⟨by omega, by omega⟩ z322 ⟨by omega, by omega⟩ z324 ⟨by omega, by omega⟩) ?_)
        rintro s326 v ⟨hG_s326, t_s326, z325, rfl, g_z325⟩
        have J_s326 : J s326 := J.fl J_s318 t_s326 (by decide)
        have TR_s326 : TR s326 := TR.fl TR_s318 (hG_s318 256 1).2 t_s326 (by decide)
        have X1_s326 : X1 s326 := X1.fl X1_s318 t_s326 (by decide)
        have R1_s326 : R1 s326 := R1.fl R1_s318 t_s326 (by decide)
        have G1_s326 : G1 s326 := G1.fl G1_s318 t_s326 (by decide)
        have G3_s326 : G3 s326 := G3.fl G3_s318 t_s326 (by decide)
        have S1_s326 : S1 s326 := S1.fl S1_s318 t_s326 (by decide)
        have S2_s326 : S2 s326 := S2.fl S2_s318 t_s326 (by decide)
        have VCj_s326 : VCj s326 := VCj.fl VCj_s318 hG_s318 t_s326 (by decide)
        have VCl_s326 : VCl s326 := VCl.fl VCl_s318 hG_s318 t_s326 (by decide)
        show xe (some (N, xs)) 231 798 [(0, .ref 2000), (1, .ref 0), (2, .ref 256), (3, vi x3)] [vi z325] s326 295 10442 _
        refine x_A k231_798 (fun _ => rfl) ?_
        refine x_goto k231_799 (t := 1300) rfl ?_
        refine x_iinc k231_1300 (ls' := [(3, vi (x3 + 7)), (0, .ref 2000), (1, .ref 0), (2, .ref 256)]) rfl (by decide) rfl ?_
        refine x_goto k231_1303 (t := 18) rfl ?_
        refine x_ls (l := [(0, .ref 2000), (1, .ref 0), (2, .ref 256), (3, vi (x3 + 7))]) (show ([0, 1, 2, 3] : List Nat).Nodup from by decide) ⟨rfl, rfl, rfl, rfl, trivial⟩ ?_
        exact ih s326 (x3 + 7) hG_s326 trivial ⟨by omega, by omega⟩ J_s326 TR_s326 X1_s326 R1_s326 G1_s326 G3_s326 S1_s326 S2_s326 VCj_s326 VCl_s326  (by omega)
      · rw [c5]
        refine x_B k231_33 rfl (fun _ => rfl) (fun _ => rfl) (fun _ _ => rfl) ?_
        show xe (some (N, xs)) 231 802 [(0, .ref 2000), (1, .ref 0), (2, .ref 256), (3, vi x3)] [] s 295 10442 _
        refine x_A k231_802 (fun _ => rfl) ?_
        refine x_A k231_803 (fun _ => rfl) ?_
        refine x_A k231_804 (fun _ => rfl) ?_
        refine x_A k231_805 (fun _ => rfl) ?_
        refine x_iadd k231_806 ?_
        refine x_top (fun z327 e_z327 => ?_)
        refine x_scr k231_807 hN ⟨by omega, by omega⟩ (fun z328 g_z328 e_z328 => ?_)
        unfold in32 at g_z328
        refine x_A k231_808 (fun _ => rfl) ?_
        refine x_A k231_809 (fun _ => rfl) ?_
        refine x_A k231_810 (fun _ => rfl) ?_
        refine x_iadd k231_811 ?_
        refine x_top (fun z329 e_z329 => ?_)
        refine x_scr k231_812 hN ⟨by omega, by omega⟩ (fun z330 g_z330 e_z330 => ?_)
        unfold in32 at g_z330
        refine x_callV k231_813 (y := 109) (n := 2) (w0 := 0) (w1 := 2) (as := [vi z328, vi z330]) (rest := []) (by decide +kernel) (q := 0) (nq := 12) (kq := 3) ⟨by decide, rfl⟩ rfl rfl rfl rfl (xe_mono (C_X10_leads_0 s hG z328 ⟨by omega, by omega⟩ z330 ⟨by omega, by omega⟩) ?_)
        rintro s332 v ⟨-, t_s332, z331, rfl, g_z331⟩
        rw [t_s332.nil]
        show xe (some (N, xs)) 231 816 [(0, .ref 2000), (1, .ref 0), (2, .ref 256), (3, vi x3)] [vi z331] s 295 10442 _
        refine x_A k231_816 (fun _ => rfl) ?_
        refine x_A k231_817 (fun _ => rfl) ?_
        refine x_A k231_818 (fun _ => rfl) ?_
        refine x_A k231_819 (fun _ => rfl) ?_
        refine x_A k231_820 (fun _ => rfl) ?_
        refine x_iadd k231_821 ?_
        refine x_top (fun z333 e_z333 => ?_)
        refine x_scr k231_822 hN ⟨by omega, by omega⟩ (fun z334 g_z334 e_z334 => ?_)
        unfold in32 at g_z334
        have q_z334 : z334 = z328 := by rw [e_z334, e_z328, show z333 = z327 by omega]
        refine x_A k231_823 (fun _ => rfl) ?_
        refine x_A k231_824 (fun _ => rfl) ?_
        refine x_A k231_825 (fun _ => rfl) ?_
        refine x_iadd k231_826 ?_
        refine x_top (fun z335 e_z335 => ?_)
        refine x_scr k231_827 hN ⟨by omega, by omega⟩ (fun z336 g_z336 e_z336 => ?_)
        unfold in32 at g_z336
        have q_z336 : z336 = z330 := by rw [e_z336, e_z330, show z335 = z329 by omega]
        refine x_callV k231_828 (y := 193) (n := 2) (w0 := 0) (w1 := 2) (as := [vi z334, vi z336]) (rest := []) (by decide +kernel) (q := 256) (nq := 62) (kq := 15) ⟨by decide, rfl⟩ rfl rfl rfl rfl (xe_mono (C_X11_leads_256 s hG z334 ⟨by omega, by omega⟩ z336 ⟨by omega, by omega⟩) ?_)
        rintro s338 v ⟨-, t_s338, z337, rfl, g_z337⟩
        rw [t_s338.nil]
        show xe (some (N, xs)) 231 831 [(0, .ref 2000), (1, .ref 0), (2, .ref 256), (3, vi x3)] [vi z337] s 295 10442 _
        refine x_A k231_831 (fun _ => rfl) ?_
        refine x_goto k231_832 (t := 1300) rfl ?_
        refine x_iinc k231_1300 (ls' := [(3, vi (x3 + 7)), (0, .ref 2000), (1, .ref 0), (2, .ref 256)]) rfl (by decide) rfl ?_
        refine x_goto k231_1303 (t := 18) rfl ?_
        refine x_ls (l := [(0, .ref 2000), (1, .ref 0), (2, .ref 256), (3, vi (x3 + 7))]) (show ([0, 1, 2, 3] : List Nat).Nodup from by decide) ⟨rfl, rfl, rfl, rfl, trivial⟩ ?_
        exact ih s (x3 + 7) hG f ⟨by omega, by omega⟩ i_J i_TR i_X1 i_R1 i_G1 i_G3 i_S1 i_S2 i_VCj i_VCl  (by omega)
      · rw [c5]
        refine x_B k231_33 rfl (fun _ => rfl) (fun _ => rfl) (fun _ _ => rfl) ?_
        show xe (some (N, xs)) 231 835 [(0, .ref 2000), (1, .ref 0), (2, .ref 256), (3, vi x3)] [] s 295 10442 _
        refine x_A k231_835 (fun _ => rfl) ?_
        refine x_callV k231_836 (y := 110) (n := 0) (w0 := 0) (w1 := 0) (as := []) (rest := []) (by decide +kernel) (q := 0) (nq := 12) (kq := 3) ⟨by decide, rfl⟩ rfl rfl rfl rfl (xe_mono (E_X10_ask_0 s hG) ?_)
        rintro s340 v ⟨hG_s340, t_s340, z339, rfl, g_z339, xp_z339⟩
        have J_s340 : J s340 := J.fl i_J t_s340 (by decide)
        have TR_s340 : TR s340 := TR.fl i_TR (hG 256 1).2 t_s340 (by decide)
        have R1_s340 : R1 s340 := R1.fl i_R1 t_s340 (by decide)
        have G1_s340 : G1 s340 := G1.fl i_G1 t_s340 (by decide)
        have G3_s340 : G3 s340 := G3.fl i_G3 t_s340 (by decide)
        have S1_s340 : S1 s340 := S1.fl i_S1 t_s340 (by decide)
        have S2_s340 : S2 s340 := S2.fl i_S2 t_s340 (by decide)
        have VCj_s340 : VCj s340 := VCj.fl i_VCj hG t_s340 (by decide)
        have VCl_s340 : VCl s340 := VCl.fl i_VCl hG t_s340 (by decide)
        obtain ⟨z341, e_z341⟩ : ∃ z, z = s340 177 1 := ⟨_, rfl⟩
        have g_z341 : (0 : Int) ≤ s340 177 1 ∧ s340 177 1 ≤ 160 := hG_s340 177 1
        obtain ⟨z342, e_z342⟩ : ∃ z, z = s340 177 5 := ⟨_, rfl⟩
        have g_z342 : (0 : Int) ≤ s340 177 5 ∧ s340 177 5 ≤ 5 := hG_s340 177 5
        obtain ⟨z343, e_z343⟩ : ∃ z, z = s340 177 6 := ⟨_, rfl⟩
        have g_z343 : (-2147483648) ≤ s340 177 6 ∧ s340 177 6 ≤ 2147483647 := hG_s340 177 6
        obtain ⟨z344, e_z344⟩ : ∃ z, z = s340 0 11 := ⟨_, rfl⟩
        have g_z344 : (-2147483648) ≤ s340 0 11 ∧ s340 0 11 ≤ 2147483647 := hG_s340 0 11
        obtain ⟨z345, e_z345⟩ : ∃ z, z = s340 218 6 := ⟨_, rfl⟩
        have g_z345 : (0 : Int) ≤ s340 218 6 ∧ s340 218 6 ≤ 8 := hG_s340 218 6
        show xe (some (N, xs)) 231 839 [(0, .ref 2000), (1, .ref 0), (2, .ref 256), (3, vi x3)] [vi z339] s340 295 10442 _
        refine x_A k231_839 (fun _ => rfl) ?_
        refine x_A k231_840 (fun _ => rfl) ?_
        obtain ⟨z346, e_z346⟩ : ∃ z, z = s340 256 47 := ⟨_, rfl⟩
        have g_z346 : (0 : Int) ≤ s340 256 47 ∧ s340 256 47 ≤ 110 := hG_s340 256 47
        obtain ⟨z347, e_z347⟩ : ∃ z, z = s340 256 48 := ⟨_, rfl⟩
        have g_z347 : (0 : Int) ≤ s340 256 48 ∧ s340 256 48 ≤ 120 := hG_s340 256 48
        obtain ⟨z348, e_z348⟩ : ∃ z, z = s340 256 36 := ⟨_, rfl⟩
        have g_z348 : (0 : Int) ≤ s340 256 36 ∧ s340 256 36 ≤ 160 := hG_s340 256 36
        obtain ⟨z349, e_z349⟩ : ∃ z, z = s340 256 34 := ⟨_, rfl⟩
        have g_z349 : (0 : Int) ≤ s340 256 34 ∧ s340 256 34 ≤ 160 := hG_s340 256 34
        obtain ⟨z350, e_z350⟩ : ∃ z, z = s340 256 43 := ⟨_, rfl⟩
        have g_z350 : (0 : Int) ≤ s340 256 43 ∧ s340 256 43 ≤ 8 := hG_s340 256 43
        obtain ⟨z351, e_z351⟩ : ∃ z, z = s340 256 50 := ⟨_, rfl⟩
        have g_z351 : (0 : Int) ≤ s340 256 50 ∧ s340 256 50 ≤ 5 := hG_s340 256 50
        obtain ⟨z352, e_z352⟩ : ∃ z, z = s340 256 51 := ⟨_, rfl⟩
        have g_z352 : (0 : Int) ≤ s340 256 51 ∧ s340 256 51 ≤ 1 := hG_s340 256 51
        refine x_callV k231_841 (y := 200) (n := 0) (w0 := 0) (w1 := 0) (as := []) (rest := []) (by decide +kernel) (q := 256) (nq := 62) (kq := 15) ⟨by decide, rfl⟩ rfl rfl rfl rfl (xe_mono (E_X11_ask_256 s340 hG_s340 ⟨by omega, by omega⟩ ⟨by omega, by omega⟩ ⟨by omega, by omega⟩ ⟨by omega, by omega⟩ ⟨by omega, by omega⟩ ⟨by omega, by omega⟩ ⟨by omega, by omega⟩ J_s340) ?_)
        rintro s354 v ⟨hG_s354, t_s354, z353, rfl, g_z353, xp_z353, J_s354⟩
        have q355 : s354 177 1 = z341 := (t_s354 177 1 (show 1218 ∉ [4133, 4136, 4132, 4134, 4135, 6080, 6144, 4144, 4145, 4148, 4147, 6208, 4131, 6016, 4140] from by decide)).trans e_z341.symm
        have q356 : s354 177 5 = z342 := (t_s354 177 5 (show 1222 ∉ [4133, 4136, 4132, 4134, 4135, 6080, 6144, 4144, 4145, 4148, 4147, 6208, 4131, 6016, 4140] from by decide)).trans e_z342.symm
        have q357 : s354 177 6 = z343 := (t_s354 177 6 (show 1223 ∉ [4133, 4136, 4132, 4134, 4135, 6080, 6144, 4144, 4145, 4148, 4147, 6208, 4131, 6016, 4140] from by decide)).trans e_z343.symm
        have q358 : s354 0 11 = z344 := (t_s354 0 11 (show 12 ∉ [4133, 4136, 4132, 4134, 4135, 6080, 6144, 4144, 4145, 4148, 4147, 6208, 4131, 6016, 4140] from by decide)).trans e_z344.symm
        have q359 : s354 218 6 = z345 := (t_s354 218 6 (show 2503 ∉ [4133, 4136, 4132, 4134, 4135, 6080, 6144, 4144, 4145, 4148, 4147, 6208, 4131, 6016, 4140] from by decide)).trans e_z345.symm
        have TR_s354 : TR s354 := TR.fl TR_s340 (hG_s340 256 1).2 t_s354 (by decide)
        have R1_s354 : R1 s354 := R1.fl R1_s340 t_s354 (by decide)
        have G1_s354 : G1 s354 := G1.fl G1_s340 t_s354 (by decide)
        have G3_s354 : G3 s354 := G3.fl G3_s340 t_s354 (by decide)
        have S1_s354 : S1 s354 := S1.fl S1_s340 t_s354 (by decide)
        have S2_s354 : S2 s354 := S2.fl S2_s340 t_s354 (by decide)
        have VCj_s354 : VCj s354 := VCj.fl VCj_s340 hG_s340 t_s354 (by decide)
        have VCl_s354 : VCl s354 := VCl.fl VCl_s340 hG_s340 t_s354 (by decide)
        obtain ⟨z360, e_z360⟩ : ∃ z, z = s354 256 35 := ⟨_, rfl⟩
        have g_z360 : (-2147483648) ≤ s354 256 35 ∧ s354 256 35 ≤ 2147483647 := hG_s354 256 35
        obtain ⟨z361, e_z361⟩ : ∃ z, z = s354 256 34 := ⟨_, rfl⟩
        have g_z361 : (0 : Int) ≤ s354 256 34 ∧ s354 256 34 ≤ 160 := hG_s354 256 34
        obtain ⟨z362, e_z362⟩ : ∃ z, z = s354 256 43 := ⟨_, rfl⟩
        have g_z362 : (0 : Int) ≤ s354 256 43 ∧ s354 256 43 ≤ 8 := hG_s354 256 43
        show xe (some (N, xs)) 231 844 [(0, .ref 2000), (1, .ref 0), (2, .ref 256), (3, vi x3)] [vi z353] s354 295 10442 _
        obtain ⟨ez_s354, X1_s354⟩ := X1.ask i_X1 hG t_s340 t_s354 (by decide) (by decide) xp_z339 xp_z353
        refine x_A k231_844 (fun _ => rfl) ?_
        refine x_goto k231_845 (t := 1300) rfl ?_
        refine x_iinc k231_1300 (ls' := [(3, vi (x3 + 7)), (0, .ref 2000), (1, .ref 0), (2, .ref 256)]) rfl (by decide) rfl ?_
        refine x_goto k231_1303 (t := 18) rfl ?_
        refine x_ls (l := [(0, .ref 2000), (1, .ref 0), (2, .ref 256), (3, vi (x3 + 7))]) (show ([0, 1, 2, 3] : List Nat).Nodup from by decide) ⟨rfl, rfl, rfl, rfl, trivial⟩ ?_
        exact ih s354 (x3 + 7) hG_s354 trivial ⟨by omega, by omega⟩ J_s354 TR_s354 X1_s354 R1_s354 G1_s354 G3_s354 S1_s354 S2_s354 VCj_s354 VCl_s354  (by omega)
      · rw [c5]
        refine x_B k231_33 rfl (fun _ => rfl) (fun _ => rfl) (fun _ _ => rfl) ?_
        show xe (some (N, xs)) 231 848 [(0, .ref 2000), (1, .ref 0), (2, .ref 256), (3, vi x3)] [] s 295 10442 _
        refine x_A k231_848 (fun _ => rfl) ?_
        refine x_A k231_849 (fun _ => rfl) ?_
        refine x_A k231_850 (fun _ => rfl) ?_
        refine x_A k231_851 (fun _ => rfl) ?_
        refine x_iadd k231_852 ?_
        refine x_top (fun z363 e_z363 => ?_)
        refine x_scr k231_853 hN ⟨by omega, by omega⟩ (fun z364 g_z364 e_z364 => ?_)
        unfold in32 at g_z364
        refine x_A k231_854 (fun _ => rfl) ?_
        refine x_A k231_855 (fun _ => rfl) ?_
        refine x_A k231_856 (fun _ => rfl) ?_
        refine x_iadd k231_857 ?_
        refine x_top (fun z365 e_z365 => ?_)
        refine x_scr k231_858 hN ⟨by omega, by omega⟩ (fun z366 g_z366 e_z366 => ?_)
        unfold in32 at g_z366
        refine x_A k231_859 (fun _ => rfl) ?_
        refine x_A k231_860 (fun _ => rfl) ?_
        refine x_A k231_861 (fun _ => rfl) ?_
        refine x_iadd k231_862 ?_
        refine x_top (fun z367 e_z367 => ?_)
        refine x_scr k231_863 hN ⟨by omega, by omega⟩ (fun z368 g_z368 e_z368 => ?_)
        unfold in32 at g_z368
        refine x_callV k231_864 (y := 111) (n := 3) (w0 := 0) (w1 := 3) (as := [vi z364, vi z366, vi z368]) (rest := []) (by decide +kernel) (q := 0) (nq := 12) (kq := 3) ⟨by decide, rfl⟩ rfl rfl rfl rfl (xe_mono (V_X10_met_0 s hG i_J z364 ⟨by omega, by omega⟩ z366 ⟨by omega, by omega⟩ z368 ⟨by omega, by omega⟩ i_R1 i_VCj i_VCl) ?_)
        rintro s370 v ⟨hG_s370, t_s370, z369, rfl, g_z369, VCj_s370, VCl_s370⟩
        have J_s370 : J s370 := J.fl i_J t_s370 (by decide)
        have TR_s370 : TR s370 := TR.fl i_TR (hG 256 1).2 t_s370 (by decide)
        have X1_s370 : X1 s370 := X1.fl i_X1 t_s370 (by decide)
        have R1_s370 : R1 s370 := R1.fl i_R1 t_s370 (by decide)
        have G1_s370 : G1 s370 := G1.fl i_G1 t_s370 (by decide)
        have G3_s370 : G3 s370 := G3.fl i_G3 t_s370 (by decide)
        have S1_s370 : S1 s370 := S1.fl i_S1 t_s370 (by decide)
        have S2_s370 : S2 s370 := S2.fl i_S2 t_s370 (by decide)
        show xe (some (N, xs)) 231 867 [(0, .ref 2000), (1, .ref 0), (2, .ref 256), (3, vi x3)] [vi z369] s370 295 10442 _
        refine x_A k231_867 (fun _ => rfl) ?_
        refine x_A k231_868 (fun _ => rfl) ?_
        refine x_A k231_869 (fun _ => rfl) ?_
        refine x_A k231_870 (fun _ => rfl) ?_
        refine x_A k231_871 (fun _ => rfl) ?_
        refine x_iadd k231_872 ?_
        refine x_top (fun z371 e_z371 => ?_)
        refine x_scr k231_873 hN ⟨by omega, by omega⟩ (fun z372 g_z372 e_z372 => ?_)
        unfold in32 at g_z372
        have q_z372 : z372 = z364 := by rw [e_z372, e_z364, show z371 = z363 by omega]
        refine x_A k231_874 (fun _ => rfl) ?_
        refine x_A k231_875 (fun _ => rfl) ?_
        refine x_A k231_876 (fun _ => rfl) ?_
        refine x_iadd k231_877 ?_
        refine x_top (fun z373 e_z373 => ?_)
        refine x_scr k231_878 hN ⟨by omega, by omega⟩ (fun z374 g_z374 e_z374 => ?_)
        unfold in32 at g_z374
        have q_z374 : z374 = z366 := by rw [e_z374, e_z366, show z373 = z365 by omega]
        refine x_A k231_879 (fun _ => rfl) ?_
        refine x_A k231_880 (fun _ => rfl) ?_
        refine x_A k231_881 (fun _ => rfl) ?_
        refine x_iadd k231_882 ?_
        refine x_top (fun z375 e_z375 => ?_)
        refine x_scr k231_883 hN ⟨by omega, by omega⟩ (fun z376 g_z376 e_z376 => ?_)
        unfold in32 at g_z376
        have q_z376 : z376 = z368 := by rw [e_z376, e_z368, show z375 = z367 by omega]
        refine x_callV k231_884 (y := 204) (n := 3) (w0 := 0) (w1 := 3) (as := [vi z372, vi z374, vi z376]) (rest := []) (by decide +kernel) (q := 256) (nq := 62) (kq := 15) ⟨by decide, rfl⟩ rfl rfl rfl rfl (xe_mono (C_X11_met_256 s370 hG_s370 J_s370 z372 ⟨by omega, by omega⟩ z374 ⟨by omega, by omega⟩ z376 ⟨by omega, by omega⟩) ?_)
        rintro s378 v ⟨hG_s378, t_s378, z377, rfl, g_z377⟩
        have J_s378 : J s378 := J.fl J_s370 t_s378 (by decide)
        have TR_s378 : TR s378 := TR.fl TR_s370 (hG_s370 256 1).2 t_s378 (by decide)
        have X1_s378 : X1 s378 := X1.fl X1_s370 t_s378 (by decide)
        have R1_s378 : R1 s378 := R1.fl R1_s370 t_s378 (by decide)
        have G1_s378 : G1 s378 := G1.fl G1_s370 t_s378 (by decide)
        have G3_s378 : G3 s378 := G3.fl G3_s370 t_s378 (by decide)
        have S1_s378 : S1 s378 := S1.fl S1_s370 t_s378 (by decide)
        have S2_s378 : S2 s378 := S2.fl S2_s370 t_s378 (by decide)
        have VCj_s378 : VCj s378 := VCj.fl VCj_s370 hG_s370 t_s378 (by decide)
        have VCl_s378 : VCl s378 := VCl.fl VCl_s370 hG_s370 t_s378 (by decide)
        show xe (some (N, xs)) 231 887 [(0, .ref 2000), (1, .ref 0), (2, .ref 256), (3, vi x3)] [vi z377] s378 295 10442 _
        refine x_A k231_887 (fun _ => rfl) ?_
        refine x_goto k231_888 (t := 1300) rfl ?_
        refine x_iinc k231_1300 (ls' := [(3, vi (x3 + 7)), (0, .ref 2000), (1, .ref 0), (2, .ref 256)]) rfl (by decide) rfl ?_
        refine x_goto k231_1303 (t := 18) rfl ?_
        refine x_ls (l := [(0, .ref 2000), (1, .ref 0), (2, .ref 256), (3, vi (x3 + 7))]) (show ([0, 1, 2, 3] : List Nat).Nodup from by decide) ⟨rfl, rfl, rfl, rfl, trivial⟩ ?_
        exact ih s378 (x3 + 7) hG_s378 trivial ⟨by omega, by omega⟩ J_s378 TR_s378 X1_s378 R1_s378 G1_s378 G3_s378 S1_s378 S2_s378 VCj_s378 VCl_s378  (by omega)
      · rw [c5]
        refine x_B k231_33 rfl (fun _ => rfl) (fun _ => rfl) (fun _ _ => rfl) ?_
        show xe (some (N, xs)) 231 891 [(0, .ref 2000), (1, .ref 0), (2, .ref 256), (3, vi x3)] [] s 295 10442 _
        refine x_A k231_891 (fun _ => rfl) ?_
        refine x_A k231_892 (fun _ => rfl) ?_
        refine x_A k231_893 (fun _ => rfl) ?_
        refine x_A k231_894 (fun _ => rfl) ?_
        refine x_iadd k231_895 ?_
        refine x_top (fun z379 e_z379 => ?_)
        refine x_scr k231_896 hN ⟨by omega, by omega⟩ (fun z380 g_z380 e_z380 => ?_)
        unfold in32 at g_z380
        refine x_A k231_897 (fun _ => rfl) ?_
        refine x_A k231_898 (fun _ => rfl) ?_
        refine x_A k231_899 (fun _ => rfl) ?_
        refine x_iadd k231_900 ?_
        refine x_top (fun z381 e_z381 => ?_)
        refine x_scr k231_901 hN ⟨by omega, by omega⟩ (fun z382 g_z382 e_z382 => ?_)
        unfold in32 at g_z382
        refine x_A k231_902 (fun _ => rfl) ?_
        refine x_A k231_903 (fun _ => rfl) ?_
        refine x_A k231_904 (fun _ => rfl) ?_
        refine x_iadd k231_905 ?_
        refine x_top (fun z383 e_z383 => ?_)
        refine x_scr k231_906 hN ⟨by omega, by omega⟩ (fun z384 g_z384 e_z384 => ?_)
        unfold in32 at g_z384
        refine x_A k231_907 (fun _ => rfl) ?_
        refine x_A k231_908 (fun _ => rfl) ?_
        refine x_A k231_909 (fun _ => rfl) ?_
        refine x_iadd k231_910 ?_
        refine x_top (fun z385 e_z385 => ?_)
        refine x_scr k231_911 hN ⟨by omega, by omega⟩ (fun z386 g_z386 e_z386 => ?_)
        unfold in32 at g_z386
        refine x_A k231_912 (fun _ => rfl) ?_
        refine x_A k231_913 (fun _ => rfl) ?_
        refine x_A k231_914 (fun _ => rfl) ?_
        refine x_iadd k231_915 ?_
        refine x_top (fun z387 e_z387 => ?_)
        refine x_scr k231_916 hN ⟨by omega, by omega⟩ (fun z388 g_z388 e_z388 => ?_)
        unfold in32 at g_z388
        refine x_callV k231_917 (y := 112) (n := 5) (w0 := 0) (w1 := 5) (as := [vi z380, vi z382, vi z384, vi z386, vi z388]) (rest := []) (by decide +kernel) (q := 0) (nq := 12) (kq := 3) ⟨by decide, rfl⟩ rfl rfl rfl rfl (xe_mono (V_X10_hands_0 s hG i_J z380 ⟨by omega, by omega⟩ z382 ⟨by omega, by omega⟩ z384 ⟨by omega, by omega⟩ z386 ⟨by omega, by omega⟩ z388 ⟨by omega, by omega⟩ i_R1 i_VCj i_VCl) ?_)
        rintro s390 v ⟨hG_s390, t_s390, z389, rfl, g_z389, VCj_s390, VCl_s390⟩
        have J_s390 : J s390 := J.fl i_J t_s390 (by decide)
        have TR_s390 : TR s390 := TR.fl i_TR (hG 256 1).2 t_s390 (by decide)
        have X1_s390 : X1 s390 := X1.fl i_X1 t_s390 (by decide)
        have R1_s390 : R1 s390 := R1.fl i_R1 t_s390 (by decide)
        have G1_s390 : G1 s390 := G1.fl i_G1 t_s390 (by decide)
        have G3_s390 : G3 s390 := G3.fl i_G3 t_s390 (by decide)
        have S1_s390 : S1 s390 := S1.fl i_S1 t_s390 (by decide)
        have S2_s390 : S2 s390 := S2.fl i_S2 t_s390 (by decide)
        show xe (some (N, xs)) 231 920 [(0, .ref 2000), (1, .ref 0), (2, .ref 256), (3, vi x3)] [vi z389] s390 295 10442 _
        refine x_A k231_920 (fun _ => rfl) ?_
        refine x_A k231_921 (fun _ => rfl) ?_
        refine x_A k231_922 (fun _ => rfl) ?_
        refine x_A k231_923 (fun _ => rfl) ?_
        refine x_A k231_924 (fun _ => rfl) ?_
        refine x_iadd k231_925 ?_
        refine x_top (fun z391 e_z391 => ?_)
        refine x_scr k231_926 hN ⟨by omega, by omega⟩ (fun z392 g_z392 e_z392 => ?_)
        unfold in32 at g_z392
        have q_z392 : z392 = z380 := by rw [e_z392, e_z380, show z391 = z379 by omega]
        refine x_A k231_927 (fun _ => rfl) ?_
        refine x_A k231_928 (fun _ => rfl) ?_
        refine x_A k231_929 (fun _ => rfl) ?_
        refine x_iadd k231_930 ?_
        refine x_top (fun z393 e_z393 => ?_)
        refine x_scr k231_931 hN ⟨by omega, by omega⟩ (fun z394 g_z394 e_z394 => ?_)
        unfold in32 at g_z394
        have q_z394 : z394 = z382 := by rw [e_z394, e_z382, show z393 = z381 by omega]
        refine x_A k231_932 (fun _ => rfl) ?_
        refine x_A k231_933 (fun _ => rfl) ?_
        refine x_A k231_934 (fun _ => rfl) ?_
        refine x_iadd k231_935 ?_
        refine x_top (fun z395 e_z395 => ?_)
        refine x_scr k231_936 hN ⟨by omega, by omega⟩ (fun z396 g_z396 e_z396 => ?_)
        unfold in32 at g_z396
        have q_z396 : z396 = z384 := by rw [e_z396, e_z384, show z395 = z383 by omega]
        refine x_A k231_937 (fun _ => rfl) ?_
        refine x_A k231_938 (fun _ => rfl) ?_
        refine x_A k231_939 (fun _ => rfl) ?_
        refine x_iadd k231_940 ?_
        refine x_top (fun z397 e_z397 => ?_)
        refine x_scr k231_941 hN ⟨by omega, by omega⟩ (fun z398 g_z398 e_z398 => ?_)
        unfold in32 at g_z398
        have q_z398 : z398 = z386 := by rw [e_z398, e_z386, show z397 = z385 by omega]
        refine x_A k231_942 (fun _ => rfl) ?_
        refine x_A k231_943 (fun _ => rfl) ?_
        refine x_A k231_944 (fun _ => rfl) ?_
        refine x_iadd k231_945 ?_
        refine x_top (fun z399 e_z399 => ?_)
        refine x_scr k231_946 hN ⟨by omega, by omega⟩ (fun z400 g_z400 e_z400 => ?_)
        unfold in32 at g_z400
        have q_z400 : z400 = z388 := by rw [e_z400, e_z388, show z399 = z387 by omega]
        refine x_callV k231_947 (y := 206) (n := 5) (w0 := 0) (w1 := 5) (as := [vi z392, vi z394, vi z396, vi z398, vi z400]) (rest := []) (by decide +kernel) (q := 256) (nq := 62) (kq := 15) ⟨by decide, rfl⟩ rfl rfl rfl rfl (xe_mono (C_X11_hands_256 s390 hG_s390 J_s390 z392 ⟨by omega, by omega⟩ z394 ⟨by omega, by omega⟩ z396 ⟨by omega, by omega⟩ z398 ⟨by omega, by omega⟩ z400 ⟨by omega, by omega⟩) ?_)
        rintro s402 v ⟨hG_s402, t_s402, z401, rfl, g_z401⟩
        have J_s402 : J s402 := J.fl J_s390 t_s402 (by decide)
        have TR_s402 : TR s402 := TR.fl TR_s390 (hG_s390 256 1).2 t_s402 (by decide)
        have X1_s402 : X1 s402 := X1.fl X1_s390 t_s402 (by decide)
        have R1_s402 : R1 s402 := R1.fl R1_s390 t_s402 (by decide)
        have G1_s402 : G1 s402 := G1.fl G1_s390 t_s402 (by decide)
        have G3_s402 : G3 s402 := G3.fl G3_s390 t_s402 (by decide)
        have S1_s402 : S1 s402 := S1.fl S1_s390 t_s402 (by decide)
        have S2_s402 : S2 s402 := S2.fl S2_s390 t_s402 (by decide)
        have VCj_s402 : VCj s402 := VCj.fl VCj_s390 hG_s390 t_s402 (by decide)
        have VCl_s402 : VCl s402 := VCl.fl VCl_s390 hG_s390 t_s402 (by decide)
        show xe (some (N, xs)) 231 950 [(0, .ref 2000), (1, .ref 0), (2, .ref 256), (3, vi x3)] [vi z401] s402 295 10442 _
        refine x_A k231_950 (fun _ => rfl) ?_
        refine x_goto k231_951 (t := 1300) rfl ?_
        refine x_iinc k231_1300 (ls' := [(3, vi (x3 + 7)), (0, .ref 2000), (1, .ref 0), (2, .ref 256)]) rfl (by decide) rfl ?_
        refine x_goto k231_1303 (t := 18) rfl ?_
        refine x_ls (l := [(0, .ref 2000), (1, .ref 0), (2, .ref 256), (3, vi (x3 + 7))]) (show ([0, 1, 2, 3] : List Nat).Nodup from by decide) ⟨rfl, rfl, rfl, rfl, trivial⟩ ?_
        exact ih s402 (x3 + 7) hG_s402 trivial ⟨by omega, by omega⟩ J_s402 TR_s402 X1_s402 R1_s402 G1_s402 G3_s402 S1_s402 S2_s402 VCj_s402 VCl_s402  (by omega)
      · rw [c5]
        refine x_B k231_33 rfl (fun _ => rfl) (fun _ => rfl) (fun _ _ => rfl) ?_
        show xe (some (N, xs)) 231 954 [(0, .ref 2000), (1, .ref 0), (2, .ref 256), (3, vi x3)] [] s 295 10442 _
        refine x_A k231_954 (fun _ => rfl) ?_
        refine x_A k231_955 (fun _ => rfl) ?_
        refine x_A k231_956 (fun _ => rfl) ?_
        refine x_A k231_957 (fun _ => rfl) ?_
        refine x_iadd k231_958 ?_
        refine x_top (fun z403 e_z403 => ?_)
        refine x_scr k231_959 hN ⟨by omega, by omega⟩ (fun z404 g_z404 e_z404 => ?_)
        unfold in32 at g_z404
        refine x_A k231_960 (fun _ => rfl) ?_
        refine x_A k231_961 (fun _ => rfl) ?_
        refine x_A k231_962 (fun _ => rfl) ?_
        refine x_iadd k231_963 ?_
        refine x_top (fun z405 e_z405 => ?_)
        refine x_scr k231_964 hN ⟨by omega, by omega⟩ (fun z406 g_z406 e_z406 => ?_)
        unfold in32 at g_z406
        refine x_A k231_965 (fun _ => rfl) ?_
        refine x_A k231_966 (fun _ => rfl) ?_
        refine x_A k231_967 (fun _ => rfl) ?_
        refine x_iadd k231_968 ?_
        refine x_top (fun z407 e_z407 => ?_)
        refine x_scr k231_969 hN ⟨by omega, by omega⟩ (fun z408 g_z408 e_z408 => ?_)
        unfold in32 at g_z408
        refine x_A k231_970 (fun _ => rfl) ?_
        refine x_A k231_971 (fun _ => rfl) ?_
        refine x_A k231_972 (fun _ => rfl) ?_
        refine x_iadd k231_973 ?_
        refine x_top (fun z409 e_z409 => ?_)
        refine x_scr k231_974 hN ⟨by omega, by omega⟩ (fun z410 g_z410 e_z410 => ?_)
        unfold in32 at g_z410
        refine x_A k231_975 (fun _ => rfl) ?_
        refine x_A k231_976 (fun _ => rfl) ?_
        refine x_A k231_977 (fun _ => rfl) ?_
        refine x_iadd k231_978 ?_
        refine x_top (fun z411 e_z411 => ?_)
        refine x_scr k231_979 hN ⟨by omega, by omega⟩ (fun z412 g_z412 e_z412 => ?_)
        unfold in32 at g_z412
        refine x_A k231_980 (fun _ => rfl) ?_
        refine x_A k231_981 (fun _ => rfl) ?_
        refine x_bipush k231_982 (by decide +kernel) ?_
        refine x_iadd k231_984 ?_
        refine x_top (fun z413 e_z413 => ?_)
        refine x_scr k231_985 hN ⟨by omega, by omega⟩ (fun z414 g_z414 e_z414 => ?_)
        unfold in32 at g_z414
        refine x_callV k231_986 (y := 113) (n := 6) (w0 := 0) (w1 := 6) (as := [vi z404, vi z406, vi z408, vi z410, vi z412, vi z414]) (rest := []) (by decide +kernel) (q := 0) (nq := 12) (kq := 3) ⟨by decide, rfl⟩ rfl rfl rfl rfl (xe_mono (V_X10_together_0 s hG i_J z404 ⟨by omega, by omega⟩ z406 ⟨by omega, by omega⟩ z408 ⟨by omega, by omega⟩ z410 ⟨by omega, by omega⟩ z412 ⟨by omega, by omega⟩ z414 ⟨by omega, by omega⟩ i_R1 i_VCj i_VCl) ?_)
        rintro s416 v ⟨hG_s416, t_s416, z415, rfl, g_z415, VCj_s416, VCl_s416⟩
        have J_s416 : J s416 := J.fl i_J t_s416 (by decide)
        have TR_s416 : TR s416 := TR.fl i_TR (hG 256 1).2 t_s416 (by decide)
        have X1_s416 : X1 s416 := X1.fl i_X1 t_s416 (by decide)
        have R1_s416 : R1 s416 := R1.fl i_R1 t_s416 (by decide)
        have G1_s416 : G1 s416 := G1.fl i_G1 t_s416 (by decide)
        have G3_s416 : G3 s416 := G3.fl i_G3 t_s416 (by decide)
        have S1_s416 : S1 s416 := S1.fl i_S1 t_s416 (by decide)
        have S2_s416 : S2 s416 := S2.fl i_S2 t_s416 (by decide)
        show xe (some (N, xs)) 231 989 [(0, .ref 2000), (1, .ref 0), (2, .ref 256), (3, vi x3)] [vi z415] s416 295 10442 _
        refine x_A k231_989 (fun _ => rfl) ?_
        refine x_A k231_990 (fun _ => rfl) ?_
        refine x_A k231_991 (fun _ => rfl) ?_
        refine x_A k231_992 (fun _ => rfl) ?_
        refine x_A k231_993 (fun _ => rfl) ?_
        refine x_iadd k231_994 ?_
        refine x_top (fun z417 e_z417 => ?_)
        refine x_scr k231_995 hN ⟨by omega, by omega⟩ (fun z418 g_z418 e_z418 => ?_)
        unfold in32 at g_z418
        have q_z418 : z418 = z404 := by rw [e_z418, e_z404, show z417 = z403 by omega]
        refine x_A k231_996 (fun _ => rfl) ?_
        refine x_A k231_997 (fun _ => rfl) ?_
        refine x_A k231_998 (fun _ => rfl) ?_
        refine x_iadd k231_999 ?_
        refine x_top (fun z419 e_z419 => ?_)
        refine x_scr k231_1000 hN ⟨by omega, by omega⟩ (fun z420 g_z420 e_z420 => ?_)
        unfold in32 at g_z420
        have q_z420 : z420 = z406 := by rw [e_z420, e_z406, show z419 = z405 by omega]
        refine x_A k231_1001 (fun _ => rfl) ?_
        refine x_A k231_1002 (fun _ => rfl) ?_
        refine x_A k231_1003 (fun _ => rfl) ?_
        refine x_iadd k231_1004 ?_
        refine x_top (fun z421 e_z421 => ?_)
        refine x_scr k231_1005 hN ⟨by omega, by omega⟩ (fun z422 g_z422 e_z422 => ?_)
        unfold in32 at g_z422
        have q_z422 : z422 = z408 := by rw [e_z422, e_z408, show z421 = z407 by omega]
        refine x_A k231_1006 (fun _ => rfl) ?_
        refine x_A k231_1007 (fun _ => rfl) ?_
        refine x_A k231_1008 (fun _ => rfl) ?_
        refine x_iadd k231_1009 ?_
        refine x_top (fun z423 e_z423 => ?_)
        refine x_scr k231_1010 hN ⟨by omega, by omega⟩ (fun z424 g_z424 e_z424 => ?_)
        unfold in32 at g_z424
        have q_z424 : z424 = z410 := by rw [e_z424, e_z410, show z423 = z409 by omega]
        refine x_A k231_1011 (fun _ => rfl) ?_
        refine x_A k231_1012 (fun _ => rfl) ?_
        refine x_A k231_1013 (fun _ => rfl) ?_
        refine x_iadd k231_1014 ?_
        refine x_top (fun z425 e_z425 => ?_)
        refine x_scr k231_1015 hN ⟨by omega, by omega⟩ (fun z426 g_z426 e_z426 => ?_)
        unfold in32 at g_z426
        have q_z426 : z426 = z412 := by rw [e_z426, e_z412, show z425 = z411 by omega]
        refine x_A k231_1016 (fun _ => rfl) ?_
        refine x_A k231_1017 (fun _ => rfl) ?_
        refine x_bipush k231_1018 (by decide +kernel) ?_
        refine x_iadd k231_1020 ?_
        refine x_top (fun z427 e_z427 => ?_)
        refine x_scr k231_1021 hN ⟨by omega, by omega⟩ (fun z428 g_z428 e_z428 => ?_)
        unfold in32 at g_z428
        have q_z428 : z428 = z414 := by rw [e_z428, e_z414, show z427 = z413 by omega]
        refine x_callV k231_1022 (y := 208) (n := 6) (w0 := 0) (w1 := 6) (as := [vi z418, vi z420, vi z422, vi z424, vi z426, vi z428]) (rest := []) (by decide +kernel) (q := 256) (nq := 62) (kq := 15) ⟨by decide, rfl⟩ rfl rfl rfl rfl (xe_mono (C_X11_together_256 s416 hG_s416 J_s416 z418 ⟨by omega, by omega⟩ z420 ⟨by omega, by omega⟩ z422 ⟨by omega, by omega⟩ z424 ⟨by omega, by omega⟩ z426 ⟨by omega, by omega⟩ z428 ⟨by omega, by omega⟩) ?_)
        rintro s430 v ⟨hG_s430, t_s430, z429, rfl, g_z429⟩
        have J_s430 : J s430 := J.fl J_s416 t_s430 (by decide)
        have TR_s430 : TR s430 := TR.fl TR_s416 (hG_s416 256 1).2 t_s430 (by decide)
        have X1_s430 : X1 s430 := X1.fl X1_s416 t_s430 (by decide)
        have R1_s430 : R1 s430 := R1.fl R1_s416 t_s430 (by decide)
        have G1_s430 : G1 s430 := G1.fl G1_s416 t_s430 (by decide)
        have G3_s430 : G3 s430 := G3.fl G3_s416 t_s430 (by decide)
        have S1_s430 : S1 s430 := S1.fl S1_s416 t_s430 (by decide)
        have S2_s430 : S2 s430 := S2.fl S2_s416 t_s430 (by decide)
        have VCj_s430 : VCj s430 := VCj.fl VCj_s416 hG_s416 t_s430 (by decide)
        have VCl_s430 : VCl s430 := VCl.fl VCl_s416 hG_s416 t_s430 (by decide)
        show xe (some (N, xs)) 231 1025 [(0, .ref 2000), (1, .ref 0), (2, .ref 256), (3, vi x3)] [vi z429] s430 295 10442 _
        refine x_A k231_1025 (fun _ => rfl) ?_
        refine x_goto k231_1026 (t := 1300) rfl ?_
        refine x_iinc k231_1300 (ls' := [(3, vi (x3 + 7)), (0, .ref 2000), (1, .ref 0), (2, .ref 256)]) rfl (by decide) rfl ?_
        refine x_goto k231_1303 (t := 18) rfl ?_
        refine x_ls (l := [(0, .ref 2000), (1, .ref 0), (2, .ref 256), (3, vi (x3 + 7))]) (show ([0, 1, 2, 3] : List Nat).Nodup from by decide) ⟨rfl, rfl, rfl, rfl, trivial⟩ ?_
        exact ih s430 (x3 + 7) hG_s430 trivial ⟨by omega, by omega⟩ J_s430 TR_s430 X1_s430 R1_s430 G1_s430 G3_s430 S1_s430 S2_s430 VCj_s430 VCl_s430  (by omega)
      · rw [c5]
        refine x_B k231_33 rfl (fun _ => rfl) (fun _ => rfl) (fun _ _ => rfl) ?_
        show xe (some (N, xs)) 231 1029 [(0, .ref 2000), (1, .ref 0), (2, .ref 256), (3, vi x3)] [] s 295 10442 _
        refine x_A k231_1029 (fun _ => rfl) ?_
        refine x_A k231_1030 (fun _ => rfl) ?_
        refine x_A k231_1031 (fun _ => rfl) ?_
        refine x_A k231_1032 (fun _ => rfl) ?_
        refine x_iadd k231_1033 ?_
        refine x_top (fun z431 e_z431 => ?_)
        refine x_scr k231_1034 hN ⟨by omega, by omega⟩ (fun z432 g_z432 e_z432 => ?_)
        unfold in32 at g_z432
        refine x_A k231_1035 (fun _ => rfl) ?_
        refine x_A k231_1036 (fun _ => rfl) ?_
        refine x_A k231_1037 (fun _ => rfl) ?_
        refine x_iadd k231_1038 ?_
        refine x_top (fun z433 e_z433 => ?_)
        refine x_scr k231_1039 hN ⟨by omega, by omega⟩ (fun z434 g_z434 e_z434 => ?_)
        unfold in32 at g_z434
        refine x_A k231_1040 (fun _ => rfl) ?_
        refine x_A k231_1041 (fun _ => rfl) ?_
        refine x_A k231_1042 (fun _ => rfl) ?_
        refine x_iadd k231_1043 ?_
        refine x_top (fun z435 e_z435 => ?_)
        refine x_scr k231_1044 hN ⟨by omega, by omega⟩ (fun z436 g_z436 e_z436 => ?_)
        unfold in32 at g_z436
        refine x_callV k231_1045 (y := 114) (n := 3) (w0 := 0) (w1 := 3) (as := [vi z432, vi z434, vi z436]) (rest := []) (by decide +kernel) (q := 0) (nq := 12) (kq := 3) ⟨by decide, rfl⟩ rfl rfl rfl rfl (xe_mono (V_X10_along_0 s hG i_J z432 ⟨by omega, by omega⟩ z434 ⟨by omega, by omega⟩ z436 ⟨by omega, by omega⟩ i_R1 i_VCj i_VCl) ?_)
        rintro s438 v ⟨hG_s438, t_s438, z437, rfl, g_z437, VCj_s438, VCl_s438⟩
        have J_s438 : J s438 := J.fl i_J t_s438 (by decide)
        have TR_s438 : TR s438 := TR.fl i_TR (hG 256 1).2 t_s438 (by decide)
        have X1_s438 : X1 s438 := X1.fl i_X1 t_s438 (by decide)
        have R1_s438 : R1 s438 := R1.fl i_R1 t_s438 (by decide)
        have G1_s438 : G1 s438 := G1.fl i_G1 t_s438 (by decide)
        have G3_s438 : G3 s438 := G3.fl i_G3 t_s438 (by decide)
        have S1_s438 : S1 s438 := S1.fl i_S1 t_s438 (by decide)
        have S2_s438 : S2 s438 := S2.fl i_S2 t_s438 (by decide)
        show xe (some (N, xs)) 231 1048 [(0, .ref 2000), (1, .ref 0), (2, .ref 256), (3, vi x3)] [vi z437] s438 295 10442 _
        refine x_A k231_1048 (fun _ => rfl) ?_
        refine x_A k231_1049 (fun _ => rfl) ?_
        refine x_A k231_1050 (fun _ => rfl) ?_
        refine x_A k231_1051 (fun _ => rfl) ?_
        refine x_A k231_1052 (fun _ => rfl) ?_
        refine x_iadd k231_1053 ?_
        refine x_top (fun z439 e_z439 => ?_)
        refine x_scr k231_1054 hN ⟨by omega, by omega⟩ (fun z440 g_z440 e_z440 => ?_)
        unfold in32 at g_z440
        have q_z440 : z440 = z432 := by rw [e_z440, e_z432, show z439 = z431 by omega]
        refine x_A k231_1055 (fun _ => rfl) ?_
        refine x_A k231_1056 (fun _ => rfl) ?_
        refine x_A k231_1057 (fun _ => rfl) ?_
        refine x_iadd k231_1058 ?_
        refine x_top (fun z441 e_z441 => ?_)
        refine x_scr k231_1059 hN ⟨by omega, by omega⟩ (fun z442 g_z442 e_z442 => ?_)
        unfold in32 at g_z442
        have q_z442 : z442 = z434 := by rw [e_z442, e_z434, show z441 = z433 by omega]
        refine x_A k231_1060 (fun _ => rfl) ?_
        refine x_A k231_1061 (fun _ => rfl) ?_
        refine x_A k231_1062 (fun _ => rfl) ?_
        refine x_iadd k231_1063 ?_
        refine x_top (fun z443 e_z443 => ?_)
        refine x_scr k231_1064 hN ⟨by omega, by omega⟩ (fun z444 g_z444 e_z444 => ?_)
        unfold in32 at g_z444
        have q_z444 : z444 = z436 := by rw [e_z444, e_z436, show z443 = z435 by omega]
        refine x_callV k231_1065 (y := 211) (n := 3) (w0 := 0) (w1 := 3) (as := [vi z440, vi z442, vi z444]) (rest := []) (by decide +kernel) (q := 256) (nq := 62) (kq := 15) ⟨by decide, rfl⟩ rfl rfl rfl rfl (xe_mono (C_X11_along_256 s438 hG_s438 J_s438 z440 ⟨by omega, by omega⟩ z442 ⟨by omega, by omega⟩ z444 ⟨by omega, by omega⟩) ?_)
        rintro s446 v ⟨hG_s446, t_s446, z445, rfl, g_z445⟩
        have J_s446 : J s446 := J.fl J_s438 t_s446 (by decide)
        have TR_s446 : TR s446 := TR.fl TR_s438 (hG_s438 256 1).2 t_s446 (by decide)
        have X1_s446 : X1 s446 := X1.fl X1_s438 t_s446 (by decide)
        have R1_s446 : R1 s446 := R1.fl R1_s438 t_s446 (by decide)
        have G1_s446 : G1 s446 := G1.fl G1_s438 t_s446 (by decide)
        have G3_s446 : G3 s446 := G3.fl G3_s438 t_s446 (by decide)
        have S1_s446 : S1 s446 := S1.fl S1_s438 t_s446 (by decide)
        have S2_s446 : S2 s446 := S2.fl S2_s438 t_s446 (by decide)
        have VCj_s446 : VCj s446 := VCj.fl VCj_s438 hG_s438 t_s446 (by decide)
        have VCl_s446 : VCl s446 := VCl.fl VCl_s438 hG_s438 t_s446 (by decide)
        show xe (some (N, xs)) 231 1068 [(0, .ref 2000), (1, .ref 0), (2, .ref 256), (3, vi x3)] [vi z445] s446 295 10442 _
        refine x_A k231_1068 (fun _ => rfl) ?_
        refine x_goto k231_1069 (t := 1300) rfl ?_
        refine x_iinc k231_1300 (ls' := [(3, vi (x3 + 7)), (0, .ref 2000), (1, .ref 0), (2, .ref 256)]) rfl (by decide) rfl ?_
        refine x_goto k231_1303 (t := 18) rfl ?_
        refine x_ls (l := [(0, .ref 2000), (1, .ref 0), (2, .ref 256), (3, vi (x3 + 7))]) (show ([0, 1, 2, 3] : List Nat).Nodup from by decide) ⟨rfl, rfl, rfl, rfl, trivial⟩ ?_
        exact ih s446 (x3 + 7) hG_s446 trivial ⟨by omega, by omega⟩ J_s446 TR_s446 X1_s446 R1_s446 G1_s446 G3_s446 S1_s446 S2_s446 VCj_s446 VCl_s446  (by omega)
      · rw [c5]
        refine x_B k231_33 rfl (fun _ => rfl) (fun _ => rfl) (fun _ _ => rfl) ?_
        show xe (some (N, xs)) 231 1072 [(0, .ref 2000), (1, .ref 0), (2, .ref 256), (3, vi x3)] [] s 295 10442 _
        refine x_A k231_1072 (fun _ => rfl) ?_
        refine x_A k231_1073 (fun _ => rfl) ?_
        refine x_A k231_1074 (fun _ => rfl) ?_
        refine x_A k231_1075 (fun _ => rfl) ?_
        refine x_iadd k231_1076 ?_
        refine x_top (fun z447 e_z447 => ?_)
        refine x_scr k231_1077 hN ⟨by omega, by omega⟩ (fun z448 g_z448 e_z448 => ?_)
        unfold in32 at g_z448
        refine x_A k231_1078 (fun _ => rfl) ?_
        refine x_A k231_1079 (fun _ => rfl) ?_
        refine x_A k231_1080 (fun _ => rfl) ?_
        refine x_iadd k231_1081 ?_
        refine x_top (fun z449 e_z449 => ?_)
        refine x_scr k231_1082 hN ⟨by omega, by omega⟩ (fun z450 g_z450 e_z450 => ?_)
        unfold in32 at g_z450
        refine x_A k231_1083 (fun _ => rfl) ?_
        refine x_A k231_1084 (fun _ => rfl) ?_
        refine x_A k231_1085 (fun _ => rfl) ?_
        refine x_iadd k231_1086 ?_
        refine x_top (fun z451 e_z451 => ?_)
        refine x_scr k231_1087 hN ⟨by omega, by omega⟩ (fun z452 g_z452 e_z452 => ?_)
        unfold in32 at g_z452
        refine x_callV k231_1088 (y := 115) (n := 3) (w0 := 0) (w1 := 3) (as := [vi z448, vi z450, vi z452]) (rest := []) (by decide +kernel) (q := 0) (nq := 12) (kq := 3) ⟨by decide, rfl⟩ rfl rfl rfl rfl (xe_mono (V_X10_likely_0 s hG i_J z448 ⟨by omega, by omega⟩ z450 ⟨by omega, by omega⟩ z452 ⟨by omega, by omega⟩ i_R1 i_VCj i_VCl) ?_)
        rintro s454 v ⟨hG_s454, t_s454, z453, rfl, g_z453, VCj_s454, VCl_s454⟩
        have J_s454 : J s454 := J.fl i_J t_s454 (by decide)
        have TR_s454 : TR s454 := TR.fl i_TR (hG 256 1).2 t_s454 (by decide)
        have X1_s454 : X1 s454 := X1.fl i_X1 t_s454 (by decide)
        have R1_s454 : R1 s454 := R1.fl i_R1 t_s454 (by decide)
        have G1_s454 : G1 s454 := G1.fl i_G1 t_s454 (by decide)
        have G3_s454 : G3 s454 := G3.fl i_G3 t_s454 (by decide)
        have S1_s454 : S1 s454 := S1.fl i_S1 t_s454 (by decide)
        have S2_s454 : S2 s454 := S2.fl i_S2 t_s454 (by decide)
        show xe (some (N, xs)) 231 1091 [(0, .ref 2000), (1, .ref 0), (2, .ref 256), (3, vi x3)] [vi z453] s454 295 10442 _
        refine x_A k231_1091 (fun _ => rfl) ?_
        refine x_A k231_1092 (fun _ => rfl) ?_
        refine x_A k231_1093 (fun _ => rfl) ?_
        refine x_A k231_1094 (fun _ => rfl) ?_
        refine x_A k231_1095 (fun _ => rfl) ?_
        refine x_iadd k231_1096 ?_
        refine x_top (fun z455 e_z455 => ?_)
        refine x_scr k231_1097 hN ⟨by omega, by omega⟩ (fun z456 g_z456 e_z456 => ?_)
        unfold in32 at g_z456
        have q_z456 : z456 = z448 := by rw [e_z456, e_z448, show z455 = z447 by omega]
        refine x_A k231_1098 (fun _ => rfl) ?_
        refine x_A k231_1099 (fun _ => rfl) ?_
        refine x_A k231_1100 (fun _ => rfl) ?_
        refine x_iadd k231_1101 ?_
        refine x_top (fun z457 e_z457 => ?_)
        refine x_scr k231_1102 hN ⟨by omega, by omega⟩ (fun z458 g_z458 e_z458 => ?_)
        unfold in32 at g_z458
        have q_z458 : z458 = z450 := by rw [e_z458, e_z450, show z457 = z449 by omega]
        refine x_A k231_1103 (fun _ => rfl) ?_
        refine x_A k231_1104 (fun _ => rfl) ?_
        refine x_A k231_1105 (fun _ => rfl) ?_
        refine x_iadd k231_1106 ?_
        refine x_top (fun z459 e_z459 => ?_)
        refine x_scr k231_1107 hN ⟨by omega, by omega⟩ (fun z460 g_z460 e_z460 => ?_)
        unfold in32 at g_z460
        have q_z460 : z460 = z452 := by rw [e_z460, e_z452, show z459 = z451 by omega]
        refine x_callV k231_1108 (y := 212) (n := 3) (w0 := 0) (w1 := 3) (as := [vi z456, vi z458, vi z460]) (rest := []) (by decide +kernel) (q := 256) (nq := 62) (kq := 15) ⟨by decide, rfl⟩ rfl rfl rfl rfl (xe_mono (C_X11_likely_256 s454 hG_s454 J_s454 z456 ⟨by omega, by omega⟩ z458 ⟨by omega, by omega⟩ z460 ⟨by omega, by omega⟩) ?_)
        rintro s462 v ⟨hG_s462, t_s462, z461, rfl, g_z461⟩
        have J_s462 : J s462 := J.fl J_s454 t_s462 (by decide)
        have TR_s462 : TR s462 := TR.fl TR_s454 (hG_s454 256 1).2 t_s462 (by decide)
        have X1_s462 : X1 s462 := X1.fl X1_s454 t_s462 (by decide)
        have R1_s462 : R1 s462 := R1.fl R1_s454 t_s462 (by decide)
        have G1_s462 : G1 s462 := G1.fl G1_s454 t_s462 (by decide)
        have G3_s462 : G3 s462 := G3.fl G3_s454 t_s462 (by decide)
        have S1_s462 : S1 s462 := S1.fl S1_s454 t_s462 (by decide)
        have S2_s462 : S2 s462 := S2.fl S2_s454 t_s462 (by decide)
        have VCj_s462 : VCj s462 := VCj.fl VCj_s454 hG_s454 t_s462 (by decide)
        have VCl_s462 : VCl s462 := VCl.fl VCl_s454 hG_s454 t_s462 (by decide)
        show xe (some (N, xs)) 231 1111 [(0, .ref 2000), (1, .ref 0), (2, .ref 256), (3, vi x3)] [vi z461] s462 295 10442 _
        refine x_A k231_1111 (fun _ => rfl) ?_
        refine x_goto k231_1112 (t := 1300) rfl ?_
        refine x_iinc k231_1300 (ls' := [(3, vi (x3 + 7)), (0, .ref 2000), (1, .ref 0), (2, .ref 256)]) rfl (by decide) rfl ?_
        refine x_goto k231_1303 (t := 18) rfl ?_
        refine x_ls (l := [(0, .ref 2000), (1, .ref 0), (2, .ref 256), (3, vi (x3 + 7))]) (show ([0, 1, 2, 3] : List Nat).Nodup from by decide) ⟨rfl, rfl, rfl, rfl, trivial⟩ ?_
        exact ih s462 (x3 + 7) hG_s462 trivial ⟨by omega, by omega⟩ J_s462 TR_s462 X1_s462 R1_s462 G1_s462 G3_s462 S1_s462 S2_s462 VCj_s462 VCl_s462  (by omega)
      · rw [c5]
        refine x_B k231_33 rfl (fun _ => rfl) (fun _ => rfl) (fun _ _ => rfl) ?_
        show xe (some (N, xs)) 231 1115 [(0, .ref 2000), (1, .ref 0), (2, .ref 256), (3, vi x3)] [] s 295 10442 _
        refine x_A k231_1115 (fun _ => rfl) ?_
        refine x_A k231_1116 (fun _ => rfl) ?_
        refine x_A k231_1117 (fun _ => rfl) ?_
        refine x_A k231_1118 (fun _ => rfl) ?_
        refine x_iadd k231_1119 ?_
        refine x_top (fun z463 e_z463 => ?_)
        refine x_scr k231_1120 hN ⟨by omega, by omega⟩ (fun z464 g_z464 e_z464 => ?_)
        unfold in32 at g_z464
        refine x_A k231_1121 (fun _ => rfl) ?_
        refine x_A k231_1122 (fun _ => rfl) ?_
        refine x_A k231_1123 (fun _ => rfl) ?_
        refine x_iadd k231_1124 ?_
        refine x_top (fun z465 e_z465 => ?_)
        refine x_scr k231_1125 hN ⟨by omega, by omega⟩ (fun z466 g_z466 e_z466 => ?_)
        unfold in32 at g_z466
        refine x_callV k231_1126 (y := 116) (n := 2) (w0 := 0) (w1 := 2) (as := [vi z464, vi z466]) (rest := []) (by decide +kernel) (q := 0) (nq := 12) (kq := 3) ⟨by decide, rfl⟩ rfl rfl rfl rfl (xe_mono (V_X10_lacking_0 s hG i_J z464 ⟨by omega, by omega⟩ z466 ⟨by omega, by omega⟩ i_R1 i_VCj i_VCl) ?_)
        rintro s468 v ⟨hG_s468, t_s468, z467, rfl, b_z467, VCj_s468, VCl_s468⟩
        have J_s468 : J s468 := J.fl i_J t_s468 (by decide)
        have TR_s468 : TR s468 := TR.fl i_TR (hG 256 1).2 t_s468 (by decide)
        have X1_s468 : X1 s468 := X1.fl i_X1 t_s468 (by decide)
        have R1_s468 : R1 s468 := R1.fl i_R1 t_s468 (by decide)
        have G1_s468 : G1 s468 := G1.fl i_G1 t_s468 (by decide)
        have G3_s468 : G3 s468 := G3.fl i_G3 t_s468 (by decide)
        have S1_s468 : S1 s468 := S1.fl i_S1 t_s468 (by decide)
        have S2_s468 : S2 s468 := S2.fl i_S2 t_s468 (by decide)
        show xe (some (N, xs)) 231 1129 [(0, .ref 2000), (1, .ref 0), (2, .ref 256), (3, vi x3)] [vj z467] s468 295 10442 _
        refine x_A k231_1129 (fun _ => rfl) ?_
        refine x_A k231_1130 (fun _ => rfl) ?_
        refine x_A k231_1131 (fun _ => rfl) ?_
        refine x_A k231_1132 (fun _ => rfl) ?_
        refine x_A k231_1133 (fun _ => rfl) ?_
        refine x_iadd k231_1134 ?_
        refine x_top (fun z469 e_z469 => ?_)
        refine x_scr k231_1135 hN ⟨by omega, by omega⟩ (fun z470 g_z470 e_z470 => ?_)
        unfold in32 at g_z470
        have q_z470 : z470 = z464 := by rw [e_z470, e_z464, show z469 = z463 by omega]
        refine x_A k231_1136 (fun _ => rfl) ?_
        refine x_A k231_1137 (fun _ => rfl) ?_
        refine x_A k231_1138 (fun _ => rfl) ?_
        refine x_iadd k231_1139 ?_
        refine x_top (fun z471 e_z471 => ?_)
        refine x_scr k231_1140 hN ⟨by omega, by omega⟩ (fun z472 g_z472 e_z472 => ?_)
        unfold in32 at g_z472
        have q_z472 : z472 = z466 := by rw [e_z472, e_z466, show z471 = z465 by omega]
        refine x_callV k231_1141 (y := 214) (n := 2) (w0 := 0) (w1 := 2) (as := [vi z470, vi z472]) (rest := []) (by decide +kernel) (q := 256) (nq := 62) (kq := 15) ⟨by decide, rfl⟩ rfl rfl rfl rfl (xe_mono (C_X11_lacking_256 s468 hG_s468 J_s468 z470 ⟨by omega, by omega⟩ z472 ⟨by omega, by omega⟩) ?_)
        rintro s474 v ⟨hG_s474, t_s474, z473, rfl, b_z473⟩
        have J_s474 : J s474 := J.fl J_s468 t_s474 (by decide)
        have TR_s474 : TR s474 := TR.fl TR_s468 (hG_s468 256 1).2 t_s474 (by decide)
        have X1_s474 : X1 s474 := X1.fl X1_s468 t_s474 (by decide)
        have R1_s474 : R1 s474 := R1.fl R1_s468 t_s474 (by decide)
        have G1_s474 : G1 s474 := G1.fl G1_s468 t_s474 (by decide)
        have G3_s474 : G3 s474 := G3.fl G3_s468 t_s474 (by decide)
        have S1_s474 : S1 s474 := S1.fl S1_s468 t_s474 (by decide)
        have S2_s474 : S2 s474 := S2.fl S2_s468 t_s474 (by decide)
        have VCj_s474 : VCj s474 := VCj.fl VCj_s468 hG_s468 t_s474 (by decide)
        have VCl_s474 : VCl s474 := VCl.fl VCl_s468 hG_s468 t_s474 (by decide)
        show xe (some (N, xs)) 231 1144 [(0, .ref 2000), (1, .ref 0), (2, .ref 256), (3, vi x3)] [vj z473] s474 295 10442 _
        refine x_A k231_1144 (fun _ => rfl) ?_
        refine x_goto k231_1145 (t := 1300) rfl ?_
        refine x_iinc k231_1300 (ls' := [(3, vi (x3 + 7)), (0, .ref 2000), (1, .ref 0), (2, .ref 256)]) rfl (by decide) rfl ?_
        refine x_goto k231_1303 (t := 18) rfl ?_
        refine x_ls (l := [(0, .ref 2000), (1, .ref 0), (2, .ref 256), (3, vi (x3 + 7))]) (show ([0, 1, 2, 3] : List Nat).Nodup from by decide) ⟨rfl, rfl, rfl, rfl, trivial⟩ ?_
        exact ih s474 (x3 + 7) hG_s474 trivial ⟨by omega, by omega⟩ J_s474 TR_s474 X1_s474 R1_s474 G1_s474 G3_s474 S1_s474 S2_s474 VCj_s474 VCl_s474  (by omega)
      · rw [c5]
        refine x_B k231_33 rfl (fun _ => rfl) (fun _ => rfl) (fun _ _ => rfl) ?_
        show xe (some (N, xs)) 231 1148 [(0, .ref 2000), (1, .ref 0), (2, .ref 256), (3, vi x3)] [] s 295 10442 _
        refine x_A k231_1148 (fun _ => rfl) ?_
        refine x_callV k231_1149 (y := 117) (n := 0) (w0 := 0) (w1 := 0) (as := []) (rest := []) (by decide +kernel) (q := 0) (nq := 12) (kq := 3) ⟨by decide, rfl⟩ rfl rfl rfl rfl (xe_mono (E_X10_story_0 s hG) ?_)
        rintro s476 v ⟨hG_s476, t_s476, z475, rfl, g_z475, xp_z475⟩
        have J_s476 : J s476 := J.fl i_J t_s476 (by decide)
        have TR_s476 : TR s476 := TR.fl i_TR (hG 256 1).2 t_s476 (by decide)
        have X1_s476 : X1 s476 := X1.fl i_X1 t_s476 (by decide)
        have R1_s476 : R1 s476 := R1.fl i_R1 t_s476 (by decide)
        have G1_s476 : G1 s476 := G1.fl i_G1 t_s476 (by decide)
        have G3_s476 : G3 s476 := G3.fl i_G3 t_s476 (by decide)
        have S2_s476 : S2 s476 := S2.fl i_S2 t_s476 (by decide)
        have VCj_s476 : VCj s476 := VCj.fl i_VCj hG t_s476 (by decide)
        have VCl_s476 : VCl s476 := VCl.fl i_VCl hG t_s476 (by decide)
        obtain ⟨z477, e_z477⟩ : ∃ z, z = s476 231 3 := ⟨_, rfl⟩
        have g_z477 : (0 : Int) ≤ s476 231 3 ∧ s476 231 3 ≤ 4 := hG_s476 231 3
        show xe (some (N, xs)) 231 1152 [(0, .ref 2000), (1, .ref 0), (2, .ref 256), (3, vi x3)] [vi z475] s476 295 10442 _
        refine x_A k231_1152 (fun _ => rfl) ?_
        refine x_A k231_1153 (fun _ => rfl) ?_
        refine x_callV k231_1154 (y := 215) (n := 0) (w0 := 0) (w1 := 0) (as := []) (rest := []) (by decide +kernel) (q := 256) (nq := 62) (kq := 15) ⟨by decide, rfl⟩ rfl rfl rfl rfl (xe_mono (E_X11_story_256 s476 hG_s476) ?_)
        rintro s479 v ⟨hG_s479, t_s479, z478, rfl, g_z478, xp_z478⟩
        have q480 : s479 231 3 = z477 := (t_s479 231 3 (show 2884 ∉ [4155, 6400] from by decide)).trans e_z477.symm
        have J_s479 : J s479 := J.fl J_s476 t_s479 (by decide)
        have TR_s479 : TR s479 := TR.fl TR_s476 (hG_s476 256 1).2 t_s479 (by decide)
        have X1_s479 : X1 s479 := X1.fl X1_s476 t_s479 (by decide)
        have R1_s479 : R1 s479 := R1.fl R1_s476 t_s479 (by decide)
        have G1_s479 : G1 s479 := G1.fl G1_s476 t_s479 (by decide)
        have G3_s479 : G3 s479 := G3.fl G3_s476 t_s479 (by decide)
        have S2_s479 : S2 s479 := S2.fl S2_s476 t_s479 (by decide)
        have VCj_s479 : VCj s479 := VCj.fl VCj_s476 hG_s476 t_s479 (by decide)
        have VCl_s479 : VCl s479 := VCl.fl VCl_s476 hG_s476 t_s479 (by decide)
        obtain ⟨z481, e_z481⟩ : ∃ z, z = s479 256 58 := ⟨_, rfl⟩
        have g_z481 : (0 : Int) ≤ s479 256 58 ∧ s479 256 58 ≤ 4 := hG_s479 256 58
        show xe (some (N, xs)) 231 1157 [(0, .ref 2000), (1, .ref 0), (2, .ref 256), (3, vi x3)] [vi z478] s479 295 10442 _
        obtain ⟨ez_s479, S1_s479⟩ := S1.story i_S1 hG t_s476 t_s479 (by decide) (by decide) xp_z475 xp_z478
        refine x_A k231_1157 (fun _ => rfl) ?_
        refine x_goto k231_1158 (t := 1300) rfl ?_
        refine x_iinc k231_1300 (ls' := [(3, vi (x3 + 7)), (0, .ref 2000), (1, .ref 0), (2, .ref 256)]) rfl (by decide) rfl ?_
        refine x_goto k231_1303 (t := 18) rfl ?_
        refine x_ls (l := [(0, .ref 2000), (1, .ref 0), (2, .ref 256), (3, vi (x3 + 7))]) (show ([0, 1, 2, 3] : List Nat).Nodup from by decide) ⟨rfl, rfl, rfl, rfl, trivial⟩ ?_
        exact ih s479 (x3 + 7) hG_s479 trivial ⟨by omega, by omega⟩ J_s479 TR_s479 X1_s479 R1_s479 G1_s479 G3_s479 S1_s479 S2_s479 VCj_s479 VCl_s479  (by omega)
      · rw [c5]
        refine x_B k231_33 rfl (fun _ => rfl) (fun _ => rfl) (fun _ _ => rfl) ?_
        show xe (some (N, xs)) 231 1161 [(0, .ref 2000), (1, .ref 0), (2, .ref 256), (3, vi x3)] [] s 295 10442 _
        refine x_A k231_1161 (fun _ => rfl) ?_
        refine x_A k231_1162 (fun _ => rfl) ?_
        refine x_A k231_1163 (fun _ => rfl) ?_
        refine x_A k231_1164 (fun _ => rfl) ?_
        refine x_iadd k231_1165 ?_
        refine x_top (fun z482 e_z482 => ?_)
        refine x_scr k231_1166 hN ⟨by omega, by omega⟩ (fun z483 g_z483 e_z483 => ?_)
        unfold in32 at g_z483
        refine x_A k231_1167 (fun _ => rfl) ?_
        refine x_A k231_1168 (fun _ => rfl) ?_
        refine x_A k231_1169 (fun _ => rfl) ?_
        refine x_iadd k231_1170 ?_
        refine x_top (fun z484 e_z484 => ?_)
        refine x_scr k231_1171 hN ⟨by omega, by omega⟩ (fun z485 g_z485 e_z485 => ?_)
        unfold in32 at g_z485
        refine x_A k231_1172 (fun _ => rfl) ?_
        refine x_A k231_1173 (fun _ => rfl) ?_
        refine x_A k231_1174 (fun _ => rfl) ?_
        refine x_iadd k231_1175 ?_
        refine x_top (fun z486 e_z486 => ?_)
        refine x_scr k231_1176 hN ⟨by omega, by omega⟩ (fun z487 g_z487 e_z487 => ?_)
        unfold in32 at g_z487
        obtain ⟨z488, e_z488⟩ : ∃ z, z = s 231 3 := ⟨_, rfl⟩
        have g_z488 : (0 : Int) ≤ s 231 3 ∧ s 231 3 ≤ 4 := hG 231 3
        obtain ⟨z489, e_z489⟩ : ∃ z, z = s 1 4 := ⟨_, rfl⟩
        have g_z489 : (1 : Int) ≤ s 1 4 ∧ s 1 4 ≤ 40 := hG 1 4
        refine x_callV k231_1177 (y := 118) (n := 3) (w0 := 0) (w1 := 3) (as := [vi z483, vi z485, vi z487]) (rest := []) (by decide +kernel) (q := 0) (nq := 12) (kq := 3) ⟨by decide, rfl⟩ rfl rfl rfl rfl (xe_mono (W_X10_moment_0 s hG z483 ⟨by omega, by omega⟩ z485 ⟨by omega, by omega⟩ z487 ⟨by omega, by omega⟩ ⟨by omega, by omega⟩ ⟨by omega, by omega⟩) ?_)
        rintro s491 v ⟨hG_s491, t_s491, z490, rfl, g_z490, xp_z490⟩
        have q492 : s491 231 3 = z488 := (t_s491 231 3 (show 2884 ∉ [2944, 3072, 3200] from by decide)).trans e_z488.symm
        have q493 : s491 1 4 = z489 := (t_s491 1 4 (show 69 ∉ [2944, 3072, 3200] from by decide)).trans e_z489.symm
        have J_s491 : J s491 := J.fl i_J t_s491 (by decide)
        have TR_s491 : TR s491 := TR.fl i_TR (hG 256 1).2 t_s491 (by decide)
        have X1_s491 : X1 s491 := X1.fl i_X1 t_s491 (by decide)
        have R1_s491 : R1 s491 := R1.fl i_R1 t_s491 (by decide)
        have G1_s491 : G1 s491 := G1.fl i_G1 t_s491 (by decide)
        have G3_s491 : G3 s491 := G3.fl i_G3 t_s491 (by decide)
        have VCj_s491 : VCj s491 := VCj.fl i_VCj hG t_s491 (by decide)
        have VCl_s491 : VCl s491 := VCl.fl i_VCl hG t_s491 (by decide)
        show xe (some (N, xs)) 231 1180 [(0, .ref 2000), (1, .ref 0), (2, .ref 256), (3, vi x3)] [vi z490] s491 295 10442 _
        refine x_A k231_1180 (fun _ => rfl) ?_
        refine x_A k231_1181 (fun _ => rfl) ?_
        refine x_A k231_1182 (fun _ => rfl) ?_
        refine x_A k231_1183 (fun _ => rfl) ?_
        refine x_A k231_1184 (fun _ => rfl) ?_
        refine x_iadd k231_1185 ?_
        refine x_top (fun z494 e_z494 => ?_)
        refine x_scr k231_1186 hN ⟨by omega, by omega⟩ (fun z495 g_z495 e_z495 => ?_)
        unfold in32 at g_z495
        have q_z495 : z495 = z483 := by rw [e_z495, e_z483, show z494 = z482 by omega]
        refine x_A k231_1187 (fun _ => rfl) ?_
        refine x_A k231_1188 (fun _ => rfl) ?_
        refine x_A k231_1189 (fun _ => rfl) ?_
        refine x_iadd k231_1190 ?_
        refine x_top (fun z496 e_z496 => ?_)
        refine x_scr k231_1191 hN ⟨by omega, by omega⟩ (fun z497 g_z497 e_z497 => ?_)
        unfold in32 at g_z497
        have q_z497 : z497 = z485 := by rw [e_z497, e_z485, show z496 = z484 by omega]
        refine x_A k231_1192 (fun _ => rfl) ?_
        refine x_A k231_1193 (fun _ => rfl) ?_
        refine x_A k231_1194 (fun _ => rfl) ?_
        refine x_iadd k231_1195 ?_
        refine x_top (fun z498 e_z498 => ?_)
        refine x_scr k231_1196 hN ⟨by omega, by omega⟩ (fun z499 g_z499 e_z499 => ?_)
        unfold in32 at g_z499
        have q_z499 : z499 = z487 := by rw [e_z499, e_z487, show z498 = z486 by omega]
        obtain ⟨z500, e_z500⟩ : ∃ z, z = s491 256 58 := ⟨_, rfl⟩
        have g_z500 : (0 : Int) ≤ s491 256 58 ∧ s491 256 58 ≤ 4 := hG_s491 256 58
        obtain ⟨z501, e_z501⟩ : ∃ z, z = s491 256 1 := ⟨_, rfl⟩
        have g_z501 : (1 : Int) ≤ s491 256 1 ∧ s491 256 1 ≤ 40 := hG_s491 256 1
        refine x_callV k231_1197 (y := 216) (n := 3) (w0 := 0) (w1 := 3) (as := [vi z495, vi z497, vi z499]) (rest := []) (by decide +kernel) (q := 256) (nq := 62) (kq := 15) ⟨by decide, rfl⟩ rfl rfl rfl rfl (xe_mono (W_X11_moment_256 s491 hG_s491 z495 ⟨by omega, by omega⟩ z497 ⟨by omega, by omega⟩ z499 ⟨by omega, by omega⟩ ⟨by omega, by omega⟩ ⟨by omega, by omega⟩) ?_)
        rintro s503 v ⟨hG_s503, t_s503, z502, rfl, g_z502, xp_z502⟩
        have q504 : s503 231 3 = z488 := (t_s503 231 3 (show 2884 ∉ [6400, 6464, 6528] from by decide)).trans q492
        have q505 : s503 1 4 = z489 := (t_s503 1 4 (show 69 ∉ [6400, 6464, 6528] from by decide)).trans q493
        have q506 : s503 256 58 = z500 := (t_s503 256 58 (show 4155 ∉ [6400, 6464, 6528] from by decide)).trans e_z500.symm
        have q507 : s503 256 1 = z501 := (t_s503 256 1 (show 4098 ∉ [6400, 6464, 6528] from by decide)).trans e_z501.symm
        have J_s503 : J s503 := J.fl J_s491 t_s503 (by decide)
        have TR_s503 : TR s503 := TR.fl TR_s491 (hG_s491 256 1).2 t_s503 (by decide)
        have X1_s503 : X1 s503 := X1.fl X1_s491 t_s503 (by decide)
        have R1_s503 : R1 s503 := R1.fl R1_s491 t_s503 (by decide)
        have G1_s503 : G1 s503 := G1.fl G1_s491 t_s503 (by decide)
        have G3_s503 : G3 s503 := G3.fl G3_s491 t_s503 (by decide)
        have VCj_s503 : VCj s503 := VCj.fl VCj_s491 hG_s491 t_s503 (by decide)
        have VCl_s503 : VCl s503 := VCl.fl VCl_s491 hG_s491 t_s503 (by decide)
        show xe (some (N, xs)) 231 1200 [(0, .ref 2000), (1, .ref 0), (2, .ref 256), (3, vi x3)] [vi z502] s503 295 10442 _
        obtain ⟨⟨ez_s503, S1_s503⟩, S2_s503⟩ := S2.moment i_S2 i_S1 i_TR.1.2.1 hG t_s491 t_s503 (by decide) (by decide) xp_z490 (by rw [← q_z495, ← q_z497, ← q_z499]; exact xp_z502)
        refine x_A k231_1200 (fun _ => rfl) ?_
        refine x_goto k231_1201 (t := 1300) rfl ?_
        refine x_iinc k231_1300 (ls' := [(3, vi (x3 + 7)), (0, .ref 2000), (1, .ref 0), (2, .ref 256)]) rfl (by decide) rfl ?_
        refine x_goto k231_1303 (t := 18) rfl ?_
        refine x_ls (l := [(0, .ref 2000), (1, .ref 0), (2, .ref 256), (3, vi (x3 + 7))]) (show ([0, 1, 2, 3] : List Nat).Nodup from by decide) ⟨rfl, rfl, rfl, rfl, trivial⟩ ?_
        exact ih s503 (x3 + 7) hG_s503 trivial ⟨by omega, by omega⟩ J_s503 TR_s503 X1_s503 R1_s503 G1_s503 G3_s503 S1_s503 S2_s503 VCj_s503 VCl_s503  (by omega)
      · rw [c5]
        refine x_B k231_33 rfl (fun _ => rfl) (fun _ => rfl) (fun _ _ => rfl) ?_
        show xe (some (N, xs)) 231 1204 [(0, .ref 2000), (1, .ref 0), (2, .ref 256), (3, vi x3)] [] s 295 10442 _
        refine x_A k231_1204 (fun _ => rfl) ?_
        refine x_A k231_1205 (fun _ => rfl) ?_
        refine x_A k231_1206 (fun _ => rfl) ?_
        refine x_A k231_1207 (fun _ => rfl) ?_
        refine x_iadd k231_1208 ?_
        refine x_top (fun z508 e_z508 => ?_)
        refine x_scr k231_1209 hN ⟨by omega, by omega⟩ (fun z509 g_z509 e_z509 => ?_)
        unfold in32 at g_z509
        refine x_A k231_1210 (fun _ => rfl) ?_
        refine x_A k231_1211 (fun _ => rfl) ?_
        refine x_A k231_1212 (fun _ => rfl) ?_
        refine x_iadd k231_1213 ?_
        refine x_top (fun z510 e_z510 => ?_)
        refine x_scr k231_1214 hN ⟨by omega, by omega⟩ (fun z511 g_z511 e_z511 => ?_)
        unfold in32 at g_z511
        refine x_A k231_1215 (fun _ => rfl) ?_
        refine x_A k231_1216 (fun _ => rfl) ?_
        refine x_A k231_1217 (fun _ => rfl) ?_
        refine x_iadd k231_1218 ?_
        refine x_top (fun z512 e_z512 => ?_)
        refine x_scr k231_1219 hN ⟨by omega, by omega⟩ (fun z513 g_z513 e_z513 => ?_)
        unfold in32 at g_z513
        refine x_A k231_1220 (fun _ => rfl) ?_
        refine x_A k231_1221 (fun _ => rfl) ?_
        refine x_A k231_1222 (fun _ => rfl) ?_
        refine x_iadd k231_1223 ?_
        refine x_top (fun z514 e_z514 => ?_)
        refine x_scr k231_1224 hN ⟨by omega, by omega⟩ (fun z515 g_z515 e_z515 => ?_)
        unfold in32 at g_z515
        obtain ⟨z516, e_z516⟩ : ∃ z, z = s 46 3 := ⟨_, rfl⟩
        have g_z516 : (0 : Int) ≤ s 46 3 ∧ s 46 3 ≤ 40 := hG 46 3
        obtain ⟨z517, e_z517⟩ : ∃ z, z = s 231 3 := ⟨_, rfl⟩
        have g_z517 : (0 : Int) ≤ s 231 3 ∧ s 231 3 ≤ 4 := hG 231 3
        obtain ⟨z518, e_z518⟩ : ∃ z, z = s 0 10 := ⟨_, rfl⟩
        have g_z518 : (0 : Int) ≤ s 0 10 ∧ s 0 10 ≤ 9 := hG 0 10
        refine x_callV k231_1225 (y := 119) (n := 4) (w0 := 0) (w1 := 4) (as := [vi z509, vi z511, vi z513, vi z515]) (rest := []) (by decide +kernel) (q := 0) (nq := 12) (kq := 3) ⟨by decide, rfl⟩ rfl rfl rfl rfl (xe_mono (W_X10_of_0 s hG i_J z509 ⟨by omega, by omega⟩ z511 ⟨by omega, by omega⟩ z513 ⟨by omega, by omega⟩ z515 ⟨by omega, by omega⟩ ⟨by omega, by omega⟩ ⟨by omega, by omega⟩ ⟨by omega, by omega⟩ i_R1 i_VCj i_VCl) ?_)
        rintro s520 v ⟨hG_s520, t_s520, z519, rfl, g_z519, xp_z519, VCj_s520, VCl_s520⟩
        have q521 : s520 46 3 = z516 := (t_s520 46 3 (show 452 ∉ [3329, 3334, 3335, 3336, 3392, 3456, 3520, 3584, 3276, 3648, 3712, 3776, 3840, 3904, 3968, 3277, 4032] from by decide)).trans e_z516.symm
        have q522 : s520 231 3 = z517 := (t_s520 231 3 (show 2884 ∉ [3329, 3334, 3335, 3336, 3392, 3456, 3520, 3584, 3276, 3648, 3712, 3776, 3840, 3904, 3968, 3277, 4032] from by decide)).trans e_z517.symm
        have q523 : s520 0 10 = z518 := (t_s520 0 10 (show 11 ∉ [3329, 3334, 3335, 3336, 3392, 3456, 3520, 3584, 3276, 3648, 3712, 3776, 3840, 3904, 3968, 3277, 4032] from by decide)).trans e_z518.symm
        have J_s520 : J s520 := J.fl i_J t_s520 (by decide)
        have TR_s520 : TR s520 := TR.fl i_TR (hG 256 1).2 t_s520 (by decide)
        have X1_s520 : X1 s520 := X1.fl i_X1 t_s520 (by decide)
        have R1_s520 : R1 s520 := R1.fl i_R1 t_s520 (by decide)
        have G1_s520 : G1 s520 := G1.fl i_G1 t_s520 (by decide)
        have G3_s520 : G3 s520 := G3.fl i_G3 t_s520 (by decide)
        have S1_s520 : S1 s520 := S1.fl i_S1 t_s520 (by decide)
        have S2_s520 : S2 s520 := S2.fl i_S2 t_s520 (by decide)
        show xe (some (N, xs)) 231 1228 [(0, .ref 2000), (1, .ref 0), (2, .ref 256), (3, vi x3)] [vi z519] s520 295 10442 _
        refine x_A k231_1228 (fun _ => rfl) ?_
        refine x_A k231_1229 (fun _ => rfl) ?_
        refine x_A k231_1230 (fun _ => rfl) ?_
        refine x_A k231_1231 (fun _ => rfl) ?_
        refine x_iadd k231_1232 ?_
        refine x_top (fun z524 e_z524 => ?_)
        refine x_scr k231_1233 hN ⟨by omega, by omega⟩ (fun z525 g_z525 e_z525 => ?_)
        unfold in32 at g_z525
        have q_z525 : z525 = z509 := by rw [e_z525, e_z509, show z524 = z508 by omega]
        refine x_A k231_1234 (fun _ => rfl) ?_
        refine x_A k231_1235 (fun _ => rfl) ?_
        refine x_A k231_1236 (fun _ => rfl) ?_
        refine x_iadd k231_1237 ?_
        refine x_top (fun z526 e_z526 => ?_)
        refine x_scr k231_1238 hN ⟨by omega, by omega⟩ (fun z527 g_z527 e_z527 => ?_)
        unfold in32 at g_z527
        have q_z527 : z527 = z511 := by rw [e_z527, e_z511, show z526 = z510 by omega]
        refine x_A k231_1239 (fun _ => rfl) ?_
        refine x_A k231_1240 (fun _ => rfl) ?_
        refine x_A k231_1241 (fun _ => rfl) ?_
        refine x_iadd k231_1242 ?_
        refine x_top (fun z528 e_z528 => ?_)
        refine x_scr k231_1243 hN ⟨by omega, by omega⟩ (fun z529 g_z529 e_z529 => ?_)
        unfold in32 at g_z529
        have q_z529 : z529 = z513 := by rw [e_z529, e_z513, show z528 = z512 by omega]
        refine x_A k231_1244 (fun _ => rfl) ?_
        refine x_A k231_1245 (fun _ => rfl) ?_
        refine x_A k231_1246 (fun _ => rfl) ?_
        refine x_iadd k231_1247 ?_
        refine x_top (fun z530 e_z530 => ?_)
        refine x_scr k231_1248 hN ⟨by omega, by omega⟩ (fun z531 g_z531 e_z531 => ?_)
        unfold in32 at g_z531
        have q_z531 : z531 = z515 := by rw [e_z531, e_z515, show z530 = z514 by omega]
        obtain ⟨z532, e_z532⟩ : ∃ z, z = s520 256 6 := ⟨_, rfl⟩
        have g_z532 : (0 : Int) ≤ s520 256 6 ∧ s520 256 6 ≤ 40 := hG_s520 256 6
        obtain ⟨z533, e_z533⟩ : ∃ z, z = s520 256 58 := ⟨_, rfl⟩
        have g_z533 : (0 : Int) ≤ s520 256 58 ∧ s520 256 58 ≤ 4 := hG_s520 256 58
        obtain ⟨z534, e_z534⟩ : ∃ z, z = s520 256 0 := ⟨_, rfl⟩
        have g_z534 : (0 : Int) ≤ s520 256 0 ∧ s520 256 0 ≤ 9 := hG_s520 256 0
        refine x_callV k231_1249 (y := 217) (n := 4) (w0 := 1) (w1 := 4) (as := [vi z525, vi z527, vi z529, vi z531]) (rest := [vi z519]) (by decide +kernel) (q := 256) (nq := 62) (kq := 15) ⟨by decide, rfl⟩ rfl rfl rfl rfl (xe_mono (W_X11_of_256 s520 hG_s520 J_s520 z525 ⟨by omega, by omega⟩ z527 ⟨by omega, by omega⟩ z529 ⟨by omega, by omega⟩ z531 ⟨by omega, by omega⟩ ⟨by omega, by omega⟩ ⟨by omega, by omega⟩ ⟨by omega, by omega⟩ R1_s520 TR_s520 G1_s520 G3_s520 S1_s520 S2_s520) ?_)
        rintro s536 v ⟨hG_s536, t_s536, z535, rfl, g_z535, xp_z535⟩
        have q537 : s536 46 3 = z516 := (t_s536 46 3 (show 452 ∉ [5312, 5376, 4123, 5440, 5504, 5568, 5632, 5696, 5760] from by decide)).trans q521
        have q538 : s536 231 3 = z517 := (t_s536 231 3 (show 2884 ∉ [5312, 5376, 4123, 5440, 5504, 5568, 5632, 5696, 5760] from by decide)).trans q522
        have q539 : s536 0 10 = z518 := (t_s536 0 10 (show 11 ∉ [5312, 5376, 4123, 5440, 5504, 5568, 5632, 5696, 5760] from by decide)).trans q523
        have q540 : s536 256 6 = z532 := (t_s536 256 6 (show 4103 ∉ [5312, 5376, 4123, 5440, 5504, 5568, 5632, 5696, 5760] from by decide)).trans e_z532.symm
        have q541 : s536 256 58 = z533 := (t_s536 256 58 (show 4155 ∉ [5312, 5376, 4123, 5440, 5504, 5568, 5632, 5696, 5760] from by decide)).trans e_z533.symm
        have q542 : s536 256 0 = z534 := (t_s536 256 0 (show 4097 ∉ [5312, 5376, 4123, 5440, 5504, 5568, 5632, 5696, 5760] from by decide)).trans e_z534.symm
        have J_s536 : J s536 := J.fl J_s520 t_s536 (by decide)
        have TR_s536 : TR s536 := TR.fl TR_s520 (hG_s520 256 1).2 t_s536 (by decide)
        have X1_s536 : X1 s536 := X1.fl X1_s520 t_s536 (by decide)
        have R1_s536 : R1 s536 := R1.fl R1_s520 t_s536 (by decide)
        have G1_s536 : G1 s536 := G1.fl G1_s520 t_s536 (by decide)
        have G3_s536 : G3 s536 := G3.fl G3_s520 t_s536 (by decide)
        have S1_s536 : S1 s536 := S1.fl S1_s520 t_s536 (by decide)
        have S2_s536 : S2 s536 := S2.fl S2_s520 t_s536 (by decide)
        have VCj_s536 : VCj s536 := VCj.fl VCj_s520 hG_s520 t_s536 (by decide)
        have VCl_s536 : VCl s536 := VCl.fl VCl_s520 hG_s520 t_s536 (by decide)
        show xe (some (N, xs)) 231 1252 [(0, .ref 2000), (1, .ref 0), (2, .ref 256), (3, vi x3)] [vi z535, vi z519] s536 295 10442 _
        have ez_s536 := OfS.u xp_z519 (OfS.fl (by rw [← q_z525, ← q_z527, ← q_z529, ← q_z531]; exact xp_z535) hG t_s520 (by decide))
        refine x_ic_eq k231_1252 (t := 1300) rfl ⟨by omega, by omega⟩ ⟨by omega, by omega⟩ (fun c543 => ?_) (fun c543 => ?_)
        · skip
          refine x_iinc k231_1300 (ls' := [(3, vi (x3 + 7)), (0, .ref 2000), (1, .ref 0), (2, .ref 256)]) rfl (by decide) rfl ?_
          refine x_goto k231_1303 (t := 18) rfl ?_
          refine x_ls (l := [(0, .ref 2000), (1, .ref 0), (2, .ref 256), (3, vi (x3 + 7))]) (show ([0, 1, 2, 3] : List Nat).Nodup from by decide) ⟨rfl, rfl, rfl, rfl, trivial⟩ ?_
          exact ih s536 (x3 + 7) hG_s536 trivial ⟨by omega, by omega⟩ J_s536 TR_s536 X1_s536 R1_s536 G1_s536 G3_s536 S1_s536 S2_s536 VCj_s536 VCl_s536  (by omega)
        · skip
          refine x_A k231_1255 (fun _ => rfl) ?_
          exfalso; omega
      · rw [c5]
        refine x_B k231_33 rfl (fun _ => rfl) (fun _ => rfl) (fun _ _ => rfl) ?_
        show xe (some (N, xs)) 231 1257 [(0, .ref 2000), (1, .ref 0), (2, .ref 256), (3, vi x3)] [] s 295 10442 _
        refine x_A k231_1257 (fun _ => rfl) ?_
        refine x_A k231_1258 (fun _ => rfl) ?_
        refine x_A k231_1259 (fun _ => rfl) ?_
        refine x_A k231_1260 (fun _ => rfl) ?_
        refine x_iadd k231_1261 ?_
        refine x_top (fun z544 e_z544 => ?_)
        refine x_scr k231_1262 hN ⟨by omega, by omega⟩ (fun z545 g_z545 e_z545 => ?_)
        unfold in32 at g_z545
        refine x_A k231_1263 (fun _ => rfl) ?_
        refine x_A k231_1264 (fun _ => rfl) ?_
        refine x_A k231_1265 (fun _ => rfl) ?_
        refine x_iadd k231_1266 ?_
        refine x_top (fun z546 e_z546 => ?_)
        refine x_scr k231_1267 hN ⟨by omega, by omega⟩ (fun z547 g_z547 e_z547 => ?_)
        unfold in32 at g_z547
        refine x_A k231_1268 (fun _ => rfl) ?_
        refine x_A k231_1269 (fun _ => rfl) ?_
        refine x_A k231_1270 (fun _ => rfl) ?_
        refine x_iadd k231_1271 ?_
        refine x_top (fun z548 e_z548 => ?_)
        refine x_scr k231_1272 hN ⟨by omega, by omega⟩ (fun z549 g_z549 e_z549 => ?_)
        unfold in32 at g_z549
        refine x_callV k231_1273 (y := 120) (n := 3) (w0 := 0) (w1 := 3) (as := [vi z545, vi z547, vi z549]) (rest := []) (by decide +kernel) (q := 0) (nq := 12) (kq := 3) ⟨by decide, rfl⟩ rfl rfl rfl rfl (xe_mono (V_X10_split_0 s hG i_J z545 ⟨by omega, by omega⟩ z547 ⟨by omega, by omega⟩ z549 ⟨by omega, by omega⟩ i_R1 i_VCj i_VCl) ?_)
        rintro s551 v ⟨hG_s551, t_s551, z550, rfl, g_z550, VCj_s551, VCl_s551⟩
        have J_s551 : J s551 := J.fl i_J t_s551 (by decide)
        have TR_s551 : TR s551 := TR.fl i_TR (hG 256 1).2 t_s551 (by decide)
        have X1_s551 : X1 s551 := X1.fl i_X1 t_s551 (by decide)
        have R1_s551 : R1 s551 := R1.fl i_R1 t_s551 (by decide)
        have G1_s551 : G1 s551 := G1.fl i_G1 t_s551 (by decide)
        have G3_s551 : G3 s551 := G3.fl i_G3 t_s551 (by decide)
        have S1_s551 : S1 s551 := S1.fl i_S1 t_s551 (by decide)
        have S2_s551 : S2 s551 := S2.fl i_S2 t_s551 (by decide)
        show xe (some (N, xs)) 231 1276 [(0, .ref 2000), (1, .ref 0), (2, .ref 256), (3, vi x3)] [vi z550] s551 295 10442 _
        refine x_A k231_1276 (fun _ => rfl) ?_
        refine x_A k231_1277 (fun _ => rfl) ?_
        refine x_A k231_1278 (fun _ => rfl) ?_
        refine x_A k231_1279 (fun _ => rfl) ?_
        refine x_A k231_1280 (fun _ => rfl) ?_
        refine x_iadd k231_1281 ?_
        refine x_top (fun z552 e_z552 => ?_)
        refine x_scr k231_1282 hN ⟨by omega, by omega⟩ (fun z553 g_z553 e_z553 => ?_)
        unfold in32 at g_z553
        have q_z553 : z553 = z545 := by rw [e_z553, e_z545, show z552 = z544 by omega]
        refine x_A k231_1283 (fun _ => rfl) ?_
        refine x_A k231_1284 (fun _ => rfl) ?_
        refine x_A k231_1285 (fun _ => rfl) ?_
        refine x_iadd k231_1286 ?_
        refine x_top (fun z554 e_z554 => ?_)
        refine x_scr k231_1287 hN ⟨by omega, by omega⟩ (fun z555 g_z555 e_z555 => ?_)
        unfold in32 at g_z555
        have q_z555 : z555 = z547 := by rw [e_z555, e_z547, show z554 = z546 by omega]
        refine x_A k231_1288 (fun _ => rfl) ?_
        refine x_A k231_1289 (fun _ => rfl) ?_
        refine x_A k231_1290 (fun _ => rfl) ?_
        refine x_iadd k231_1291 ?_
        refine x_top (fun z556 e_z556 => ?_)
        refine x_scr k231_1292 hN ⟨by omega, by omega⟩ (fun z557 g_z557 e_z557 => ?_)
        unfold in32 at g_z557
        have q_z557 : z557 = z549 := by rw [e_z557, e_z549, show z556 = z548 by omega]
        refine x_callV k231_1293 (y := 218) (n := 3) (w0 := 0) (w1 := 3) (as := [vi z553, vi z555, vi z557]) (rest := []) (by decide +kernel) (q := 256) (nq := 62) (kq := 15) ⟨by decide, rfl⟩ rfl rfl rfl rfl (xe_mono (C_X11_split_256 s551 hG_s551 J_s551 z553 ⟨by omega, by omega⟩ z555 ⟨by omega, by omega⟩ z557 ⟨by omega, by omega⟩) ?_)
        rintro s559 v ⟨hG_s559, t_s559, z558, rfl, g_z558⟩
        have J_s559 : J s559 := J.fl J_s551 t_s559 (by decide)
        have TR_s559 : TR s559 := TR.fl TR_s551 (hG_s551 256 1).2 t_s559 (by decide)
        have X1_s559 : X1 s559 := X1.fl X1_s551 t_s559 (by decide)
        have R1_s559 : R1 s559 := R1.fl R1_s551 t_s559 (by decide)
        have G1_s559 : G1 s559 := G1.fl G1_s551 t_s559 (by decide)
        have G3_s559 : G3 s559 := G3.fl G3_s551 t_s559 (by decide)
        have S1_s559 : S1 s559 := S1.fl S1_s551 t_s559 (by decide)
        have S2_s559 : S2 s559 := S2.fl S2_s551 t_s559 (by decide)
        have VCj_s559 : VCj s559 := VCj.fl VCj_s551 hG_s551 t_s559 (by decide)
        have VCl_s559 : VCl s559 := VCl.fl VCl_s551 hG_s551 t_s559 (by decide)
        show xe (some (N, xs)) 231 1296 [(0, .ref 2000), (1, .ref 0), (2, .ref 256), (3, vi x3)] [vi z558] s559 295 10442 _
        refine x_A k231_1296 (fun _ => rfl) ?_
        refine x_goto k231_1297 (t := 1300) rfl ?_
        refine x_iinc k231_1300 (ls' := [(3, vi (x3 + 7)), (0, .ref 2000), (1, .ref 0), (2, .ref 256)]) rfl (by decide) rfl ?_
        refine x_goto k231_1303 (t := 18) rfl ?_
        refine x_ls (l := [(0, .ref 2000), (1, .ref 0), (2, .ref 256), (3, vi (x3 + 7))]) (show ([0, 1, 2, 3] : List Nat).Nodup from by decide) ⟨rfl, rfl, rfl, rfl, trivial⟩ ?_
        exact ih s559 (x3 + 7) hG_s559 trivial ⟨by omega, by omega⟩ J_s559 TR_s559 X1_s559 R1_s559 G1_s559 G3_s559 S1_s559 S2_s559 VCj_s559 VCl_s559  (by omega)
      · refine x_tabD k231_33 ⟨by omega, by omega⟩ c5 (t0 := 1300) rfl ?_
        refine x_iinc k231_1300 (ls' := [(3, vi (x3 + 7)), (0, .ref 2000), (1, .ref 0), (2, .ref 256)]) rfl (by decide) rfl ?_
        refine x_goto k231_1303 (t := 18) rfl ?_
        refine x_ls (l := [(0, .ref 2000), (1, .ref 0), (2, .ref 256), (3, vi (x3 + 7))]) (show ([0, 1, 2, 3] : List Nat).Nodup from by decide) ⟨rfl, rfl, rfl, rfl, trivial⟩ ?_
        exact ih s (x3 + 7) hG f ⟨by omega, by omega⟩ i_J i_TR i_X1 i_R1 i_G1 i_G3 i_S1 i_S2 i_VCj i_VCl  (by omega)
