set_option maxHeartbeats 8000000 in
theorem L_E_X11_findWrong_256_61 (s0 : xS) (hJ0 : J s0) (hG0 : GI s0) (pR : R1 s0) (pT : TR s0) (pG1 : G1 s0) (pG3 : G3 s0) (n_4 : Nat) (ih_4 : ∀ (s : xS) (x1 : Int) (x2 : Int) (x1000 : Int) (hG : GI s) (f : FL [5312, 5376, 4123, 5440, 5504, 5568] s0 s) (b_x1 : (-1) ≤ x1 ∧ x1 ≤ 9) (b_x2 : 0 ≤ x2 ∧ x2 ≤ 120) (b_x1000 : 0 ≤ x1000 ∧ x1000 ≤ 120) (w_0 : x1000 = s0 256 10 ∧ x2 ≤ x1000 ∧ -1 ≤ x1) (w_1 : 0 ≤ x1 → FrZ s s0 x1) (w_2 : WRn s s0 x2) (e_x1000 : x1000 = s 256 10) (hm : (120 - x2) < (n_4 : Int)), xe none 166 4 [(0, .ref 256), (1, vi x1), (2, vi x2)] [] s 0 0 (fun s' v => GI s' ∧ FL [5312, 5376, 4123, 5440, 5504, 5568] s0 s' ∧ v = none ∧ (WRn s' s0 (s0 256 10)))) : ∀ (n : Nat) (s : xS) (x1 : Int) (x2 : Int) (x3 : Int) (x1000 : Int) (hG : GI s) (f : FL [5312, 5376, 4123, 5440, 5504, 5568] s0 s) (b_x1 : 0 ≤ x1 ∧ x1 ≤ 9) (b_x2 : 0 ≤ x2 ∧ x2 ≤ 119) (b_x3 : 0 ≤ x3 ∧ x3 ≤ 6) (b_x1000 : 1 ≤ x1000 ∧ x1000 ≤ 120) (r_2_1000 : x2 ≤ x1000 + 0) (w_0 : x1000 = s0 256 10 ∧ x2 < x1000 ∧ x1 = s0 268 x2.toNat ∧ 0 ≤ x1) (w_1 : FrZ s s0 x1) (w_2 : WRn s s0 x2) (w_3 : s 277 x2.toNat = wrC s0 x2) (w_4 : exN (fun i : Nat => bi (s0 54 x2.toNat) i = true ∧ seC s0 (s0 55 x2.toNat) i = 1) (s 278 x2.toNat) x3) (w_5 : s 279 x2.toNat = ctp (fun i : Nat => bi (s0 54 x2.toNat) i = true ∧ seC s0 (s0 55 x2.toNat) i = 2) x3.toNat) (w_6 : 0 ≤ s 279 x2.toNat ∧ s 279 x2.toNat ≤ x3) (e_x1000 : x1000 = s 256 10) (k_4 : (120 - x2) < (n_4 : Int) + 1) (hm : (6 - x3) < (n : Int)), xe none 166 61 [(0, .ref 256), (1, vi x1), (2, vi x2), (3, vi x3)] [] s 0 0 (fun s' v => GI s' ∧ FL [5312, 5376, 4123, 5440, 5504, 5568] s0 s' ∧ v = none ∧ (WRn s' s0 (s0 256 10))) := by
  intro n
  induction n with
  | zero => intro s x1 x2 x3 x1000 hG f b_x1 b_x2 b_x3 b_x1000 r_2_1000 w_0 w_1 w_2 w_3 w_4 w_5 w_6 e_x1000 k_4 hm; exfalso; omega
  | succ n ih =>
    intro s x1 x2 x3 x1000 hG f b_x1 b_x2 b_x3 b_x1000 r_2_1000 w_0 w_1 w_2 w_3 w_4 w_5 w_6 e_x1000 k_4 hm
    obtain ⟨z3373, e_z3373⟩ : ∃ z, z = s 279 x2.toNat := ⟨_, rfl⟩
    have g_z3373 : (0 : Int) ≤ s 279 x2.toNat ∧ s 279 x2.toNat ≤ 6 := hG 279 x2.toNat
    obtain ⟨z3374, e_z3374⟩ : ∃ z, z = s 278 x2.toNat := ⟨_, rfl⟩
    have g_z3374 : (0 : Int) ≤ s 278 x2.toNat ∧ s 278 x2.toNat ≤ 1 := hG 278 x2.toNat
    refine x_A k166_61 (fun _ => rfl) ?_
    refine x_bipush k166_62 (by decide +kernel) ?_
    refine x_ic_ge k166_64 (t := 158) rfl (by first | exact x_rb b_x3 rfl rfl | exact ⟨by omega, by omega⟩) ⟨by decide, by decide⟩ (fun c3375 => ?_) (fun c3375 => ?_)
    · skip
      refine x_iinc k166_158 (ls' := [(2, vi (x2 + 1)), (0, .ref 256), (1, vi x1), (3, vi x3)]) rfl (by decide) rfl ?_
      refine x_goto k166_161 (t := 4) rfl ?_
      refine x_ls (l := [(0, .ref 256), (1, vi x1), (2, vi (x2 + 1))]) (show ([0, 1, 2] : List Nat).Nodup from by decide) ⟨rfl, rfl, rfl, trivial⟩ ?_
      exact ih_4 s x1 (x2 + 1) x1000 hG f (by first | exact x_rb b_x1 rfl rfl | exact ⟨by omega, by omega⟩) ⟨by omega, by omega⟩ (by first | exact x_rb b_x1000 rfl rfl | exact ⟨by omega, by omega⟩) (by omega) (fun _ => w_1) (WRn.add w_2 w_3 (tuN w_4 (by omega)) (by rw [w_5, show x3.toNat = 6 by omega]; rfl)) (e_x1000.symm).symm (by omega)
    · skip
      refine x_A k166_67 (fun _ => rfl) ?_
      refine x_getR k166_68 (f := 14) rfl (q := 256) (n := 62) (kd := 15) ⟨by decide, rfl⟩ (q2 := 267) (by decide) rfl ?_
      refine x_A k166_71 (fun _ => rfl) ?_
      refine x_iald k166_72 (q := 267) (n := 120) ⟨by decide, rfl⟩ (by decide) (by first | exact x_rbl b_x2 rfl rfl | exact ⟨by omega, by omega⟩) ?_
      refine x_top (fun z3376 e_z3376 => ?_)
      have g_z3376 : (0 : Int) ≤ s 267 x2.toNat ∧ s 267 x2.toNat ≤ 63 := hG 267 x2.toNat
      refine x_A k166_73 (fun _ => rfl) ?_
      refine x_ishr_b k166_74 ⟨by omega, by omega⟩ (fun z3377 i_z3377 u_z3377 => ?_)
      have g_z3377 := i_z3377
      unfold in32 at g_z3377
      refine x_A k166_75 (fun _ => rfl) ?_
      refine x_iand_b k166_76 (fun z3378 i_z3378 u_z3378 => ?_)
      have g_z3378 := i_z3378
      unfold in32 at g_z3378
      have kb := bi_atr (by omega) u_z3377 i_z3378 u_z3378
      obtain ⟨⟨y51, y52, y54, y55⟩, y46, ytd, ynow⟩ := pG3.2 x2 (by omega) (by omega) (by have q := pG1.1; omega)
      have e54_ : s0 54 x2.toNat = z3376 := by rw [y54, ← f 267 _ (show 4800 ∉ [5312, 5376, 4123, 5440, 5504, 5568] from by decide)]; exact e_z3376.symm
      have se_ := (w_1.se pR).1 x3 (by omega) (by omega)
      rw [show x1 = s0 55 x2.toNat by omega] at se_
      have se2_ : seC s0 (s0 55 x2.toNat) ((x3.toNat : Nat) : Int) = s 276 x3.toNat := by rw [show ((x3.toNat : Nat) : Int) = x3 by omega]; exact se_.symm
      refine x_A k166_77 (fun _ => rfl) ?_
      refine x_ic_ne k166_78 (t := 85) rfl (by first | exact x_rbe e_z3378 g_z3378 rfl rfl | exact x_rb g_z3378 rfl rfl | exact ⟨by omega, by omega⟩) ⟨by decide, by decide⟩ (fun c3379 => ?_) (fun c3379 => ?_)
      · skip
        refine x_A k166_85 (fun _ => rfl) ?_
        refine x_istore k166_86 (ls' := [(4, vi 0), (0, .ref 256), (1, vi x1), (2, vi x2), (3, vi x3)]) (by decide) rfl ?_
        refine x_A k166_88 (fun _ => rfl) ?_
        refine x_getR k166_89 (f := 28) rfl (q := 256) (n := 62) (kd := 15) ⟨by decide, rfl⟩ (q2 := 278) (by decide) rfl ?_
        refine x_A k166_92 (fun _ => rfl) ?_
        refine x_A k166_93 (fun _ => rfl) ?_
        refine x_getR k166_94 (f := 28) rfl (q := 256) (n := 62) (kd := 15) ⟨by decide, rfl⟩ (q2 := 278) (by decide) rfl ?_
        refine x_A k166_97 (fun _ => rfl) ?_
        refine x_bald k166_98 (q := 278) (n := 120) ⟨by decide, rfl⟩ (by decide) (by first | exact x_rbl b_x2 rfl rfl | exact ⟨by omega, by omega⟩) ?_
        refine x_rw (e_z3374.symm) ?_
        refine x_if_ne k166_99 (t := 117) rfl (by first | exact x_rbe e_z3374 g_z3374 rfl rfl | exact x_rb g_z3374 rfl rfl | exact ⟨by omega, by omega⟩) (fun c3380 => ?_) (fun c3380 => ?_)
        · skip
          refine x_A k166_117 (fun _ => rfl) ?_
          refine x_goto k166_118 (t := 122) rfl ?_
          refine x_bast k166_122 (q := 278) (n := 120) ⟨by decide, rfl⟩ (by decide) (by first | exact x_rbl b_x2 rfl rfl | exact ⟨by omega, by omega⟩) ⟨by omega, by omega⟩ ?_
          refine x_nh (fun s3381 e_s3381 => ?_)
          have hG_s3381 : GI s3381 := by rw [e_s3381]; exact hG.up (show 0 ≤ 1 ∧ 1 ≤ 1 from ⟨by decide, by decide⟩)
          have f_s3381 : FL [5312, 5376, 4123, 5440, 5504, 5568] s0 s3381 := by rw [e_s3381]; exact f.up (show 5504 ∈ [5312, 5376, 4123, 5440, 5504, 5568] from by decide)
          have q3382 : s3381 256 10 = x1000 := by rw [e_s3381, x_up_q (by decide)]; exact e_x1000.symm
          have q3383 : s3381 279 x2.toNat = z3373 := by rw [e_s3381, x_up_q (by first | decide | omega)]; exact e_z3373.symm
          have q3384 : s3381 267 x2.toNat = z3376 := by rw [e_s3381, x_up_q (by first | decide | omega)]; exact e_z3376.symm
          have q3385 : s3381 278 x2.toNat = 1 := by rw [e_s3381]; exact x_up_same
          have WRr_s3381 : WRn s3381 s0 x2 := by rw [e_s3381]; exact WRn.st w_2 (by omega)
          have FZr_s3381 : FrZ s3381 s0 x1 := by rw [e_s3381]; exact FrZ.up w_1 (show 5504 ∉ [5312, 5376, 4123] from by decide)
          refine x_A k166_123 (fun _ => rfl) ?_
          refine x_getR k166_124 (f := 29) rfl (q := 256) (n := 62) (kd := 15) ⟨by decide, rfl⟩ (q2 := 279) (by decide) rfl ?_
          refine x_A k166_127 (fun _ => rfl) ?_
          refine x_A k166_128 (fun _ => rfl) ?_
          refine x_iald k166_129 (q := 279) (n := 120) ⟨by decide, rfl⟩ (by decide) (by first | exact x_rbl b_x2 rfl rfl | exact ⟨by omega, by omega⟩) ?_
          refine x_rw (q3383) ?_
          refine x_A k166_130 (fun _ => rfl) ?_
          refine x_if_eq k166_132 (t := 149) rfl ⟨by decide, by decide⟩ (fun c3386 => ?_) (fun c3386 => by exfalso; omega)
          refine x_A k166_149 (fun _ => rfl) ?_
          refine x_iadd k166_150 ?_
          refine x_top (fun z3387 e_z3387 => ?_)
          refine x_iast k166_151 (q := 279) (n := 120) ⟨by decide, rfl⟩ (by decide) (by first | exact x_rbl b_x2 rfl rfl | exact ⟨by omega, by omega⟩) ?_
          refine x_nh (fun s3388 e_s3388 => ?_)
          have hG_s3388 : GI s3388 := by rw [e_s3388]; exact hG_s3381.up (show 0 ≤ z3387 ∧ z3387 ≤ 6 from (by first | exact x_rbe e_z3387 g_z3387 rfl rfl | exact x_rb g_z3387 rfl rfl | exact ⟨by omega, by omega⟩))
          have f_s3388 : FL [5312, 5376, 4123, 5440, 5504, 5568] s0 s3388 := by rw [e_s3388]; exact f_s3381.up (show 5568 ∈ [5312, 5376, 4123, 5440, 5504, 5568] from by decide)
          have q3389 : s3388 256 10 = x1000 := by rw [e_s3388, x_up_q (by decide)]; exact q3382
          have q3390 : s3388 267 x2.toNat = z3376 := by rw [e_s3388, x_up_q (by first | decide | omega)]; exact q3384
          have q3391 : s3388 278 x2.toNat = 1 := by rw [e_s3388, x_up_q (by first | decide | omega)]; exact q3385
          have q3392 : s3388 279 x2.toNat = z3387 := by rw [e_s3388]; exact x_up_same
          have WRr_s3388 : WRn s3388 s0 x2 := by rw [e_s3388]; exact WRn.st WRr_s3381 (by omega)
          have FZr_s3388 : FrZ s3388 s0 x1 := by rw [e_s3388]; exact FrZ.up FZr_s3381 (show 5568 ∉ [5312, 5376, 4123] from by decide)
          refine x_iinc k166_152 (ls' := [(3, vi (x3 + 1)), (4, vi 0), (0, .ref 256), (1, vi x1), (2, vi x2)]) rfl (by decide) rfl ?_
          refine x_goto k166_155 (t := 61) rfl ?_
          refine x_ls (l := [(0, .ref 256), (1, vi x1), (2, vi x2), (3, vi (x3 + 1))]) (show ([0, 1, 2, 3] : List Nat).Nodup from by decide) ⟨rfl, rfl, rfl, rfl, trivial⟩ ?_
          exact ih s3388 x1 x2 (x3 + 1) x1000 hG_s3388 f_s3388 (by first | exact x_rb b_x1 rfl rfl | exact ⟨by omega, by omega⟩) (by first | exact x_rb b_x2 rfl rfl | exact ⟨by omega, by omega⟩) ⟨by omega, by omega⟩ (by first | exact x_rb b_x1000 rfl rfl | exact ⟨by omega, by omega⟩) (by omega) (by omega) FZr_s3388 WRr_s3388 (by rw [e_s3388, x_up_q (by decide), e_s3381, x_up_q (by decide)]; exact w_3) (by rw [q3391]; exact exN.on w_4 (by omega)) (by rw [q3392]; have cs := ctp_s (fun i : Nat => bi (s0 54 x2.toNat) i = true ∧ seC s0 (s0 55 x2.toNat) i = 2) (k := x3) (by omega); rw [show ((x3.toNat : Nat) : Int) = x3 by omega] at cs; have q := cs.2 (fun q => by have q1 := q.1; rw [e54_, (kb.resolve_right (fun w => by omega)).2] at q1; cases q1); omega) (by omega) (q3389).symm (by omega) (by omega)
        · skip
          refine x_A k166_102 (fun _ => rfl) ?_
          refine x_if_eq k166_104 (t := 121) rfl ⟨by decide, by decide⟩ (fun c3393 => ?_) (fun c3393 => by exfalso; omega)
          refine x_A k166_121 (fun _ => rfl) ?_
          refine x_bast k166_122 (q := 278) (n := 120) ⟨by decide, rfl⟩ (by decide) (by first | exact x_rbl b_x2 rfl rfl | exact ⟨by omega, by omega⟩) ⟨by omega, by omega⟩ ?_
          refine x_nh (fun s3394 e_s3394 => ?_)
          have hG_s3394 : GI s3394 := by rw [e_s3394]; exact hG.up (show 0 ≤ 0 ∧ 0 ≤ 1 from ⟨by decide, by decide⟩)
          have f_s3394 : FL [5312, 5376, 4123, 5440, 5504, 5568] s0 s3394 := by rw [e_s3394]; exact f.up (show 5504 ∈ [5312, 5376, 4123, 5440, 5504, 5568] from by decide)
          have q3395 : s3394 256 10 = x1000 := by rw [e_s3394, x_up_q (by decide)]; exact e_x1000.symm
          have q3396 : s3394 279 x2.toNat = z3373 := by rw [e_s3394, x_up_q (by first | decide | omega)]; exact e_z3373.symm
          have q3397 : s3394 267 x2.toNat = z3376 := by rw [e_s3394, x_up_q (by first | decide | omega)]; exact e_z3376.symm
          have q3398 : s3394 278 x2.toNat = 0 := by rw [e_s3394]; exact x_up_same
          have WRr_s3394 : WRn s3394 s0 x2 := by rw [e_s3394]; exact WRn.st w_2 (by omega)
          have FZr_s3394 : FrZ s3394 s0 x1 := by rw [e_s3394]; exact FrZ.up w_1 (show 5504 ∉ [5312, 5376, 4123] from by decide)
          refine x_A k166_123 (fun _ => rfl) ?_
          refine x_getR k166_124 (f := 29) rfl (q := 256) (n := 62) (kd := 15) ⟨by decide, rfl⟩ (q2 := 279) (by decide) rfl ?_
          refine x_A k166_127 (fun _ => rfl) ?_
          refine x_A k166_128 (fun _ => rfl) ?_
          refine x_iald k166_129 (q := 279) (n := 120) ⟨by decide, rfl⟩ (by decide) (by first | exact x_rbl b_x2 rfl rfl | exact ⟨by omega, by omega⟩) ?_
          refine x_rw (q3396) ?_
          refine x_A k166_130 (fun _ => rfl) ?_
          refine x_if_eq k166_132 (t := 149) rfl ⟨by decide, by decide⟩ (fun c3399 => ?_) (fun c3399 => by exfalso; omega)
          refine x_A k166_149 (fun _ => rfl) ?_
          refine x_iadd k166_150 ?_
          refine x_top (fun z3400 e_z3400 => ?_)
          refine x_iast k166_151 (q := 279) (n := 120) ⟨by decide, rfl⟩ (by decide) (by first | exact x_rbl b_x2 rfl rfl | exact ⟨by omega, by omega⟩) ?_
          refine x_nh (fun s3401 e_s3401 => ?_)
          have hG_s3401 : GI s3401 := by rw [e_s3401]; exact hG_s3394.up (show 0 ≤ z3400 ∧ z3400 ≤ 6 from (by first | exact x_rbe e_z3400 g_z3400 rfl rfl | exact x_rb g_z3400 rfl rfl | exact ⟨by omega, by omega⟩))
          have f_s3401 : FL [5312, 5376, 4123, 5440, 5504, 5568] s0 s3401 := by rw [e_s3401]; exact f_s3394.up (show 5568 ∈ [5312, 5376, 4123, 5440, 5504, 5568] from by decide)
          have q3402 : s3401 256 10 = x1000 := by rw [e_s3401, x_up_q (by decide)]; exact q3395
          have q3403 : s3401 267 x2.toNat = z3376 := by rw [e_s3401, x_up_q (by first | decide | omega)]; exact q3397
          have q3404 : s3401 278 x2.toNat = 0 := by rw [e_s3401, x_up_q (by first | decide | omega)]; exact q3398
          have q3405 : s3401 279 x2.toNat = z3400 := by rw [e_s3401]; exact x_up_same
          have WRr_s3401 : WRn s3401 s0 x2 := by rw [e_s3401]; exact WRn.st WRr_s3394 (by omega)
          have FZr_s3401 : FrZ s3401 s0 x1 := by rw [e_s3401]; exact FrZ.up FZr_s3394 (show 5568 ∉ [5312, 5376, 4123] from by decide)
          refine x_iinc k166_152 (ls' := [(3, vi (x3 + 1)), (4, vi 0), (0, .ref 256), (1, vi x1), (2, vi x2)]) rfl (by decide) rfl ?_
          refine x_goto k166_155 (t := 61) rfl ?_
          refine x_ls (l := [(0, .ref 256), (1, vi x1), (2, vi x2), (3, vi (x3 + 1))]) (show ([0, 1, 2, 3] : List Nat).Nodup from by decide) ⟨rfl, rfl, rfl, rfl, trivial⟩ ?_
          exact ih s3401 x1 x2 (x3 + 1) x1000 hG_s3401 f_s3401 (by first | exact x_rb b_x1 rfl rfl | exact ⟨by omega, by omega⟩) (by first | exact x_rb b_x2 rfl rfl | exact ⟨by omega, by omega⟩) ⟨by omega, by omega⟩ (by first | exact x_rb b_x1000 rfl rfl | exact ⟨by omega, by omega⟩) (by omega) (by omega) FZr_s3401 WRr_s3401 (by rw [e_s3401, x_up_q (by decide), e_s3394, x_up_q (by decide)]; exact w_3) (by rw [q3404]; exact exN.no w_4 (by omega) (fun q => by have q1 := q.1; rw [e54_, (kb.resolve_right (fun w => by omega)).2] at q1; cases q1)) (by rw [q3405]; have cs := ctp_s (fun i : Nat => bi (s0 54 x2.toNat) i = true ∧ seC s0 (s0 55 x2.toNat) i = 2) (k := x3) (by omega); rw [show ((x3.toNat : Nat) : Int) = x3 by omega] at cs; have q := cs.2 (fun q => by have q1 := q.1; rw [e54_, (kb.resolve_right (fun w => by omega)).2] at q1; cases q1); omega) (by omega) (q3402).symm (by omega) (by omega)
      · skip
        refine x_A k166_81 (fun _ => rfl) ?_
        refine x_goto k166_82 (t := 86) rfl ?_
        refine x_istore k166_86 (ls' := [(4, vi 1), (0, .ref 256), (1, vi x1), (2, vi x2), (3, vi x3)]) (by decide) rfl ?_
        refine x_A k166_88 (fun _ => rfl) ?_
        refine x_getR k166_89 (f := 28) rfl (q := 256) (n := 62) (kd := 15) ⟨by decide, rfl⟩ (q2 := 278) (by decide) rfl ?_
        refine x_A k166_92 (fun _ => rfl) ?_
        refine x_A k166_93 (fun _ => rfl) ?_
        refine x_getR k166_94 (f := 28) rfl (q := 256) (n := 62) (kd := 15) ⟨by decide, rfl⟩ (q2 := 278) (by decide) rfl ?_
        refine x_A k166_97 (fun _ => rfl) ?_
        refine x_bald k166_98 (q := 278) (n := 120) ⟨by decide, rfl⟩ (by decide) (by first | exact x_rbl b_x2 rfl rfl | exact ⟨by omega, by omega⟩) ?_
        refine x_rw (e_z3374.symm) ?_
        refine x_if_ne k166_99 (t := 117) rfl (by first | exact x_rbe e_z3374 g_z3374 rfl rfl | exact x_rb g_z3374 rfl rfl | exact ⟨by omega, by omega⟩) (fun c3406 => ?_) (fun c3406 => ?_)
        · skip
          refine x_A k166_117 (fun _ => rfl) ?_
          refine x_goto k166_118 (t := 122) rfl ?_
          refine x_bast k166_122 (q := 278) (n := 120) ⟨by decide, rfl⟩ (by decide) (by first | exact x_rbl b_x2 rfl rfl | exact ⟨by omega, by omega⟩) ⟨by omega, by omega⟩ ?_
          refine x_nh (fun s3407 e_s3407 => ?_)
          have hG_s3407 : GI s3407 := by rw [e_s3407]; exact hG.up (show 0 ≤ 1 ∧ 1 ≤ 1 from ⟨by decide, by decide⟩)
          have f_s3407 : FL [5312, 5376, 4123, 5440, 5504, 5568] s0 s3407 := by rw [e_s3407]; exact f.up (show 5504 ∈ [5312, 5376, 4123, 5440, 5504, 5568] from by decide)
          have q3408 : s3407 256 10 = x1000 := by rw [e_s3407, x_up_q (by decide)]; exact e_x1000.symm
          have q3409 : s3407 279 x2.toNat = z3373 := by rw [e_s3407, x_up_q (by first | decide | omega)]; exact e_z3373.symm
          have q3410 : s3407 267 x2.toNat = z3376 := by rw [e_s3407, x_up_q (by first | decide | omega)]; exact e_z3376.symm
          have q3411 : s3407 278 x2.toNat = 1 := by rw [e_s3407]; exact x_up_same
          have WRr_s3407 : WRn s3407 s0 x2 := by rw [e_s3407]; exact WRn.st w_2 (by omega)
          have FZr_s3407 : FrZ s3407 s0 x1 := by rw [e_s3407]; exact FrZ.up w_1 (show 5504 ∉ [5312, 5376, 4123] from by decide)
          refine x_A k166_123 (fun _ => rfl) ?_
          refine x_getR k166_124 (f := 29) rfl (q := 256) (n := 62) (kd := 15) ⟨by decide, rfl⟩ (q2 := 279) (by decide) rfl ?_
          refine x_A k166_127 (fun _ => rfl) ?_
          refine x_A k166_128 (fun _ => rfl) ?_
          refine x_iald k166_129 (q := 279) (n := 120) ⟨by decide, rfl⟩ (by decide) (by first | exact x_rbl b_x2 rfl rfl | exact ⟨by omega, by omega⟩) ?_
          refine x_rw (q3409) ?_
          refine x_A k166_130 (fun _ => rfl) ?_
          refine x_if_eq k166_132 (t := 149) rfl ⟨by decide, by decide⟩ (fun c3412 => by exfalso; omega) (fun c3412 => ?_)
          refine x_A k166_135 (fun _ => rfl) ?_
          refine x_getR k166_136 (f := 25) rfl (q := 256) (n := 62) (kd := 15) ⟨by decide, rfl⟩ (q2 := 276) (by decide) rfl ?_
          refine x_A k166_139 (fun _ => rfl) ?_
          refine x_iald k166_140 (q := 276) (n := 6) ⟨by decide, rfl⟩ (by decide) (by first | exact x_rbl b_x3 rfl rfl | exact ⟨by omega, by omega⟩) ?_
          refine x_top (fun z3413 e_z3413 => ?_)
          have g_z3413 : (-2147483648) ≤ s3407 276 x3.toNat ∧ s3407 276 x3.toNat ≤ 2147483647 := hG_s3407 276 x3.toNat
          have z276_ : s 276 x3.toNat = z3413 := (show s3407 276 x3.toNat = s 276 x3.toNat from by rw [e_s3407, x_up_q (by decide)]).symm.trans (e_z3413.symm)
          refine x_A k166_141 (fun _ => rfl) ?_
          refine x_ic_ne k166_142 (t := 149) rfl (by first | exact x_rbe e_z3413 g_z3413 rfl rfl | exact x_rb g_z3413 rfl rfl | exact ⟨by omega, by omega⟩) ⟨by decide, by decide⟩ (fun c3414 => ?_) (fun c3414 => ?_)
          · skip
            refine x_A k166_149 (fun _ => rfl) ?_
            refine x_iadd k166_150 ?_
            refine x_top (fun z3415 e_z3415 => ?_)
            refine x_iast k166_151 (q := 279) (n := 120) ⟨by decide, rfl⟩ (by decide) (by first | exact x_rbl b_x2 rfl rfl | exact ⟨by omega, by omega⟩) ?_
            refine x_nh (fun s3416 e_s3416 => ?_)
            have hG_s3416 : GI s3416 := by rw [e_s3416]; exact hG_s3407.up (show 0 ≤ z3415 ∧ z3415 ≤ 6 from (by first | exact x_rbe e_z3415 g_z3415 rfl rfl | exact x_rb g_z3415 rfl rfl | exact ⟨by omega, by omega⟩))
            have f_s3416 : FL [5312, 5376, 4123, 5440, 5504, 5568] s0 s3416 := by rw [e_s3416]; exact f_s3407.up (show 5568 ∈ [5312, 5376, 4123, 5440, 5504, 5568] from by decide)
            have q3417 : s3416 256 10 = x1000 := by rw [e_s3416, x_up_q (by decide)]; exact q3408
            have q3418 : s3416 267 x2.toNat = z3376 := by rw [e_s3416, x_up_q (by first | decide | omega)]; exact q3410
            have q3419 : s3416 278 x2.toNat = 1 := by rw [e_s3416, x_up_q (by first | decide | omega)]; exact q3411
            have q3420 : s3416 276 x3.toNat = z3413 := by rw [e_s3416, x_up_q (by first | decide | omega)]; exact e_z3413.symm
            have q3421 : s3416 279 x2.toNat = z3415 := by rw [e_s3416]; exact x_up_same
            have WRr_s3416 : WRn s3416 s0 x2 := by rw [e_s3416]; exact WRn.st WRr_s3407 (by omega)
            have FZr_s3416 : FrZ s3416 s0 x1 := by rw [e_s3416]; exact FrZ.up FZr_s3407 (show 5568 ∉ [5312, 5376, 4123] from by decide)
            refine x_iinc k166_152 (ls' := [(3, vi (x3 + 1)), (4, vi 1), (0, .ref 256), (1, vi x1), (2, vi x2)]) rfl (by decide) rfl ?_
            refine x_goto k166_155 (t := 61) rfl ?_
            refine x_ls (l := [(0, .ref 256), (1, vi x1), (2, vi x2), (3, vi (x3 + 1))]) (show ([0, 1, 2, 3] : List Nat).Nodup from by decide) ⟨rfl, rfl, rfl, rfl, trivial⟩ ?_
            exact ih s3416 x1 x2 (x3 + 1) x1000 hG_s3416 f_s3416 (by first | exact x_rb b_x1 rfl rfl | exact ⟨by omega, by omega⟩) (by first | exact x_rb b_x2 rfl rfl | exact ⟨by omega, by omega⟩) ⟨by omega, by omega⟩ (by first | exact x_rb b_x1000 rfl rfl | exact ⟨by omega, by omega⟩) (by omega) (by omega) FZr_s3416 WRr_s3416 (by rw [e_s3416, x_up_q (by decide), e_s3407, x_up_q (by decide)]; exact w_3) (by rw [q3419]; exact exN.on w_4 (by omega)) (by rw [q3421]; have cs := ctp_s (fun i : Nat => bi (s0 54 x2.toNat) i = true ∧ seC s0 (s0 55 x2.toNat) i = 2) (k := x3) (by omega); rw [show ((x3.toNat : Nat) : Int) = x3 by omega] at cs; have q := cs.2 (fun q => by have q2 := q.2; omega); omega) (by omega) (q3417).symm (by omega) (by omega)
          · skip
            refine x_A k166_145 (fun _ => rfl) ?_
            refine x_goto k166_146 (t := 150) rfl ?_
            refine x_iadd k166_150 ?_
            refine x_top (fun z3422 e_z3422 => ?_)
            refine x_iast k166_151 (q := 279) (n := 120) ⟨by decide, rfl⟩ (by decide) (by first | exact x_rbl b_x2 rfl rfl | exact ⟨by omega, by omega⟩) ?_
            refine x_nh (fun s3423 e_s3423 => ?_)
            have hG_s3423 : GI s3423 := by rw [e_s3423]; exact hG_s3407.up (show 0 ≤ z3422 ∧ z3422 ≤ 6 from (by first | exact x_rbe e_z3422 g_z3422 rfl rfl | exact x_rb g_z3422 rfl rfl | exact ⟨by omega, by omega⟩))
            have f_s3423 : FL [5312, 5376, 4123, 5440, 5504, 5568] s0 s3423 := by rw [e_s3423]; exact f_s3407.up (show 5568 ∈ [5312, 5376, 4123, 5440, 5504, 5568] from by decide)
            have q3424 : s3423 256 10 = x1000 := by rw [e_s3423, x_up_q (by decide)]; exact q3408
            have q3425 : s3423 267 x2.toNat = z3376 := by rw [e_s3423, x_up_q (by first | decide | omega)]; exact q3410
            have q3426 : s3423 278 x2.toNat = 1 := by rw [e_s3423, x_up_q (by first | decide | omega)]; exact q3411
            have q3427 : s3423 276 x3.toNat = z3413 := by rw [e_s3423, x_up_q (by first | decide | omega)]; exact e_z3413.symm
            have q3428 : s3423 279 x2.toNat = z3422 := by rw [e_s3423]; exact x_up_same
            have WRr_s3423 : WRn s3423 s0 x2 := by rw [e_s3423]; exact WRn.st WRr_s3407 (by omega)
            have FZr_s3423 : FrZ s3423 s0 x1 := by rw [e_s3423]; exact FrZ.up FZr_s3407 (show 5568 ∉ [5312, 5376, 4123] from by decide)
            refine x_iinc k166_152 (ls' := [(3, vi (x3 + 1)), (4, vi 1), (0, .ref 256), (1, vi x1), (2, vi x2)]) rfl (by decide) rfl ?_
            refine x_goto k166_155 (t := 61) rfl ?_
            refine x_ls (l := [(0, .ref 256), (1, vi x1), (2, vi x2), (3, vi (x3 + 1))]) (show ([0, 1, 2, 3] : List Nat).Nodup from by decide) ⟨rfl, rfl, rfl, rfl, trivial⟩ ?_
            exact ih s3423 x1 x2 (x3 + 1) x1000 hG_s3423 f_s3423 (by first | exact x_rb b_x1 rfl rfl | exact ⟨by omega, by omega⟩) (by first | exact x_rb b_x2 rfl rfl | exact ⟨by omega, by omega⟩) ⟨by omega, by omega⟩ (by first | exact x_rb b_x1000 rfl rfl | exact ⟨by omega, by omega⟩) (by omega) (by omega) FZr_s3423 WRr_s3423 (by rw [e_s3423, x_up_q (by decide), e_s3407, x_up_q (by decide)]; exact w_3) (by rw [q3426]; exact exN.on w_4 (by omega)) (by rw [q3428]; have cs := ctp_s (fun i : Nat => bi (s0 54 x2.toNat) i = true ∧ seC s0 (s0 55 x2.toNat) i = 2) (k := x3) (by omega); rw [show ((x3.toNat : Nat) : Int) = x3 by omega] at cs; have q := cs.1 ⟨by rw [e54_]; exact (kb.resolve_left (fun w => by omega)).2, by omega⟩; omega) (by omega) (q3424).symm (by omega) (by omega)
        · skip
          refine x_A k166_102 (fun _ => rfl) ?_
          refine x_if_eq k166_104 (t := 121) rfl ⟨by decide, by decide⟩ (fun c3429 => by exfalso; omega) (fun c3429 => ?_)
          refine x_A k166_107 (fun _ => rfl) ?_
          refine x_getR k166_108 (f := 25) rfl (q := 256) (n := 62) (kd := 15) ⟨by decide, rfl⟩ (q2 := 276) (by decide) rfl ?_
          refine x_A k166_111 (fun _ => rfl) ?_
          refine x_iald k166_112 (q := 276) (n := 6) ⟨by decide, rfl⟩ (by decide) (by first | exact x_rbl b_x3 rfl rfl | exact ⟨by omega, by omega⟩) ?_
          refine x_top (fun z3430 e_z3430 => ?_)
          have g_z3430 : (-2147483648) ≤ s 276 x3.toNat ∧ s 276 x3.toNat ≤ 2147483647 := hG 276 x3.toNat
          have z276_ : s 276 x3.toNat = z3430 := e_z3430.symm
          refine x_A k166_113 (fun _ => rfl) ?_
          refine x_ic_ne k166_114 (t := 121) rfl (by first | exact x_rbe e_z3430 g_z3430 rfl rfl | exact x_rb g_z3430 rfl rfl | exact ⟨by omega, by omega⟩) ⟨by decide, by decide⟩ (fun c3431 => ?_) (fun c3431 => ?_)
          · skip
            refine x_A k166_121 (fun _ => rfl) ?_
            refine x_bast k166_122 (q := 278) (n := 120) ⟨by decide, rfl⟩ (by decide) (by first | exact x_rbl b_x2 rfl rfl | exact ⟨by omega, by omega⟩) ⟨by omega, by omega⟩ ?_
            refine x_nh (fun s3432 e_s3432 => ?_)
            have hG_s3432 : GI s3432 := by rw [e_s3432]; exact hG.up (show 0 ≤ 0 ∧ 0 ≤ 1 from ⟨by decide, by decide⟩)
            have f_s3432 : FL [5312, 5376, 4123, 5440, 5504, 5568] s0 s3432 := by rw [e_s3432]; exact f.up (show 5504 ∈ [5312, 5376, 4123, 5440, 5504, 5568] from by decide)
            have q3433 : s3432 256 10 = x1000 := by rw [e_s3432, x_up_q (by decide)]; exact e_x1000.symm
            have q3434 : s3432 279 x2.toNat = z3373 := by rw [e_s3432, x_up_q (by first | decide | omega)]; exact e_z3373.symm
            have q3435 : s3432 267 x2.toNat = z3376 := by rw [e_s3432, x_up_q (by first | decide | omega)]; exact e_z3376.symm
            have q3436 : s3432 276 x3.toNat = z3430 := by rw [e_s3432, x_up_q (by first | decide | omega)]; exact e_z3430.symm
            have q3437 : s3432 278 x2.toNat = 0 := by rw [e_s3432]; exact x_up_same
            have WRr_s3432 : WRn s3432 s0 x2 := by rw [e_s3432]; exact WRn.st w_2 (by omega)
            have FZr_s3432 : FrZ s3432 s0 x1 := by rw [e_s3432]; exact FrZ.up w_1 (show 5504 ∉ [5312, 5376, 4123] from by decide)
            refine x_A k166_123 (fun _ => rfl) ?_
            refine x_getR k166_124 (f := 29) rfl (q := 256) (n := 62) (kd := 15) ⟨by decide, rfl⟩ (q2 := 279) (by decide) rfl ?_
            refine x_A k166_127 (fun _ => rfl) ?_
            refine x_A k166_128 (fun _ => rfl) ?_
            refine x_iald k166_129 (q := 279) (n := 120) ⟨by decide, rfl⟩ (by decide) (by first | exact x_rbl b_x2 rfl rfl | exact ⟨by omega, by omega⟩) ?_
            refine x_rw (q3434) ?_
            refine x_A k166_130 (fun _ => rfl) ?_
            refine x_if_eq k166_132 (t := 149) rfl ⟨by decide, by decide⟩ (fun c3438 => by exfalso; omega) (fun c3438 => ?_)
            refine x_A k166_135 (fun _ => rfl) ?_
            refine x_getR k166_136 (f := 25) rfl (q := 256) (n := 62) (kd := 15) ⟨by decide, rfl⟩ (q2 := 276) (by decide) rfl ?_
            refine x_A k166_139 (fun _ => rfl) ?_
            refine x_iald k166_140 (q := 276) (n := 6) ⟨by decide, rfl⟩ (by decide) (by first | exact x_rbl b_x3 rfl rfl | exact ⟨by omega, by omega⟩) ?_
            refine x_rw (q3436) ?_
            refine x_A k166_141 (fun _ => rfl) ?_
            refine x_ic_ne k166_142 (t := 149) rfl (by first | exact x_rbe e_z3430 g_z3430 rfl rfl | exact x_rb g_z3430 rfl rfl | exact ⟨by omega, by omega⟩) ⟨by decide, by decide⟩ (fun c3439 => ?_) (fun c3439 => ?_)
            · skip
              refine x_A k166_149 (fun _ => rfl) ?_
              refine x_iadd k166_150 ?_
              refine x_top (fun z3440 e_z3440 => ?_)
              refine x_iast k166_151 (q := 279) (n := 120) ⟨by decide, rfl⟩ (by decide) (by first | exact x_rbl b_x2 rfl rfl | exact ⟨by omega, by omega⟩) ?_
              refine x_nh (fun s3441 e_s3441 => ?_)
              have hG_s3441 : GI s3441 := by rw [e_s3441]; exact hG_s3432.up (show 0 ≤ z3440 ∧ z3440 ≤ 6 from (by first | exact x_rbe e_z3440 g_z3440 rfl rfl | exact x_rb g_z3440 rfl rfl | exact ⟨by omega, by omega⟩))
              have f_s3441 : FL [5312, 5376, 4123, 5440, 5504, 5568] s0 s3441 := by rw [e_s3441]; exact f_s3432.up (show 5568 ∈ [5312, 5376, 4123, 5440, 5504, 5568] from by decide)
              have q3442 : s3441 256 10 = x1000 := by rw [e_s3441, x_up_q (by decide)]; exact q3433
              have q3443 : s3441 267 x2.toNat = z3376 := by rw [e_s3441, x_up_q (by first | decide | omega)]; exact q3435
              have q3444 : s3441 276 x3.toNat = z3430 := by rw [e_s3441, x_up_q (by first | decide | omega)]; exact q3436
              have q3445 : s3441 278 x2.toNat = 0 := by rw [e_s3441, x_up_q (by first | decide | omega)]; exact q3437
              have q3446 : s3441 279 x2.toNat = z3440 := by rw [e_s3441]; exact x_up_same
              have WRr_s3441 : WRn s3441 s0 x2 := by rw [e_s3441]; exact WRn.st WRr_s3432 (by omega)
              have FZr_s3441 : FrZ s3441 s0 x1 := by rw [e_s3441]; exact FrZ.up FZr_s3432 (show 5568 ∉ [5312, 5376, 4123] from by decide)
              refine x_iinc k166_152 (ls' := [(3, vi (x3 + 1)), (4, vi 1), (0, .ref 256), (1, vi x1), (2, vi x2)]) rfl (by decide) rfl ?_
              refine x_goto k166_155 (t := 61) rfl ?_
              refine x_ls (l := [(0, .ref 256), (1, vi x1), (2, vi x2), (3, vi (x3 + 1))]) (show ([0, 1, 2, 3] : List Nat).Nodup from by decide) ⟨rfl, rfl, rfl, rfl, trivial⟩ ?_
              exact ih s3441 x1 x2 (x3 + 1) x1000 hG_s3441 f_s3441 (by first | exact x_rb b_x1 rfl rfl | exact ⟨by omega, by omega⟩) (by first | exact x_rb b_x2 rfl rfl | exact ⟨by omega, by omega⟩) ⟨by omega, by omega⟩ (by first | exact x_rb b_x1000 rfl rfl | exact ⟨by omega, by omega⟩) (by omega) (by omega) FZr_s3441 WRr_s3441 (by rw [e_s3441, x_up_q (by decide), e_s3432, x_up_q (by decide)]; exact w_3) (by rw [q3445]; exact exN.no w_4 (by omega) (fun q => by have q2 := q.2; omega)) (by rw [q3446]; have cs := ctp_s (fun i : Nat => bi (s0 54 x2.toNat) i = true ∧ seC s0 (s0 55 x2.toNat) i = 2) (k := x3) (by omega); rw [show ((x3.toNat : Nat) : Int) = x3 by omega] at cs; have q := cs.2 (fun q => by have q2 := q.2; omega); omega) (by omega) (q3442).symm (by omega) (by omega)
            · skip
              refine x_A k166_145 (fun _ => rfl) ?_
              refine x_goto k166_146 (t := 150) rfl ?_
              refine x_iadd k166_150 ?_
              refine x_top (fun z3447 e_z3447 => ?_)
              refine x_iast k166_151 (q := 279) (n := 120) ⟨by decide, rfl⟩ (by decide) (by first | exact x_rbl b_x2 rfl rfl | exact ⟨by omega, by omega⟩) ?_
              refine x_nh (fun s3448 e_s3448 => ?_)
              have hG_s3448 : GI s3448 := by rw [e_s3448]; exact hG_s3432.up (show 0 ≤ z3447 ∧ z3447 ≤ 6 from (by first | exact x_rbe e_z3447 g_z3447 rfl rfl | exact x_rb g_z3447 rfl rfl | exact ⟨by omega, by omega⟩))
              have f_s3448 : FL [5312, 5376, 4123, 5440, 5504, 5568] s0 s3448 := by rw [e_s3448]; exact f_s3432.up (show 5568 ∈ [5312, 5376, 4123, 5440, 5504, 5568] from by decide)
              have q3449 : s3448 256 10 = x1000 := by rw [e_s3448, x_up_q (by decide)]; exact q3433
              have q3450 : s3448 267 x2.toNat = z3376 := by rw [e_s3448, x_up_q (by first | decide | omega)]; exact q3435
              have q3451 : s3448 276 x3.toNat = z3430 := by rw [e_s3448, x_up_q (by first | decide | omega)]; exact q3436
              have q3452 : s3448 278 x2.toNat = 0 := by rw [e_s3448, x_up_q (by first | decide | omega)]; exact q3437
              have q3453 : s3448 279 x2.toNat = z3447 := by rw [e_s3448]; exact x_up_same
              have WRr_s3448 : WRn s3448 s0 x2 := by rw [e_s3448]; exact WRn.st WRr_s3432 (by omega)
              have FZr_s3448 : FrZ s3448 s0 x1 := by rw [e_s3448]; exact FrZ.up FZr_s3432 (show 5568 ∉ [5312, 5376, 4123] from by decide)
              refine x_iinc k166_152 (ls' := [(3, vi (x3 + 1)), (4, vi 1), (0, .ref 256), (1, vi x1), (2, vi x2)]) rfl (by decide) rfl ?_
              refine x_goto k166_155 (t := 61) rfl ?_
              refine x_ls (l := [(0, .ref 256), (1, vi x1), (2, vi x2), (3, vi (x3 + 1))]) (show ([0, 1, 2, 3] : List Nat).Nodup from by decide) ⟨rfl, rfl, rfl, rfl, trivial⟩ ?_
              exact ih s3448 x1 x2 (x3 + 1) x1000 hG_s3448 f_s3448 (by first | exact x_rb b_x1 rfl rfl | exact ⟨by omega, by omega⟩) (by first | exact x_rb b_x2 rfl rfl | exact ⟨by omega, by omega⟩) ⟨by omega, by omega⟩ (by first | exact x_rb b_x1000 rfl rfl | exact ⟨by omega, by omega⟩) (by omega) (by omega) FZr_s3448 WRr_s3448 (by rw [e_s3448, x_up_q (by decide), e_s3432, x_up_q (by decide)]; exact w_3) (by rw [q3452]; exact exN.no w_4 (by omega) (fun q => by have q2 := q.2; omega)) (by rw [q3453]; have cs := ctp_s (fun i : Nat => bi (s0 54 x2.toNat) i = true ∧ seC s0 (s0 55 x2.toNat) i = 2) (k := x3) (by omega); rw [show ((x3.toNat : Nat) : Int) = x3 by omega] at cs; have q := cs.1 ⟨by rw [e54_]; exact (kb.resolve_left (fun w => by omega)).2, by omega⟩; omega) (by omega) (q3449).symm (by omega) (by omega)
          · skip
            refine x_A k166_117 (fun _ => rfl) ?_
            refine x_goto k166_118 (t := 122) rfl ?_
            refine x_bast k166_122 (q := 278) (n := 120) ⟨by decide, rfl⟩ (by decide) (by first | exact x_rbl b_x2 rfl rfl | exact ⟨by omega, by omega⟩) ⟨by omega, by omega⟩ ?_
            refine x_nh (fun s3454 e_s3454 => ?_)
            have hG_s3454 : GI s3454 := by rw [e_s3454]; exact hG.up (show 0 ≤ 1 ∧ 1 ≤ 1 from ⟨by decide, by decide⟩)
            have f_s3454 : FL [5312, 5376, 4123, 5440, 5504, 5568] s0 s3454 := by rw [e_s3454]; exact f.up (show 5504 ∈ [5312, 5376, 4123, 5440, 5504, 5568] from by decide)
            have q3455 : s3454 256 10 = x1000 := by rw [e_s3454, x_up_q (by decide)]; exact e_x1000.symm
            have q3456 : s3454 279 x2.toNat = z3373 := by rw [e_s3454, x_up_q (by first | decide | omega)]; exact e_z3373.symm
            have q3457 : s3454 267 x2.toNat = z3376 := by rw [e_s3454, x_up_q (by first | decide | omega)]; exact e_z3376.symm
            have q3458 : s3454 276 x3.toNat = z3430 := by rw [e_s3454, x_up_q (by first | decide | omega)]; exact e_z3430.symm
            have q3459 : s3454 278 x2.toNat = 1 := by rw [e_s3454]; exact x_up_same
            have WRr_s3454 : WRn s3454 s0 x2 := by rw [e_s3454]; exact WRn.st w_2 (by omega)
            have FZr_s3454 : FrZ s3454 s0 x1 := by rw [e_s3454]; exact FrZ.up w_1 (show 5504 ∉ [5312, 5376, 4123] from by decide)
            refine x_A k166_123 (fun _ => rfl) ?_
            refine x_getR k166_124 (f := 29) rfl (q := 256) (n := 62) (kd := 15) ⟨by decide, rfl⟩ (q2 := 279) (by decide) rfl ?_
            refine x_A k166_127 (fun _ => rfl) ?_
            refine x_A k166_128 (fun _ => rfl) ?_
            refine x_iald k166_129 (q := 279) (n := 120) ⟨by decide, rfl⟩ (by decide) (by first | exact x_rbl b_x2 rfl rfl | exact ⟨by omega, by omega⟩) ?_
            refine x_rw (q3456) ?_
            refine x_A k166_130 (fun _ => rfl) ?_
            refine x_if_eq k166_132 (t := 149) rfl ⟨by decide, by decide⟩ (fun c3460 => by exfalso; omega) (fun c3460 => ?_)
            refine x_A k166_135 (fun _ => rfl) ?_
            refine x_getR k166_136 (f := 25) rfl (q := 256) (n := 62) (kd := 15) ⟨by decide, rfl⟩ (q2 := 276) (by decide) rfl ?_
            refine x_A k166_139 (fun _ => rfl) ?_
            refine x_iald k166_140 (q := 276) (n := 6) ⟨by decide, rfl⟩ (by decide) (by first | exact x_rbl b_x3 rfl rfl | exact ⟨by omega, by omega⟩) ?_
            refine x_rw (q3458) ?_
            refine x_A k166_141 (fun _ => rfl) ?_
            refine x_ic_ne k166_142 (t := 149) rfl (by first | exact x_rbe e_z3430 g_z3430 rfl rfl | exact x_rb g_z3430 rfl rfl | exact ⟨by omega, by omega⟩) ⟨by decide, by decide⟩ (fun c3461 => ?_) (fun c3461 => by exfalso; omega)
            refine x_A k166_149 (fun _ => rfl) ?_
            refine x_iadd k166_150 ?_
            refine x_top (fun z3462 e_z3462 => ?_)
            refine x_iast k166_151 (q := 279) (n := 120) ⟨by decide, rfl⟩ (by decide) (by first | exact x_rbl b_x2 rfl rfl | exact ⟨by omega, by omega⟩) ?_
            refine x_nh (fun s3463 e_s3463 => ?_)
            have hG_s3463 : GI s3463 := by rw [e_s3463]; exact hG_s3454.up (show 0 ≤ z3462 ∧ z3462 ≤ 6 from (by first | exact x_rbe e_z3462 g_z3462 rfl rfl | exact x_rb g_z3462 rfl rfl | exact ⟨by omega, by omega⟩))
            have f_s3463 : FL [5312, 5376, 4123, 5440, 5504, 5568] s0 s3463 := by rw [e_s3463]; exact f_s3454.up (show 5568 ∈ [5312, 5376, 4123, 5440, 5504, 5568] from by decide)
            have q3464 : s3463 256 10 = x1000 := by rw [e_s3463, x_up_q (by decide)]; exact q3455
            have q3465 : s3463 267 x2.toNat = z3376 := by rw [e_s3463, x_up_q (by first | decide | omega)]; exact q3457
            have q3466 : s3463 276 x3.toNat = z3430 := by rw [e_s3463, x_up_q (by first | decide | omega)]; exact q3458
            have q3467 : s3463 278 x2.toNat = 1 := by rw [e_s3463, x_up_q (by first | decide | omega)]; exact q3459
            have q3468 : s3463 279 x2.toNat = z3462 := by rw [e_s3463]; exact x_up_same
            have WRr_s3463 : WRn s3463 s0 x2 := by rw [e_s3463]; exact WRn.st WRr_s3454 (by omega)
            have FZr_s3463 : FrZ s3463 s0 x1 := by rw [e_s3463]; exact FrZ.up FZr_s3454 (show 5568 ∉ [5312, 5376, 4123] from by decide)
            refine x_iinc k166_152 (ls' := [(3, vi (x3 + 1)), (4, vi 1), (0, .ref 256), (1, vi x1), (2, vi x2)]) rfl (by decide) rfl ?_
            refine x_goto k166_155 (t := 61) rfl ?_
            refine x_ls (l := [(0, .ref 256), (1, vi x1), (2, vi x2), (3, vi (x3 + 1))]) (show ([0, 1, 2, 3] : List Nat).Nodup from by decide) ⟨rfl, rfl, rfl, rfl, trivial⟩ ?_
            exact ih s3463 x1 x2 (x3 + 1) x1000 hG_s3463 f_s3463 (by first | exact x_rb b_x1 rfl rfl | exact ⟨by omega, by omega⟩) (by first | exact x_rb b_x2 rfl rfl | exact ⟨by omega, by omega⟩) ⟨by omega, by omega⟩ (by first | exact x_rb b_x1000 rfl rfl | exact ⟨by omega, by omega⟩) (by omega) (by omega) FZr_s3463 WRr_s3463 (by rw [e_s3463, x_up_q (by decide), e_s3454, x_up_q (by decide)]; exact w_3) (by rw [q3467]; exact exN_yes (by omega) ⟨by rw [e54_]; exact (kb.resolve_left (fun w => by omega)).2, by omega⟩) (by rw [q3468]; have cs := ctp_s (fun i : Nat => bi (s0 54 x2.toNat) i = true ∧ seC s0 (s0 55 x2.toNat) i = 2) (k := x3) (by omega); rw [show ((x3.toNat : Nat) : Int) = x3 by omega] at cs; have q := cs.2 (fun q => by have q2 := q.2; omega); omega) (by omega) (q3464).symm (by omega) (by omega)
set_option maxHeartbeats 8000000 in
theorem L_E_X11_findWrong_256_4 (s0 : xS) (hJ0 : J s0) (hG0 : GI s0) (pR : R1 s0) (pT : TR s0) (pG1 : G1 s0) (pG3 : G3 s0)  : ∀ (n : Nat) (s : xS) (x1 : Int) (x2 : Int) (x1000 : Int) (hG : GI s) (f : FL [5312, 5376, 4123, 5440, 5504, 5568] s0 s) (b_x1 : (-1) ≤ x1 ∧ x1 ≤ 9) (b_x2 : 0 ≤ x2 ∧ x2 ≤ 120) (b_x1000 : 0 ≤ x1000 ∧ x1000 ≤ 120) (w_0 : x1000 = s0 256 10 ∧ x2 ≤ x1000 ∧ -1 ≤ x1) (w_1 : 0 ≤ x1 → FrZ s s0 x1) (w_2 : WRn s s0 x2) (e_x1000 : x1000 = s 256 10)  (hm : (120 - x2) < (n : Int)), xe none 166 4 [(0, .ref 256), (1, vi x1), (2, vi x2)] [] s 0 0 (fun s' v => GI s' ∧ FL [5312, 5376, 4123, 5440, 5504, 5568] s0 s' ∧ v = none ∧ (WRn s' s0 (s0 256 10))) := by
  intro n
  induction n with
  | zero => intro s x1 x2 x1000 hG f b_x1 b_x2 b_x1000 w_0 w_1 w_2 e_x1000  hm; exfalso; omega
  | succ n ih =>
    intro s x1 x2 x1000 hG f b_x1 b_x2 b_x1000 w_0 w_1 w_2 e_x1000  hm
    refine x_A k166_4 (fun _ => rfl) ?_
    refine x_A k166_5 (fun _ => rfl) ?_
    refine x_getI k166_6 (f := 10) rfl (q := 256) (n := 62) (kd := 15) ⟨by decide, rfl⟩ (by decide) rfl ?_
    refine x_rw (e_x1000.symm) ?_
    refine x_ic_ge k166_9 (t := 164) rfl (by first | exact x_rb b_x2 rfl rfl | exact ⟨by omega, by omega⟩) (by first | exact x_rb b_x1000 rfl rfl | exact ⟨by omega, by omega⟩) (fun c3469 => ?_) (fun c3469 => ?_)
    · skip
      exact x_vret k166_164 rfl ⟨hG, f, rfl, (by rw [← show x2 = s0 256 10 by omega]; exact w_2)⟩
    · skip
      refine x_A k166_12 (fun _ => rfl) ?_
      refine x_getR k166_13 (f := 15) rfl (q := 256) (n := 62) (kd := 15) ⟨by decide, rfl⟩ (q2 := 268) (by decide) rfl ?_
      refine x_A k166_16 (fun _ => rfl) ?_
      refine x_iald k166_17 (q := 268) (n := 120) ⟨by decide, rfl⟩ (by decide) (by first | exact x_rbl b_x2 rfl rfl | exact ⟨by omega, by omega⟩) ?_
      refine x_top (fun z3470 e_z3470 => ?_)
      have g_z3470 : (0 : Int) ≤ s 268 x2.toNat ∧ s 268 x2.toNat ≤ 9 := hG 268 x2.toNat
      refine x_A k166_18 (fun _ => rfl) ?_
      refine x_ic_eq k166_19 (t := 34) rfl (by first | exact x_rbe e_z3470 g_z3470 rfl rfl | exact x_rb g_z3470 rfl rfl | exact ⟨by omega, by omega⟩) (by first | exact x_rb b_x1 rfl rfl | exact ⟨by omega, by omega⟩) (fun c3471 => ?_) (fun c3471 => ?_)
      · skip
        have fz_ : FrZ s s0 x1 := w_1 (by omega)
        have e268_ : s0 268 x2.toNat = z3470 := by rw [← f 268 _ (show 4864 ∉ [5312, 5376, 4123, 5440, 5504, 5568] from by decide)]; exact e_z3470.symm
        refine x_A k166_34 (fun _ => rfl) ?_
        refine x_getR k166_35 (f := 27) rfl (q := 256) (n := 62) (kd := 15) ⟨by decide, rfl⟩ (q2 := 277) (by decide) rfl ?_
        refine x_A k166_38 (fun _ => rfl) ?_
        refine x_A k166_39 (fun _ => rfl) ?_
        have ve_ : VE s s0 := FL.ve f hG0 (by decide)
        refine x_A k166_40 (fun _ => rfl) ?_
        refine x_callV k166_41 (y := 165) (n := 1) (w0 := 2) (w1 := 1) (as := [vi x2]) (rest := [vi x2, .ref 277]) (by decide +kernel) (q := 256) (nq := 62) (kq := 15) ⟨by decide, rfl⟩ rfl rfl rfl rfl (xe_mono (E_X11_whyWrong_256 s hG (hJ0.fl f (by decide)) x2 (by first | exact x_rb b_x2 rfl rfl | exact ⟨by omega, by omega⟩) (pR.fl f (by decide)) (pT.fl (hG0 256 1).2 f (by decide)) (pG1.fl f (by decide)) (pG3.fl f (by decide)) (by rw [e_z3470.symm, show z3470 = x1 by omega]; exact FrZ.re fz_ (FL.rre f (by decide)).sy) (by omega) (fun j j0 j1 => by rw [ve_.wr, (w_2 j j0 j1).1])) ?_)
        rintro s3473 v ⟨-, t_s3473, z3472, rfl, g_z3472, xp_z3472⟩
        rw [t_s3473.nil]
        try rw [t_s3473.nil] at xp_z3472
        show xe none 166 44 [(0, .ref 256), (1, vi x1), (2, vi x2)] [vi z3472, vi x2, .ref 277] s 0 0 _
        have ew_ : z3472 = wrC s0 x2 := by rw [← ve_.wr]; exact xp_z3472
        refine x_iast k166_44 (q := 277) (n := 120) ⟨by decide, rfl⟩ (by decide) (by first | exact x_rbl b_x2 rfl rfl | exact ⟨by omega, by omega⟩) ?_
        refine x_nh (fun s3474 e_s3474 => ?_)
        have hG_s3474 : GI s3474 := by rw [e_s3474]; exact hG.up (show 0 ≤ z3472 ∧ z3472 ≤ 4 from (by first | exact x_rbe e_z3472 g_z3472 rfl rfl | exact x_rb g_z3472 rfl rfl | exact ⟨by omega, by omega⟩))
        have f_s3474 : FL [5312, 5376, 4123, 5440, 5504, 5568] s0 s3474 := by rw [e_s3474]; exact f.up (show 5440 ∈ [5312, 5376, 4123, 5440, 5504, 5568] from by decide)
        have q3475 : s3474 256 10 = x1000 := by rw [e_s3474, x_up_q (by decide)]; exact e_x1000.symm
        have q3476 : s3474 268 x2.toNat = z3470 := by rw [e_s3474, x_up_q (by first | decide | omega)]; exact e_z3470.symm
        have q3477 : s3474 277 x2.toNat = z3472 := by rw [e_s3474]; exact x_up_same
        have WRr_s3474 : WRn s3474 s0 x2 := by rw [e_s3474]; exact WRn.st w_2 (by omega)
        have FZr_s3474 : FrZ s3474 s0 x1 := by rw [e_s3474]; exact FrZ.up fz_ (show 5440 ∉ [5312, 5376, 4123] from by decide)
        refine x_A k166_45 (fun _ => rfl) ?_
        refine x_getR k166_46 (f := 28) rfl (q := 256) (n := 62) (kd := 15) ⟨by decide, rfl⟩ (q2 := 278) (by decide) rfl ?_
        refine x_A k166_49 (fun _ => rfl) ?_
        refine x_A k166_50 (fun _ => rfl) ?_
        refine x_bast k166_51 (q := 278) (n := 120) ⟨by decide, rfl⟩ (by decide) (by first | exact x_rbl b_x2 rfl rfl | exact ⟨by omega, by omega⟩) ⟨by omega, by omega⟩ ?_
        refine x_nh (fun s3478 e_s3478 => ?_)
        have hG_s3478 : GI s3478 := by rw [e_s3478]; exact hG_s3474.up (show 0 ≤ 0 ∧ 0 ≤ 1 from ⟨by decide, by decide⟩)
        have f_s3478 : FL [5312, 5376, 4123, 5440, 5504, 5568] s0 s3478 := by rw [e_s3478]; exact f_s3474.up (show 5504 ∈ [5312, 5376, 4123, 5440, 5504, 5568] from by decide)
        have q3479 : s3478 256 10 = x1000 := by rw [e_s3478, x_up_q (by decide)]; exact q3475
        have q3480 : s3478 268 x2.toNat = z3470 := by rw [e_s3478, x_up_q (by first | decide | omega)]; exact q3476
        have q3481 : s3478 277 x2.toNat = z3472 := by rw [e_s3478, x_up_q (by first | decide | omega)]; exact q3477
        have q3482 : s3478 278 x2.toNat = 0 := by rw [e_s3478]; exact x_up_same
        have WRr_s3478 : WRn s3478 s0 x2 := by rw [e_s3478]; exact WRn.st WRr_s3474 (by omega)
        have FZr_s3478 : FrZ s3478 s0 x1 := by rw [e_s3478]; exact FrZ.up FZr_s3474 (show 5504 ∉ [5312, 5376, 4123] from by decide)
        refine x_A k166_52 (fun _ => rfl) ?_
        refine x_getR k166_53 (f := 29) rfl (q := 256) (n := 62) (kd := 15) ⟨by decide, rfl⟩ (q2 := 279) (by decide) rfl ?_
        refine x_A k166_56 (fun _ => rfl) ?_
        refine x_A k166_57 (fun _ => rfl) ?_
        refine x_iast k166_58 (q := 279) (n := 120) ⟨by decide, rfl⟩ (by decide) (by first | exact x_rbl b_x2 rfl rfl | exact ⟨by omega, by omega⟩) ?_
        refine x_nh (fun s3483 e_s3483 => ?_)
        have hG_s3483 : GI s3483 := by rw [e_s3483]; exact hG_s3478.up (show 0 ≤ 0 ∧ 0 ≤ 6 from ⟨by decide, by decide⟩)
        have f_s3483 : FL [5312, 5376, 4123, 5440, 5504, 5568] s0 s3483 := by rw [e_s3483]; exact f_s3478.up (show 5568 ∈ [5312, 5376, 4123, 5440, 5504, 5568] from by decide)
        have q3484 : s3483 256 10 = x1000 := by rw [e_s3483, x_up_q (by decide)]; exact q3479
        have q3485 : s3483 268 x2.toNat = z3470 := by rw [e_s3483, x_up_q (by first | decide | omega)]; exact q3480
        have q3486 : s3483 277 x2.toNat = z3472 := by rw [e_s3483, x_up_q (by first | decide | omega)]; exact q3481
        have q3487 : s3483 278 x2.toNat = 0 := by rw [e_s3483, x_up_q (by first | decide | omega)]; exact q3482
        have q3488 : s3483 279 x2.toNat = 0 := by rw [e_s3483]; exact x_up_same
        have WRr_s3483 : WRn s3483 s0 x2 := by rw [e_s3483]; exact WRn.st WRr_s3478 (by omega)
        have FZr_s3483 : FrZ s3483 s0 x1 := by rw [e_s3483]; exact FrZ.up FZr_s3478 (show 5568 ∉ [5312, 5376, 4123] from by decide)
        refine x_A k166_59 (fun _ => rfl) ?_
        refine x_istore_n k166_60 (ls' := [(3, vi 0), (0, .ref 256), (1, vi x1), (2, vi x2)]) (by decide) rfl ?_
        refine x_ls (l := [(0, .ref 256), (1, vi x1), (2, vi x2), (3, vi 0)]) (show ([0, 1, 2, 3] : List Nat).Nodup from by decide) ⟨rfl, rfl, rfl, rfl, trivial⟩ ?_
        exact L_E_X11_findWrong_256_61 s0 hJ0 hG0 pR pT pG1 pG3 n (fun s x1 x2 x1000 hG f b_x1 b_x2 b_x1000 w_0 w_1 w_2 e_x1000 hm => ih s x1 x2 x1000 hG f b_x1 b_x2 b_x1000 w_0 w_1 w_2 e_x1000  hm) (((6 - 0) + 1 : Int)).toNat s3483 x1 x2 0 x1000 hG_s3483 f_s3483 (by first | exact x_rb b_x1 rfl rfl | exact ⟨by omega, by omega⟩) (by first | exact x_rb b_x2 rfl rfl | exact ⟨by omega, by omega⟩) ⟨by decide, by decide⟩ (by first | exact x_rb b_x1000 rfl rfl | exact ⟨by omega, by omega⟩) (by omega) (by omega) FZr_s3483 WRr_s3483 (by rw [q3486]; exact ew_) (by rw [q3487]; exact exN_0) (by rw [q3488]; rfl) (by omega) (q3484).symm (by omega) (by omega)
      · skip
        refine x_A k166_22 (fun _ => rfl) ?_
        refine x_getR k166_23 (f := 15) rfl (q := 256) (n := 62) (kd := 15) ⟨by decide, rfl⟩ (q2 := 268) (by decide) rfl ?_
        refine x_A k166_26 (fun _ => rfl) ?_
        refine x_iald k166_27 (q := 268) (n := 120) ⟨by decide, rfl⟩ (by decide) (by first | exact x_rbl b_x2 rfl rfl | exact ⟨by omega, by omega⟩) ?_
        refine x_rw (e_z3470.symm) ?_
        refine x_istore_n k166_28 (ls' := [(1, vi z3470), (0, .ref 256), (2, vi x2)]) (by decide) rfl ?_
        refine x_A k166_29 (fun _ => rfl) ?_
        refine x_A k166_30 (fun _ => rfl) ?_
        refine x_callV k166_31 (y := 160) (n := 1) (w0 := 0) (w1 := 1) (as := [vi z3470]) (rest := []) (by decide +kernel) (q := 256) (nq := 62) (kq := 15) ⟨by decide, rfl⟩ rfl rfl rfl rfl (xe_mono (E_X11_findRules_256 s hG (hJ0.fl f (by decide)) z3470 (by first | exact x_rbe e_z3470 g_z3470 rfl rfl | exact x_rb g_z3470 rfl rfl | exact ⟨by omega, by omega⟩) (pR.fl f (by decide))) ?_)
        rintro s3490 v ⟨hG_s3490, t_s3490, rfl, xp_z3489⟩
        have f_s3490 : FL [5312, 5376, 4123, 5440, 5504, 5568] s0 s3490 := f.tr t_s3490 (by decide)
        have q3491 : s3490 256 10 = x1000 := (t_s3490 256 10 (show 4107 ∉ [5312, 5376, 4123] from by decide)).trans e_x1000.symm
        have q3492 : s3490 268 x2.toNat = z3470 := (t_s3490 268 x2.toNat (show 4864 ∉ [5312, 5376, 4123] from by decide)).trans e_z3470.symm
        have WRr_s3490 : WRn s3490 s0 x2 := WRn.fl w_2 t_s3490 (by decide)
        show xe none 166 34 [(1, vi z3470), (0, .ref 256), (2, vi x2)] [] s3490 0 0 _
        have fz_ : FrZ s3490 s0 z3470 := FrZ.re xp_z3489 (FL.rre f (by decide))
        have e268_ : s0 268 x2.toNat = z3470 := by rw [← f_s3490 268 _ (show 4864 ∉ [5312, 5376, 4123, 5440, 5504, 5568] from by decide)]; exact q3492
        refine x_A k166_34 (fun _ => rfl) ?_
        refine x_getR k166_35 (f := 27) rfl (q := 256) (n := 62) (kd := 15) ⟨by decide, rfl⟩ (q2 := 277) (by decide) rfl ?_
        refine x_A k166_38 (fun _ => rfl) ?_
        refine x_A k166_39 (fun _ => rfl) ?_
        have ve_ : VE s3490 s0 := FL.ve f_s3490 hG0 (by decide)
        refine x_A k166_40 (fun _ => rfl) ?_
        refine x_callV k166_41 (y := 165) (n := 1) (w0 := 2) (w1 := 1) (as := [vi x2]) (rest := [vi x2, .ref 277]) (by decide +kernel) (q := 256) (nq := 62) (kq := 15) ⟨by decide, rfl⟩ rfl rfl rfl rfl (xe_mono (E_X11_whyWrong_256 s3490 hG_s3490 (hJ0.fl f_s3490 (by decide)) x2 (by first | exact x_rb b_x2 rfl rfl | exact ⟨by omega, by omega⟩) (pR.fl f_s3490 (by decide)) (pT.fl (hG0 256 1).2 f_s3490 (by decide)) (pG1.fl f_s3490 (by decide)) (pG3.fl f_s3490 (by decide)) (by rw [q3492]; exact FrZ.re fz_ (FL.rre f_s3490 (by decide)).sy) (by omega) (fun j j0 j1 => by rw [ve_.wr, (WRr_s3490 j j0 j1).1])) ?_)
        rintro s3494 v ⟨-, t_s3494, z3493, rfl, g_z3493, xp_z3493⟩
        rw [t_s3494.nil]
        try rw [t_s3494.nil] at xp_z3493
        show xe none 166 44 [(1, vi z3470), (0, .ref 256), (2, vi x2)] [vi z3493, vi x2, .ref 277] s3490 0 0 _
        have ew_ : z3493 = wrC s0 x2 := by rw [← ve_.wr]; exact xp_z3493
        refine x_iast k166_44 (q := 277) (n := 120) ⟨by decide, rfl⟩ (by decide) (by first | exact x_rbl b_x2 rfl rfl | exact ⟨by omega, by omega⟩) ?_
        refine x_nh (fun s3495 e_s3495 => ?_)
        have hG_s3495 : GI s3495 := by rw [e_s3495]; exact hG_s3490.up (show 0 ≤ z3493 ∧ z3493 ≤ 4 from (by first | exact x_rbe e_z3493 g_z3493 rfl rfl | exact x_rb g_z3493 rfl rfl | exact ⟨by omega, by omega⟩))
        have f_s3495 : FL [5312, 5376, 4123, 5440, 5504, 5568] s0 s3495 := by rw [e_s3495]; exact f_s3490.up (show 5440 ∈ [5312, 5376, 4123, 5440, 5504, 5568] from by decide)
        have q3496 : s3495 256 10 = x1000 := by rw [e_s3495, x_up_q (by decide)]; exact q3491
        have q3497 : s3495 268 x2.toNat = z3470 := by rw [e_s3495, x_up_q (by first | decide | omega)]; exact q3492
        have q3498 : s3495 277 x2.toNat = z3493 := by rw [e_s3495]; exact x_up_same
        have WRr_s3495 : WRn s3495 s0 x2 := by rw [e_s3495]; exact WRn.st WRr_s3490 (by omega)
        have FZr_s3495 : FrZ s3495 s0 z3470 := by rw [e_s3495]; exact FrZ.up fz_ (show 5440 ∉ [5312, 5376, 4123] from by decide)
        refine x_A k166_45 (fun _ => rfl) ?_
        refine x_getR k166_46 (f := 28) rfl (q := 256) (n := 62) (kd := 15) ⟨by decide, rfl⟩ (q2 := 278) (by decide) rfl ?_
        refine x_A k166_49 (fun _ => rfl) ?_
        refine x_A k166_50 (fun _ => rfl) ?_
        refine x_bast k166_51 (q := 278) (n := 120) ⟨by decide, rfl⟩ (by decide) (by first | exact x_rbl b_x2 rfl rfl | exact ⟨by omega, by omega⟩) ⟨by omega, by omega⟩ ?_
        refine x_nh (fun s3499 e_s3499 => ?_)
        have hG_s3499 : GI s3499 := by rw [e_s3499]; exact hG_s3495.up (show 0 ≤ 0 ∧ 0 ≤ 1 from ⟨by decide, by decide⟩)
        have f_s3499 : FL [5312, 5376, 4123, 5440, 5504, 5568] s0 s3499 := by rw [e_s3499]; exact f_s3495.up (show 5504 ∈ [5312, 5376, 4123, 5440, 5504, 5568] from by decide)
        have q3500 : s3499 256 10 = x1000 := by rw [e_s3499, x_up_q (by decide)]; exact q3496
        have q3501 : s3499 268 x2.toNat = z3470 := by rw [e_s3499, x_up_q (by first | decide | omega)]; exact q3497
        have q3502 : s3499 277 x2.toNat = z3493 := by rw [e_s3499, x_up_q (by first | decide | omega)]; exact q3498
        have q3503 : s3499 278 x2.toNat = 0 := by rw [e_s3499]; exact x_up_same
        have WRr_s3499 : WRn s3499 s0 x2 := by rw [e_s3499]; exact WRn.st WRr_s3495 (by omega)
        have FZr_s3499 : FrZ s3499 s0 z3470 := by rw [e_s3499]; exact FrZ.up FZr_s3495 (show 5504 ∉ [5312, 5376, 4123] from by decide)
        refine x_A k166_52 (fun _ => rfl) ?_
        refine x_getR k166_53 (f := 29) rfl (q := 256) (n := 62) (kd := 15) ⟨by decide, rfl⟩ (q2 := 279) (by decide) rfl ?_
        refine x_A k166_56 (fun _ => rfl) ?_
        refine x_A k166_57 (fun _ => rfl) ?_
        refine x_iast k166_58 (q := 279) (n := 120) ⟨by decide, rfl⟩ (by decide) (by first | exact x_rbl b_x2 rfl rfl | exact ⟨by omega, by omega⟩) ?_
        refine x_nh (fun s3504 e_s3504 => ?_)
        have hG_s3504 : GI s3504 := by rw [e_s3504]; exact hG_s3499.up (show 0 ≤ 0 ∧ 0 ≤ 6 from ⟨by decide, by decide⟩)
        have f_s3504 : FL [5312, 5376, 4123, 5440, 5504, 5568] s0 s3504 := by rw [e_s3504]; exact f_s3499.up (show 5568 ∈ [5312, 5376, 4123, 5440, 5504, 5568] from by decide)
        have q3505 : s3504 256 10 = x1000 := by rw [e_s3504, x_up_q (by decide)]; exact q3500
        have q3506 : s3504 268 x2.toNat = z3470 := by rw [e_s3504, x_up_q (by first | decide | omega)]; exact q3501
        have q3507 : s3504 277 x2.toNat = z3493 := by rw [e_s3504, x_up_q (by first | decide | omega)]; exact q3502
        have q3508 : s3504 278 x2.toNat = 0 := by rw [e_s3504, x_up_q (by first | decide | omega)]; exact q3503
        have q3509 : s3504 279 x2.toNat = 0 := by rw [e_s3504]; exact x_up_same
        have WRr_s3504 : WRn s3504 s0 x2 := by rw [e_s3504]; exact WRn.st WRr_s3499 (by omega)
        have FZr_s3504 : FrZ s3504 s0 z3470 := by rw [e_s3504]; exact FrZ.up FZr_s3499 (show 5568 ∉ [5312, 5376, 4123] from by decide)
        refine x_A k166_59 (fun _ => rfl) ?_
        refine x_istore_n k166_60 (ls' := [(3, vi 0), (1, vi z3470), (0, .ref 256), (2, vi x2)]) (by decide) rfl ?_
        refine x_ls (l := [(0, .ref 256), (1, vi z3470), (2, vi x2), (3, vi 0)]) (show ([0, 1, 2, 3] : List Nat).Nodup from by decide) ⟨rfl, rfl, rfl, rfl, trivial⟩ ?_
        exact L_E_X11_findWrong_256_61 s0 hJ0 hG0 pR pT pG1 pG3 n (fun s x1 x2 x1000 hG f b_x1 b_x2 b_x1000 w_0 w_1 w_2 e_x1000 hm => ih s x1 x2 x1000 hG f b_x1 b_x2 b_x1000 w_0 w_1 w_2 e_x1000  hm) (((6 - 0) + 1 : Int)).toNat s3504 z3470 x2 0 x1000 hG_s3504 f_s3504 (by first | exact x_rbe e_z3470 g_z3470 rfl rfl | exact x_rb g_z3470 rfl rfl | exact ⟨by omega, by omega⟩) (by first | exact x_rb b_x2 rfl rfl | exact ⟨by omega, by omega⟩) ⟨by decide, by decide⟩ (by first | exact x_rb b_x1000 rfl rfl | exact ⟨by omega, by omega⟩) (by omega) (by omega) FZr_s3504 WRr_s3504 (by rw [q3507]; exact ew_) (by rw [q3508]; exact exN_0) (by rw [q3509]; rfl) (by omega) (q3505).symm (by omega) (by omega)
set_option maxHeartbeats 8000000 in
theorem E_X11_findWrong_256 (s0 : xS) (hG0 : GI s0) (hJ0 : J s0) (pR : R1 s0) (pT : TR s0) (pG1 : G1 s0) (pG3 : G3 s0) : xe none 166 0 (lv_args 0 [.ref 256]) [] s0 0 0 (fun s' v => GI s' ∧ FL [5312, 5376, 4123, 5440, 5504, 5568] s0 s' ∧ v = none ∧ (WRn s' s0 (s0 256 10))) := by
  have f0 : FL [5312, 5376, 4123, 5440, 5504, 5568] s0 s0 := FL.rf
  show xe none 166 0 [(0, .ref 256)] [] s0 0 0 _
  refine x_A k166_0 (fun _ => rfl) ?_
  refine x_istore_n k166_1 (ls' := [(1, vi (-1)), (0, .ref 256)]) (by decide) rfl ?_
  refine x_A k166_2 (fun _ => rfl) ?_
  refine x_istore_n k166_3 (ls' := [(2, vi 0), (1, vi (-1)), (0, .ref 256)]) (by decide) rfl ?_
  obtain ⟨z3510, e_z3510⟩ : ∃ z, z = s0 256 10 := ⟨_, rfl⟩
  have g_z3510 : (0 : Int) ≤ s0 256 10 ∧ s0 256 10 ≤ 120 := hG0 256 10
  refine x_ls (l := [(0, .ref 256), (1, vi (-1)), (2, vi 0)]) (show ([0, 1, 2] : List Nat).Nodup from by decide) ⟨rfl, rfl, rfl, trivial⟩ ?_
  exact L_E_X11_findWrong_256_4 s0 hJ0 hG0 pR pT pG1 pG3  (((120 - 0) + 1 : Int)).toNat s0 (-1) 0 z3510 hG0 f0 ⟨by decide, by decide⟩ ⟨by decide, by decide⟩ (by first | exact x_rbe e_z3510 g_z3510 rfl rfl | exact x_rb g_z3510 rfl rfl | exact ⟨by omega, by omega⟩) (by omega) (fun q => by omega) WRn_0 (e_z3510.symm).symm  (by omega)
