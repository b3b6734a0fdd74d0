set_option maxHeartbeats 8000000 in
theorem E_X11_isBeyond_256 (s0 : xS) (hG0 : GI s0) (a : Int) (b_a : 0 ≤ a ∧ a ≤ 39) (b : Int) (b_b : 0 ≤ b ∧ b ≤ 39) (d : Int) (b_d : (-2147483648) ≤ d ∧ d ≤ 2147483647) (e : Int) (b_e : (-2147483648) ≤ e ∧ e ≤ 2147483647) : xe none 207 0 (lv_args 0 [.ref 256, vi a, vi b, vi d, vi e]) [] s0 0 0 (fun s' v => GI s' ∧ FL [4150, 4151, 4152, 4153] s0 s' ∧ ∃ z, v = some (vi z) ∧ (0 ≤ z ∧ z ≤ 1) ∧ (s' 256 53 = rX s0 a d e ∧ s' 256 54 = rX s0 b d e ∧ s' 256 55 = rZ s0 a b d e ∧ s' 256 56 = rN s0 d e ∧ ((z = 1 ∧ jml (rX s0 a d e) (rX s0 b d e) < jml (rZ s0 a b d e) (rN s0 d e)) ∨ (z = 0 ∧ ¬ jml (rX s0 a d e) (rX s0 b d e) < jml (rZ s0 a b d e) (rN s0 d e))))) := by
  have f0 : FL [4150, 4151, 4152, 4153] s0 s0 := FL.rf
  show xe none 207 0 [(0, .ref 256), (1, vi a), (2, vi b), (3, vi d), (4, vi e)] [] s0 0 0 _
  refine x_A k207_0 (fun _ => rfl) ?_
  refine x_A k207_1 (fun _ => rfl) ?_
  refine x_putI k207_2 (f := 53) rfl (q := 256) (n := 62) (kd := 15) ⟨by decide, rfl⟩ rfl rfl rfl ?_
  refine x_nh (fun s3315 e_s3315 => ?_)
  have hG_s3315 : GI s3315 := by rw [e_s3315]; exact hG0.up (show 0 ≤ 0 ∧ 0 ≤ 40 from ⟨by omega, by omega⟩)
  have f_s3315 : FL [4150, 4151, 4152, 4153] s0 s3315 := by rw [e_s3315]; exact f0.up (show 4150 ∈ [4150, 4151, 4152, 4153] from by decide)
  have q3316 : s3315 256 53 = 0 := by rw [e_s3315]; exact x_up_same
  refine x_A k207_5 (fun _ => rfl) ?_
  refine x_A k207_6 (fun _ => rfl) ?_
  refine x_putI k207_7 (f := 54) rfl (q := 256) (n := 62) (kd := 15) ⟨by decide, rfl⟩ rfl rfl rfl ?_
  refine x_nh (fun s3317 e_s3317 => ?_)
  have hG_s3317 : GI s3317 := by rw [e_s3317]; exact hG_s3315.up (show 0 ≤ 0 ∧ 0 ≤ 40 from ⟨by omega, by omega⟩)
  have f_s3317 : FL [4150, 4151, 4152, 4153] s0 s3317 := by rw [e_s3317]; exact f_s3315.up (show 4151 ∈ [4150, 4151, 4152, 4153] from by decide)
  have q3318 : s3317 256 53 = 0 := by rw [e_s3317, x_up_i (by decide)]; exact q3316
  have q3319 : s3317 256 54 = 0 := by rw [e_s3317]; exact x_up_same
  refine x_A k207_10 (fun _ => rfl) ?_
  refine x_A k207_11 (fun _ => rfl) ?_
  refine x_putI k207_12 (f := 55) rfl (q := 256) (n := 62) (kd := 15) ⟨by decide, rfl⟩ rfl rfl rfl ?_
  refine x_nh (fun s3320 e_s3320 => ?_)
  have hG_s3320 : GI s3320 := by rw [e_s3320]; exact hG_s3317.up (show 0 ≤ 0 ∧ 0 ≤ 40 from ⟨by omega, by omega⟩)
  have f_s3320 : FL [4150, 4151, 4152, 4153] s0 s3320 := by rw [e_s3320]; exact f_s3317.up (show 4152 ∈ [4150, 4151, 4152, 4153] from by decide)
  have q3321 : s3320 256 53 = 0 := by rw [e_s3320, x_up_i (by decide)]; exact q3318
  have q3322 : s3320 256 54 = 0 := by rw [e_s3320, x_up_i (by decide)]; exact q3319
  have q3323 : s3320 256 55 = 0 := by rw [e_s3320]; exact x_up_same
  refine x_A k207_15 (fun _ => rfl) ?_
  refine x_A k207_16 (fun _ => rfl) ?_
  refine x_putI k207_17 (f := 56) rfl (q := 256) (n := 62) (kd := 15) ⟨by decide, rfl⟩ rfl rfl rfl ?_
  refine x_nh (fun s3324 e_s3324 => ?_)
  have hG_s3324 : GI s3324 := by rw [e_s3324]; exact hG_s3320.up (show 0 ≤ 0 ∧ 0 ≤ 40 from ⟨by omega, by omega⟩)
  have f_s3324 : FL [4150, 4151, 4152, 4153] s0 s3324 := by rw [e_s3324]; exact f_s3320.up (show 4153 ∈ [4150, 4151, 4152, 4153] from by decide)
  have q3325 : s3324 256 53 = 0 := by rw [e_s3324, x_up_i (by decide)]; exact q3321
  have q3326 : s3324 256 54 = 0 := by rw [e_s3324, x_up_i (by decide)]; exact q3322
  have q3327 : s3324 256 55 = 0 := by rw [e_s3324, x_up_i (by decide)]; exact q3323
  have q3328 : s3324 256 56 = 0 := by rw [e_s3324]; exact x_up_same
  have e6_ : s3324 256 6 = s0 256 6 := f_s3324 256 6 (show 4103 ∉ [4150, 4151, 4152, 4153] from by decide)
  refine x_A k207_20 (fun _ => rfl) ?_
  refine x_istore k207_21 (ls' := [(5, vi 0), (0, .ref 256), (1, vi a), (2, vi b), (3, vi d), (4, vi e)]) (by decide) rfl ?_
  obtain ⟨z3329, e_z3329⟩ : ∃ z, z = s3324 256 6 := ⟨_, rfl⟩
  have g_z3329 : (0 : Int) ≤ s3324 256 6 ∧ s3324 256 6 ≤ 40 := hG_s3324 256 6
  refine x_ls (l := [(0, .ref 256), (1, vi a), (2, vi b), (3, vi d), (4, vi e), (5, vi 0)]) (show ([0, 1, 2, 3, 4, 5] : List Nat).Nodup from by decide) ⟨rfl, rfl, rfl, rfl, rfl, rfl, trivial⟩ ?_
  exact L_E_X11_isBeyond_256_23 s0 a b_a b b_b d b_d e b_e  (((40 - 0) + 1 : Int)).toNat s3324 a b d e 0 0 0 0 0 z3329 hG_s3324 f_s3324 ⟨by omega, by omega⟩ ⟨by omega, by omega⟩ ⟨by omega, by omega⟩ ⟨by omega, by omega⟩ ⟨by omega, by omega⟩ ⟨by omega, by omega⟩ ⟨by omega, by omega⟩ ⟨by omega, by omega⟩ ⟨by omega, by omega⟩ ⟨by omega, by omega⟩ (by omega) (by omega) (by omega) (by omega) (by omega) (by omega) (by omega) (by omega) (by omega) (show _ = _ from rfl) (show _ = _ from rfl) (show _ = _ from rfl) (show _ = _ from rfl) (q3325).symm (q3326).symm (q3327).symm (q3328).symm (e_z3329.symm).symm  (by omega)
set_option maxHeartbeats 8000000 in
theorem E_X11_goesAlong_256 (s0 : xS) (hG0 : GI s0) (hJ0 : J s0) (a : Int) (b_a : 0 ≤ a ∧ a ≤ 39) (b : Int) (b_b : 0 ≤ b ∧ b ≤ 39) (d : Int) (b_d : 0 ≤ d ∧ d ≤ 9) (pT : TR s0) (pG3 : G3 s0) (pY : Y1 s0) (pz : FdZ s0 s0 d) (pa : a < s0 256 1 ∧ b < s0 256 1) : xe none 210 0 (lv_args 0 [.ref 256, vi a, vi b, vi d]) [] s0 0 0 (fun s' v => GI s' ∧ FL [4150, 4151, 4152, 4153] s0 s' ∧ ∃ z, v = some (vi z) ∧ (0 ≤ z ∧ z ≤ 1) ∧ ((z = 1 ∧ alC s0 d a b) ∨ (z = 0 ∧ ¬ alC s0 d a b))) := by
  have f0 : FL [4150, 4151, 4152, 4153] s0 s0 := FL.rf
  show xe none 210 0 [(0, .ref 256), (1, vi a), (2, vi b), (3, vi d)] [] s0 0 0 _
  refine x_A k210_0 (fun _ => rfl) ?_
  refine x_A k210_1 (fun _ => rfl) ?_
  refine x_A k210_2 (fun _ => rfl) ?_
  refine x_A k210_3 (fun _ => rfl) ?_
  refine x_callV k210_4 (y := 209) (n := 3) (w0 := 0) (w1 := 3) (as := [vi a, vi b, vi d]) (rest := []) (by decide +kernel) (q := 256) (nq := 62) (kq := 15) ⟨by decide, rfl⟩ rfl rfl rfl rfl (xe_mono (E_X11_areApart_256 s0 hG0 (hJ0.fl f0 (by decide)) a ⟨by omega, by omega⟩ b ⟨by omega, by omega⟩ d ⟨by omega, by omega⟩ (pT.fl (hG0 256 1).2 f0 (by decide)) (by omega)) ?_)
  rintro s2 v ⟨-, t_s2, z1, rfl, g_z1, xp_z1⟩
  rw [t_s2.nil]
  try rw [t_s2.nil] at xp_z1
  show xe none 210 7 [(0, .ref 256), (1, vi a), (2, vi b), (3, vi d)] [vi z1] s0 0 0 _
  have ap := xp_z1
  refine x_if_eq k210_7 (t := 27) rfl ⟨by omega, by omega⟩ (fun c3 => ?_) (fun c3 => ?_)
  · skip
    refine x_A k210_27 (fun _ => rfl) ?_
    exact x_zret k210_28 rfl ⟨by omega, by omega⟩ ⟨hG0, f0, 0, rfl, ⟨by omega, by omega⟩, (Or.inr ⟨rfl, fun w => (ap.resolve_left (fun q => by omega)).2 w.1⟩)⟩
  · skip
    refine x_A k210_10 (fun _ => rfl) ?_
    refine x_A k210_11 (fun _ => rfl) ?_
    refine x_A k210_12 (fun _ => rfl) ?_
    refine x_A k210_13 (fun _ => rfl) ?_
    refine x_sipush k210_14 (by decide +kernel) ?_
    refine x_callV k210_17 (y := 207) (n := 4) (w0 := 0) (w1 := 4) (as := [vi a, vi b, vi 0, vi 999]) (rest := []) (by decide +kernel) (q := 256) (nq := 62) (kq := 15) ⟨by decide, rfl⟩ rfl rfl rfl rfl (xe_mono (E_X11_isBeyond_256 s0 hG0 a ⟨by omega, by omega⟩ b ⟨by omega, by omega⟩ 0 ⟨by omega, by omega⟩ 999 ⟨by omega, by omega⟩) ?_)
    rintro s5 v ⟨hG_s5, t_s5, z4, rfl, g_z4, xp_z4⟩
    have f_s5 : FL [4150, 4151, 4152, 4153] s0 s5 := f0.tr t_s5 (by decide)
    obtain ⟨z6, e_z6⟩ : ∃ z, z = s5 256 53 := ⟨_, rfl⟩
    have g_z6 : (0 : Int) ≤ s5 256 53 ∧ s5 256 53 ≤ 40 := hG_s5 256 53
    obtain ⟨z7, e_z7⟩ : ∃ z, z = s5 256 54 := ⟨_, rfl⟩
    have g_z7 : (0 : Int) ≤ s5 256 54 ∧ s5 256 54 ≤ 40 := hG_s5 256 54
    obtain ⟨z8, e_z8⟩ : ∃ z, z = s5 256 55 := ⟨_, rfl⟩
    have g_z8 : (0 : Int) ≤ s5 256 55 ∧ s5 256 55 ≤ 40 := hG_s5 256 55
    obtain ⟨z9, e_z9⟩ : ∃ z, z = s5 256 56 := ⟨_, rfl⟩
    have g_z9 : (0 : Int) ≤ s5 256 56 ∧ s5 256 56 ≤ 40 := hG_s5 256 56
    show xe none 210 20 [(0, .ref 256), (1, vi a), (2, vi b), (3, vi d)] [vi z4] s5 0 0 _
    have be := xp_z4.2.2.2.2
    rw [al_ref pz pY pG3 hG0 rfl rfl b_a b_b] at be
    refine x_if_eq k210_20 (t := 27) rfl ⟨by omega, by omega⟩ (fun c10 => ?_) (fun c10 => ?_)
    · skip
      refine x_A k210_27 (fun _ => rfl) ?_
      exact x_zret k210_28 rfl ⟨by omega, by omega⟩ ⟨hG_s5, f_s5, 0, rfl, ⟨by omega, by omega⟩, (Or.inr ⟨rfl, fun w => (be.resolve_left (fun q => by omega)).2 w.2⟩)⟩
    · skip
      refine x_A k210_23 (fun _ => rfl) ?_
      refine x_goto k210_24 (t := 28) rfl ?_
      exact x_zret k210_28 rfl ⟨by omega, by omega⟩ ⟨hG_s5, f_s5, 1, rfl, ⟨by omega, by omega⟩, (Or.inl ⟨rfl, (ap.resolve_right (fun q => by omega)).2, (be.resolve_right (fun q => by omega)).2⟩)⟩
