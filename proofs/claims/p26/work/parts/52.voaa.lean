set_option maxHeartbeats 8000000 in
theorem E_X11_areApart_256 (s0 : xS) (hG0 : GI s0) (hJ0 : J s0) (a : Int) (b_a : 0 ≤ a ∧ a ≤ 39) (b : Int) (b_b : 0 ≤ b ∧ b ≤ 39) (d : Int) (b_d : 0 ≤ d ∧ d ≤ 9) (pT : TR s0) (pa : a < s0 256 1 ∧ b < s0 256 1) : xe none 209 0 (lv_args 0 [.ref 256, vi a, vi b, vi d]) [] s0 0 0 (fun s' v => GI s' ∧ FL [] s0 s' ∧ ∃ z, v = some (vi z) ∧ (0 ≤ z ∧ z ≤ 1) ∧ ((z = 1 ∧ apC s0 d a b) ∨ (z = 0 ∧ ¬ apC s0 d a b))) := by
  have f0 : FL [] s0 s0 := FL.rf
  show xe none 209 0 [(0, .ref 256), (1, vi a), (2, vi b), (3, vi d)] [] s0 0 0 _
  refine x_A k209_0 (fun _ => rfl) ?_
  refine x_A k209_1 (fun _ => rfl) ?_
  refine x_A k209_2 (fun _ => rfl) ?_
  obtain ⟨z1, e_z1⟩ : ∃ z, z = s0 256 1 := ⟨_, rfl⟩
  have g_z1 : (1 : Int) ≤ s0 256 1 ∧ s0 256 1 ≤ 40 := hG0 256 1
  refine x_callV k209_3 (y := 142) (n := 2) (w0 := 0) (w1 := 2) (as := [vi b, vi d]) (rest := []) (by decide +kernel) (q := 256) (nq := 62) (kq := 15) ⟨by decide, rfl⟩ rfl rfl rfl rfl (xe_mono (C_X11_isThere_256 s0 hG0 b ⟨by omega, by omega⟩ d ⟨by omega, by omega⟩) ?_)
  rintro s3 v ⟨h_s3, z2, rfl, hz_z2⟩
  rw [h_s3]
  rcases hz_z2 with ⟨c_z2, e_z2, m_z2⟩ | ⟨e_z2, m_z2⟩
  · rw [e_z2]
    show xe none 209 6 [(0, .ref 256), (1, vi a), (2, vi b), (3, vi d)] [vi 1] s0 0 0 _
    have f57_ := f0 257 b.toNat (show 4160 ∉ [] from by decide)
    have f58_ := f0 258 b.toNat (show 4224 ∉ [] from by decide)
    have f1_ := f0 256 1 (show 4098 ∉ [] from by decide)
    have t14_ := pT.1.2.1
    have th : thC s0 d b := (pT.1.th hG0 _ _).mpr ⟨⟨by omega, by omega⟩, by omega, by omega⟩
    refine x_if_eq k209_6 (t := 33) rfl ⟨by omega, by omega⟩ (fun c4 => by exfalso; omega) (fun c4 => ?_)
    refine x_A k209_9 (fun _ => rfl) ?_
    refine x_A k209_10 (fun _ => rfl) ?_
    refine x_A k209_11 (fun _ => rfl) ?_
    refine x_A k209_12 (fun _ => rfl) ?_
    refine x_callV k209_13 (y := 143) (n := 3) (w0 := 0) (w1 := 3) (as := [vi b, vi a, vi d]) (rest := []) (by decide +kernel) (q := 256) (nq := 62) (kq := 15) ⟨by decide, rfl⟩ rfl rfl rfl rfl (xe_mono (E_X11_isBelow_256 s0 hG0 (hJ0.fl f0 (by decide)) b ⟨by omega, by omega⟩ a ⟨by omega, by omega⟩ d ⟨by omega, by omega⟩) ?_)
    rintro s6 v ⟨-, t_s6, z5, rfl, g_z5, xp_z5⟩
    rw [t_s6.nil]
    try rw [t_s6.nil] at xp_z5
    show xe none 209 16 [(0, .ref 256), (1, vi a), (2, vi b), (3, vi d)] [vi z5] s0 0 0 _
    have be1 := xp_z5
    rw [TR.bel pT hJ0 hG0 b_d th.td (by omega)] at be1
    refine x_if_ne k209_16 (t := 33) rfl ⟨by omega, by omega⟩ (fun c7 => ?_) (fun c7 => ?_)
    · skip
      refine x_A k209_33 (fun _ => rfl) ?_
      exact x_zret k209_34 rfl ⟨by omega, by omega⟩ ⟨hG0, f0, 0, rfl, ⟨by omega, by omega⟩, (Or.inr ⟨rfl, fun w => w.2.1 (be1.resolve_right (fun q => by omega)).2⟩)⟩
    · skip
      refine x_A k209_19 (fun _ => rfl) ?_
      refine x_A k209_20 (fun _ => rfl) ?_
      refine x_A k209_21 (fun _ => rfl) ?_
      refine x_A k209_22 (fun _ => rfl) ?_
      refine x_callV k209_23 (y := 143) (n := 3) (w0 := 0) (w1 := 3) (as := [vi a, vi b, vi d]) (rest := []) (by decide +kernel) (q := 256) (nq := 62) (kq := 15) ⟨by decide, rfl⟩ rfl rfl rfl rfl (xe_mono (E_X11_isBelow_256 s0 hG0 (hJ0.fl f0 (by decide)) a ⟨by omega, by omega⟩ b ⟨by omega, by omega⟩ d ⟨by omega, by omega⟩) ?_)
      rintro s9 v ⟨-, t_s9, z8, rfl, g_z8, xp_z8⟩
      rw [t_s9.nil]
      try rw [t_s9.nil] at xp_z8
      show xe none 209 26 [(0, .ref 256), (1, vi a), (2, vi b), (3, vi d)] [vi z8] s0 0 0 _
      have be2 := xp_z8
      rw [TR.bel2 pT hJ0 hG0 b_d ⟨by omega, by omega⟩ th] at be2
      refine x_if_ne k209_26 (t := 33) rfl ⟨by omega, by omega⟩ (fun c10 => ?_) (fun c10 => ?_)
      · skip
        refine x_A k209_33 (fun _ => rfl) ?_
        exact x_zret k209_34 rfl ⟨by omega, by omega⟩ ⟨hG0, f0, 0, rfl, ⟨by omega, by omega⟩, (Or.inr ⟨rfl, fun w => w.2.2 (be2.resolve_right (fun q => by omega)).2⟩)⟩
      · skip
        refine x_A k209_29 (fun _ => rfl) ?_
        refine x_goto k209_30 (t := 34) rfl ?_
        exact x_zret k209_34 rfl ⟨by omega, by omega⟩ ⟨hG0, f0, 1, rfl, ⟨by omega, by omega⟩, (Or.inl ⟨rfl, th, (be1.resolve_left (fun q => by omega)).2, (be2.resolve_left (fun q => by omega)).2⟩)⟩
  · rw [e_z2]
    show xe none 209 6 [(0, .ref 256), (1, vi a), (2, vi b), (3, vi d)] [vi 0] s0 0 0 _
    have f57_ := f0 257 b.toNat (show 4160 ∉ [] from by decide)
    have f58_ := f0 258 b.toNat (show 4224 ∉ [] from by decide)
    have f1_ := f0 256 1 (show 4098 ∉ [] from by decide)
    have t14_ := pT.1.2.1
    have nth : ¬ thC s0 d b := fun q => by have w := (pT.1.th hG0 _ _).mp q; omega
    refine x_if_eq k209_6 (t := 33) rfl ⟨by omega, by omega⟩ (fun c11 => ?_) (fun c11 => by exfalso; omega)
    refine x_A k209_33 (fun _ => rfl) ?_
    exact x_zret k209_34 rfl ⟨by omega, by omega⟩ ⟨hG0, f0, 0, rfl, ⟨by omega, by omega⟩, (Or.inr ⟨rfl, fun w => nth w.1⟩)⟩
