set_option maxHeartbeats 8000000 in
theorem L_E_X8_showingAny_243_5 (s0 : xS) (a : Int) (b_a : in64 a)  : ∀ (n : Nat) (s : xS) (x1 : Int) (x3 : Int) (x5 : Int) (hG : GI s) (f : FL [] s0 s) (b_x1 : in64 x1) (b_x3 : in64 x3) (b_x5 : 0 ≤ x5 ∧ x5 ≤ 40) (w_0 : x1 = a ∧ x5 ≤ 40) (w_1 : ∀ k : Nat, k < 64 → (bt x3 k = true ↔ (k : Int) < x5 ∧ (fun k : Nat => ∃ j : Nat, j < 64 ∧ bt (s0 255 k) j = true ∧ bt a j = true) k))  (hm : (40 - x5) < (n : Int)), xe none 80 5 [(0, .ref 243), (1, vj x1), (3, vj x3), (5, vi x5)] [] s 0 0 (fun s' v => GI s' ∧ FL [] s0 s' ∧ ∃ z, v = some (vj z) ∧ in64 z ∧ (∀ k : Nat, k < 64 → (bt z k = true ↔ (k : Int) < 40 ∧ ∃ j : Nat, j < 64 ∧ bt (s0 255 k) j = true ∧ bt a j = true))) := by
  intro n
  induction n with
  | zero => intro s x1 x3 x5 hG f b_x1 b_x3 b_x5 w_0 w_1  hm; exfalso; omega
  | succ n ih =>
    intro s x1 x3 x5 hG f b_x1 b_x3 b_x5 w_0 w_1  hm
    refine x_A k80_5 (fun _ => rfl) ?_
    refine x_bipush k80_7 (by decide +kernel) ?_
    refine x_ic_ge k80_9 (t := 39) rfl ⟨by omega, by omega⟩ ⟨by omega, by omega⟩ (fun c85 => ?_) (fun c85 => ?_)
    · skip
      refine x_A k80_39 (fun _ => rfl) ?_
      exact x_lret k80_40 rfl ⟨hG, f, x3, rfl, b_x3, (fun k hk => by rw [show (40 : Int) = x5 by omega]; exact w_1 k hk)⟩
    · skip
      refine x_A k80_12 (fun _ => rfl) ?_
      refine x_getR k80_13 (f := 10) rfl (q := 243) (n := 13) (kd := 13) ⟨by decide, rfl⟩ (q2 := 255) (by decide) rfl ?_
      refine x_A k80_16 (fun _ => rfl) ?_
      refine x_lald k80_18 (q := 255) (n := 40) ⟨by decide, rfl⟩ (by decide) ⟨by omega, by omega⟩ ?_
      refine x_topL (fun z86 e_z86 => ?_)
      have b_z86 : in64 z86 := by rw [e_z86]; exact hG 255 x5.toNat
      refine x_A k80_19 (fun _ => rfl) ?_
      refine x_land_b k80_20 (fun z87 b_z87 g_z87 => ?_)
      refine x_lconst k80_21 (z := 0) (by decide +kernel) ?_
      refine x_lc_eq k80_22 k80_23 (t := 33) rfl b_z87 ⟨by omega, by omega⟩ (fun c88 => ?_) (fun c88 => ?_)
      · skip
        refine x_iinc k80_33 (ls' := [(5, vi (x5 + 1)), (0, .ref 243), (1, vj x1), (3, vj x3)]) rfl (by decide) rfl ?_
        refine x_goto k80_36 (t := 5) rfl ?_
        refine x_ls (l := [(0, .ref 243), (1, vj x1), (3, vj x3), (5, vi (x5 + 1))]) (show ([0, 1, 3, 5] : List Nat).Nodup from by decide) ⟨rfl, rfl, rfl, rfl, trivial⟩ ?_
        exact ih s x1 x3 (x5 + 1) hG f b_x1 b_x3 ⟨by omega, by omega⟩ (by omega) (sa_no (P := (fun k : Nat => ∃ j : Nat, j < 64 ∧ bt (s0 255 k) j = true ∧ bt a j = true)) (by omega) w_1 (by show ¬ ∃ j : Nat, j < 64 ∧ bt (s0 255 x5.toNat) j = true ∧ bt a j = true; rw [← f.nil, ← e_z86, ← show x1 = a by omega]; exact ((bt_mt b_z87 g_z87).resolve_right (fun q => by omega)).2))  (by omega)
      · skip
        refine x_A k80_26 (fun _ => rfl) ?_
        refine x_lconst k80_27 (z := 1) (by decide +kernel) ?_
        refine x_A k80_28 (fun _ => rfl) ?_
        refine x_lshl1 k80_30 ⟨by omega, by omega⟩ (fun z89 b_z89 g_z89 => ?_)
        refine x_lor_b k80_31 (fun z90 b_z90 g_z90 => ?_)
        refine x_lstore_n k80_32 (ls' := [(3, vj z90), (0, .ref 243), (1, vj x1), (5, vi x5)]) (by decide) rfl ?_
        refine x_iinc k80_33 (ls' := [(5, vi (x5 + 1)), (3, vj z90), (0, .ref 243), (1, vj x1)]) rfl (by decide) rfl ?_
        refine x_goto k80_36 (t := 5) rfl ?_
        refine x_ls (l := [(0, .ref 243), (1, vj x1), (3, vj z90), (5, vi (x5 + 1))]) (show ([0, 1, 3, 5] : List Nat).Nodup from by decide) ⟨rfl, rfl, rfl, rfl, trivial⟩ ?_
        exact ih s x1 z90 (x5 + 1) hG f b_x1 b_z90 ⟨by omega, by omega⟩ (by omega) (sa_yes (P := (fun k : Nat => ∃ j : Nat, j < 64 ∧ bt (s0 255 k) j = true ∧ bt a j = true)) (by omega) w_1 g_z89 g_z90 (by show ∃ j : Nat, j < 64 ∧ bt (s0 255 x5.toNat) j = true ∧ bt a j = true; rw [← f.nil, ← e_z86, ← show x1 = a by omega]; exact ((bt_mt b_z87 g_z87).resolve_left (fun q => by omega)).2))  (by omega)
set_option maxHeartbeats 8000000 in
theorem E_X8_showingAny_243 (s0 : xS) (hG0 : GI s0) (a : Int) (b_a : in64 a) : xe none 80 0 (lv_args 0 [.ref 243, vj a]) [] s0 0 0 (fun s' v => GI s' ∧ FL [] s0 s' ∧ ∃ z, v = some (vj z) ∧ in64 z ∧ (∀ k : Nat, k < 64 → (bt z k = true ↔ (k : Int) < 40 ∧ ∃ j : Nat, j < 64 ∧ bt (s0 255 k) j = true ∧ bt a j = true))) := by
  have f0 : FL [] s0 s0 := FL.rf
  show xe none 80 0 [(0, .ref 243), (1, vj a)] [] s0 0 0 _
  refine x_lconst k80_0 (z := 0) (by decide +kernel) ?_
  refine x_lstore_n k80_1 (ls' := [(3, vj 0), (0, .ref 243), (1, vj a)]) (by decide) rfl ?_
  refine x_A k80_2 (fun _ => rfl) ?_
  refine x_istore k80_3 (ls' := [(5, vi 0), (3, vj 0), (0, .ref 243), (1, vj a)]) (by decide) rfl ?_
  refine x_ls (l := [(0, .ref 243), (1, vj a), (3, vj 0), (5, vi 0)]) (show ([0, 1, 3, 5] : List Nat).Nodup from by decide) ⟨rfl, rfl, rfl, rfl, trivial⟩ ?_
  exact L_E_X8_showingAny_243_5 s0 a b_a  (((40 - 0) + 1 : Int)).toNat s0 a 0 0 hG0 f0 b_a ⟨by omega, by omega⟩ ⟨by omega, by omega⟩ (by omega) sa_0  (by omega)
set_option maxHeartbeats 8000000 in
theorem E_X8_showing_243 (s0 : xS) (hG0 : GI s0) (a : Int) (b_a : 0 ≤ a ∧ a ≤ 39) : xe none 79 0 (lv_args 0 [.ref 243, vi a]) [] s0 0 0 (fun s' v => GI s' ∧ FL [] s0 s' ∧ ∃ z, v = some (vj z) ∧ in64 z ∧ (∀ k : Nat, k < 64 → (bt z k = true ↔ (k : Int) < 40 ∧ bt (s0 255 k) a.toNat = true))) := by
  have f0 : FL [] s0 s0 := FL.rf
  show xe none 79 0 [(0, .ref 243), (1, vi a)] [] s0 0 0 _
  refine x_A k79_0 (fun _ => rfl) ?_
  refine x_lconst k79_1 (z := 1) (by decide +kernel) ?_
  refine x_A k79_2 (fun _ => rfl) ?_
  refine x_lshl1 k79_3 ⟨by omega, by omega⟩ (fun z1 b_z1 g_z1 => ?_)
  refine x_callV k79_4 (y := 80) (n := 1) (w0 := 0) (w1 := 2) (as := [vj z1]) (rest := []) (by decide +kernel) (q := 243) (nq := 13) (kq := 13) ⟨by decide, rfl⟩ rfl rfl rfl rfl (xe_mono (E_X8_showingAny_243 s0 hG0 z1 b_z1) ?_)
  rintro s3 v ⟨-, t_s3, z2, rfl, b_z2, xp_z2⟩
  rw [t_s3.nil]
  try rw [t_s3.nil] at xp_z2
  show xe none 79 7 [(0, .ref 243), (1, vi a)] [vj z2] s0 0 0 _
  exact x_lret k79_7 rfl ⟨hG0, f0, z2, rfl, b_z2, (fun k hk => (xp_z2 k hk).trans (and_congr Iff.rfl ⟨fun ⟨j, hj, w1, w2⟩ => by rw [g_z1 j hj, decide_eq_true_eq] at w2; rw [← w2]; exact w1, fun w => ⟨a.toNat, by omega, w, by rw [g_z1 _ (by omega), decide_eq_true_eq]⟩⟩))⟩
set_option maxHeartbeats 8000000 in
theorem E_X10_isApart_0 (s0 : xS) (hG0 : GI s0) (a : Int) (b_a : (-2147483648) ≤ a ∧ a ≤ 2147483647) (b : Int) (b_b : (-2147483648) ≤ b ∧ b ≤ 2147483647) (d : Int) (b_d : (-2147483648) ≤ d ∧ d ≤ 2147483647) (pa : (0 ≤ a ∧ a < s0 1 4) ∧ 0 ≤ b ∧ b < s0 1 4) : xe none 131 0 (lv_args 0 [.ref 0, vi a, vi b, vi d]) [] s0 0 0 (fun s' v => GI s' ∧ FL [] s0 s' ∧ ∃ z, v = some (vi z) ∧ (0 ≤ z ∧ z ≤ 1) ∧ ((z = 1 ∧ apC s0 d b a) ∨ (z = 0 ∧ ¬ apC s0 d b a))) := by
  have f0 : FL [] s0 s0 := FL.rf
  show xe none 131 0 [(0, .ref 0), (1, vi a), (2, vi b), (3, vi d)] [] s0 0 0 _
  refine x_A k131_0 (fun _ => rfl) ?_
  refine x_getR k131_1 (f := 0) rfl (q := 0) (n := 12) (kd := 3) ⟨by decide, rfl⟩ (q2 := 1) (by decide) rfl ?_
  refine x_A k131_4 (fun _ => rfl) ?_
  refine x_A k131_5 (fun _ => rfl) ?_
  obtain ⟨z1, e_z1⟩ : ∃ z, z = s0 1 4 := ⟨_, rfl⟩
  have g_z1 : (1 : Int) ≤ s0 1 4 ∧ s0 1 4 ≤ 40 := hG0 1 4
  refine x_callV k131_6 (y := 64) (n := 2) (w0 := 0) (w1 := 2) (as := [vi a, vi d]) (rest := []) (by decide +kernel) (q := 1) (nq := 5) (kq := 4) ⟨by decide, rfl⟩ rfl rfl rfl rfl (xe_mono (E_X7_isThere_1 s0 hG0 a ⟨by omega, by omega⟩ d ⟨by omega, by omega⟩) ?_)
  rintro s3 v ⟨h_s3, z2, rfl, hz_z2⟩
  rw [h_s3]
  rcases hz_z2 with ⟨c_z2, e_z2, m_z2⟩ | ⟨e_z2, m_z2⟩
  · rw [e_z2]
    show xe none 131 9 [(0, .ref 0), (1, vi a), (2, vi b), (3, vi d)] [vi 1] s0 0 0 _
    have th : thC s0 d a := ⟨by omega, by omega⟩
    refine x_if_eq k131_9 (t := 42) rfl ⟨by omega, by omega⟩ (fun c4 => by exfalso; omega) (fun c4 => ?_)
    refine x_A k131_12 (fun _ => rfl) ?_
    refine x_getR k131_13 (f := 0) rfl (q := 0) (n := 12) (kd := 3) ⟨by decide, rfl⟩ (q2 := 1) (by decide) rfl ?_
    refine x_A k131_16 (fun _ => rfl) ?_
    refine x_A k131_17 (fun _ => rfl) ?_
    refine x_A k131_18 (fun _ => rfl) ?_
    refine x_callV k131_19 (y := 66) (n := 3) (w0 := 0) (w1 := 3) (as := [vi a, vi b, vi d]) (rest := []) (by decide +kernel) (q := 1) (nq := 5) (kq := 4) ⟨by decide, rfl⟩ rfl rfl rfl rfl (xe_mono (E_X7_isBelow_1 s0 hG0 a ⟨by omega, by omega⟩ b ⟨by omega, by omega⟩ d ⟨by omega, by omega⟩) ?_)
    rintro s6 v ⟨-, t_s6, z5, rfl, g_z5, xp_z5⟩
    rw [t_s6.nil]
    try rw [t_s6.nil] at xp_z5
    show xe none 131 22 [(0, .ref 0), (1, vi a), (2, vi b), (3, vi d)] [vi z5] s0 0 0 _
    have be1 := xp_z5
    refine x_if_ne k131_22 (t := 42) rfl ⟨by omega, by omega⟩ (fun c7 => ?_) (fun c7 => ?_)
    · skip
      refine x_A k131_42 (fun _ => rfl) ?_
      exact x_zret k131_43 rfl ⟨by omega, by omega⟩ ⟨hG0, f0, 0, rfl, ⟨by omega, by omega⟩, (Or.inr ⟨rfl, fun w => w.2.1 (be1.resolve_right (fun q => by omega)).2.2⟩)⟩
    · skip
      refine x_A k131_25 (fun _ => rfl) ?_
      refine x_getR k131_26 (f := 0) rfl (q := 0) (n := 12) (kd := 3) ⟨by decide, rfl⟩ (q2 := 1) (by decide) rfl ?_
      refine x_A k131_29 (fun _ => rfl) ?_
      refine x_A k131_30 (fun _ => rfl) ?_
      refine x_A k131_31 (fun _ => rfl) ?_
      refine x_callV k131_32 (y := 66) (n := 3) (w0 := 0) (w1 := 3) (as := [vi b, vi a, vi d]) (rest := []) (by decide +kernel) (q := 1) (nq := 5) (kq := 4) ⟨by decide, rfl⟩ rfl rfl rfl rfl (xe_mono (E_X7_isBelow_1 s0 hG0 b ⟨by omega, by omega⟩ a ⟨by omega, by omega⟩ d ⟨by omega, by omega⟩) ?_)
      rintro s9 v ⟨-, t_s9, z8, rfl, g_z8, xp_z8⟩
      rw [t_s9.nil]
      try rw [t_s9.nil] at xp_z8
      show xe none 131 35 [(0, .ref 0), (1, vi a), (2, vi b), (3, vi d)] [vi z8] s0 0 0 _
      have be2 := xp_z8
      refine x_if_ne k131_35 (t := 42) rfl ⟨by omega, by omega⟩ (fun c10 => ?_) (fun c10 => ?_)
      · skip
        refine x_A k131_42 (fun _ => rfl) ?_
        exact x_zret k131_43 rfl ⟨by omega, by omega⟩ ⟨hG0, f0, 0, rfl, ⟨by omega, by omega⟩, (Or.inr ⟨rfl, fun w => w.2.2 (be2.resolve_right (fun q => by omega)).2.2⟩)⟩
      · skip
        refine x_A k131_38 (fun _ => rfl) ?_
        refine x_goto k131_39 (t := 43) rfl ?_
        exact x_zret k131_43 rfl ⟨by omega, by omega⟩ ⟨hG0, f0, 1, rfl, ⟨by omega, by omega⟩, (Or.inl ⟨rfl, th, fun w => (be1.resolve_left (fun q => by omega)).2 ⟨by omega, w⟩, fun w => (be2.resolve_left (fun q => by omega)).2 ⟨by omega, w⟩⟩)⟩
  · rw [e_z2]
    show xe none 131 9 [(0, .ref 0), (1, vi a), (2, vi b), (3, vi d)] [vi 0] s0 0 0 _
    have nth : ¬ thC s0 d a := fun q => m_z2 ⟨q.1.1, q.1.2, q.2⟩
    refine x_if_eq k131_9 (t := 42) rfl ⟨by omega, by omega⟩ (fun c11 => ?_) (fun c11 => by exfalso; omega)
    refine x_A k131_42 (fun _ => rfl) ?_
    exact x_zret k131_43 rfl ⟨by omega, by omega⟩ ⟨hG0, f0, 0, rfl, ⟨by omega, by omega⟩, (Or.inr ⟨rfl, fun w => nth w.1⟩)⟩
set_option maxHeartbeats 8000000 in
theorem E_X10_isBeyondChance (s0 : xS) (hG0 : GI s0) (a : Int) (b_a : in64 a) (b : Int) (b_b : in64 b) (d : Int) (b_d : (-2147483648) ≤ d ∧ d ≤ 2147483647) : xe none 130 0 (lv_args 0 [vj a, vj b, vi d]) [] s0 0 0 (fun s' v => GI s' ∧ FL [] s0 s' ∧ ∃ z, v = some (vi z) ∧ (0 ≤ z ∧ z ≤ 1) ∧ ((z = 1 ∧ jml (ctp (fun k => bt a k = true) 64) (ctp (fun k => bt b k = true) 64) < jml (ctp (fun k => bt a k = true ∧ bt b k = true) 64) d) ∨ (z = 0 ∧ ¬ jml (ctp (fun k => bt a k = true) 64) (ctp (fun k => bt b k = true) 64) < jml (ctp (fun k => bt a k = true ∧ bt b k = true) 64) d))) := by
  have f0 : FL [] s0 s0 := FL.rf
  show xe none 130 0 [(0, vj a), (2, vj b), (4, vi d)] [] s0 0 0 _
  refine x_A k130_0 (fun _ => rfl) ?_
  refine x_A k130_1 (fun _ => rfl) ?_
  refine x_land_b k130_2 (fun z1 b_z1 g_z1 => ?_)
  refine x_callS k130_3 (y := 219) (n := 1) (w0 := 0) (w1 := 2) (as := [vj z1]) (rest := []) (by decide +kernel) rfl rfl rfl rfl (xe_mono (E_J13_bitCount_95d88 s0 hG0 z1 b_z1) ?_)
  rintro s3 v ⟨-, t_s3, z2, rfl, g_z2, xp_z2⟩
  rw [t_s3.nil]
  try rw [t_s3.nil] at xp_z2
  show xe none 130 6 [(0, vj a), (2, vj b), (4, vi d)] [vi z2] s0 0 0 _
  refine x_A k130_6 (fun _ => rfl) ?_
  refine x_imul_f k130_8 (fun z4 g_z4 e_z4 => ?_)
  unfold in32 at g_z4
  refine x_A k130_9 (fun _ => rfl) ?_
  refine x_callS k130_10 (y := 219) (n := 1) (w0 := 1) (w1 := 2) (as := [vj a]) (rest := [vi z4]) (by decide +kernel) rfl rfl rfl rfl (xe_mono (E_J13_bitCount_95d88 s0 hG0 a b_a) ?_)
  rintro s6 v ⟨-, t_s6, z5, rfl, g_z5, xp_z5⟩
  rw [t_s6.nil]
  try rw [t_s6.nil] at xp_z5
  show xe none 130 13 [(0, vj a), (2, vj b), (4, vi d)] [vi z5, vi z4] s0 0 0 _
  refine x_A k130_13 (fun _ => rfl) ?_
  refine x_callS k130_14 (y := 219) (n := 1) (w0 := 2) (w1 := 2) (as := [vj b]) (rest := [vi z5, vi z4]) (by decide +kernel) rfl rfl rfl rfl (xe_mono (E_J13_bitCount_95d88 s0 hG0 b b_b) ?_)
  rintro s8 v ⟨-, t_s8, z7, rfl, g_z7, xp_z7⟩
  rw [t_s8.nil]
  try rw [t_s8.nil] at xp_z7
  show xe none 130 17 [(0, vj a), (2, vj b), (4, vi d)] [vi z7, vi z5, vi z4] s0 0 0 _
  refine x_imul_f k130_17 (fun z9 g_z9 e_z9 => ?_)
  unfold in32 at g_z9
  refine x_ic_le k130_18 (t := 25) rfl ⟨by omega, by omega⟩ ⟨by omega, by omega⟩ (fun c10 => ?_) (fun c10 => ?_)
  · skip
    refine x_A k130_25 (fun _ => rfl) ?_
    exact x_zret k130_26 rfl ⟨by omega, by omega⟩ ⟨hG0, f0, 0, rfl, ⟨by omega, by omega⟩, (by have q0 : z2 = ctp (fun k => bt a k = true ∧ bt b k = true) 64 := xp_z2.trans (ctp_cg 64 (fun k _ => by rw [g_z1 k, Bool.and_eq_true])); have q1 := xp_z5; have q2 := xp_z7; rw [← q0, ← q1, ← q2]; exact Or.inr ⟨rfl, by omega⟩)⟩
  · skip
    refine x_A k130_21 (fun _ => rfl) ?_
    refine x_goto k130_22 (t := 26) rfl ?_
    exact x_zret k130_26 rfl ⟨by omega, by omega⟩ ⟨hG0, f0, 1, rfl, ⟨by omega, by omega⟩, (by have q0 : z2 = ctp (fun k => bt a k = true ∧ bt b k = true) 64 := xp_z2.trans (ctp_cg 64 (fun k _ => by rw [g_z1 k, Bool.and_eq_true])); have q1 := xp_z5; have q2 := xp_z7; rw [← q0, ← q1, ← q2]; exact Or.inl ⟨rfl, by omega⟩)⟩
set_option maxHeartbeats 8000000 in
theorem L_E_X10_goingAlong_0_15 (s0 : xS) (hG0 : GI s0) (a : Int) (b_a : 0 ≤ a ∧ a ≤ 39) (b : Int) (b_b : (-2147483648) ≤ b ∧ b ≤ 2147483647) (pl : VL s0 s0 b) (pa : a < s0 1 4)  : ∀ (n : Nat) (s : xS) (x1 : Int) (x2 : Int) (x3 : Int) (x5 : Int) (x7 : Int) (x1000 : Int) (x1001 : Int) (hG : GI s) (f : FL [] s0 s) (b_x1 : 0 ≤ x1 ∧ x1 ≤ 39) (b_x2 : (-2147483648) ≤ x2 ∧ x2 ≤ 2147483647) (b_x3 : in64 x3) (b_x5 : in64 x5) (b_x7 : 0 ≤ x7 ∧ x7 ≤ 40) (b_x1000 : 1 ≤ x1000 ∧ x1000 ≤ 40) (b_x1001 : 0 ≤ x1001 ∧ x1001 ≤ 40) (r_7_1000 : x7 ≤ x1000 + 0) (w_0 : x1 = a ∧ x2 = b ∧ x1000 = s0 1 4 ∧ x7 ≤ x1000 ∧ x1001 = s0 46 3) (w_1 : ∀ k : Nat, k < 64 → (bt x5 k = true ↔ (k : Int) < x7 ∧ (fun k : Nat => alC s0 b a (k : Int)) k)) (w_2 : ∀ k : Nat, k < 64 → (bt x3 k = true ↔ shC s0 b k a)) (e_x1000 : x1000 = s 1 4) (e_x1001 : x1001 = s 46 3)  (hm : (40 - x7) < (n : Int)), xe none 132 15 [(0, .ref 0), (1, vi x1), (2, vi x2), (3, vj x3), (5, vj x5), (7, vi x7)] [] s 0 0 (fun s' v => GI s' ∧ FL [] s0 s' ∧ ∃ z, v = some (vj z) ∧ in64 z ∧ (∀ k : Nat, k < 64 → (bt z k = true ↔ (k : Int) < s0 1 4 ∧ alC s0 b a (k : Int)))) := by
  intro n
  induction n with
  | zero => intro s x1 x2 x3 x5 x7 x1000 x1001 hG f b_x1 b_x2 b_x3 b_x5 b_x7 b_x1000 b_x1001 r_7_1000 w_0 w_1 w_2 e_x1000 e_x1001  hm; exfalso; omega
  | succ n ih =>
    intro s x1 x2 x3 x5 x7 x1000 x1001 hG f b_x1 b_x2 b_x3 b_x5 b_x7 b_x1000 b_x1001 r_7_1000 w_0 w_1 w_2 e_x1000 e_x1001  hm
    refine x_A k132_15 (fun _ => rfl) ?_
    refine x_A k132_17 (fun _ => rfl) ?_
    refine x_getR k132_18 (f := 0) rfl (q := 0) (n := 12) (kd := 3) ⟨by decide, rfl⟩ (q2 := 1) (by decide) rfl ?_
    refine x_getI k132_21 (f := 4) rfl (q := 1) (n := 5) (kd := 4) ⟨by decide, rfl⟩ (by decide) rfl ?_
    refine x_rw (e_x1000.symm) ?_
    refine x_ic_ge k132_24 (t := 79) rfl ⟨by omega, by omega⟩ ⟨by omega, by omega⟩ (fun c207 => ?_) (fun c207 => ?_)
    · skip
      refine x_A k132_79 (fun _ => rfl) ?_
      exact x_lret k132_81 rfl ⟨hG, f, x5, rfl, b_x5, (fun k hk => by rw [show s0 1 4 = x7 by omega]; exact w_1 k hk)⟩
    · skip
      refine x_A k132_27 (fun _ => rfl) ?_
      refine x_A k132_28 (fun _ => rfl) ?_
      refine x_A k132_30 (fun _ => rfl) ?_
      refine x_A k132_31 (fun _ => rfl) ?_
      refine x_callV k132_32 (y := 131) (n := 3) (w0 := 0) (w1 := 3) (as := [vi x7, vi x1, vi x2]) (rest := []) (by decide +kernel) (q := 0) (nq := 12) (kq := 3) ⟨by decide, rfl⟩ rfl rfl rfl rfl (xe_mono (E_X10_isApart_0 s hG x7 ⟨by omega, by omega⟩ x1 ⟨by omega, by omega⟩ x2 ⟨by omega, by omega⟩ (by omega)) ?_)
      rintro s209 v ⟨-, t_s209, z208, rfl, g_z208, xp_z208⟩
      rw [t_s209.nil]
      try rw [t_s209.nil] at xp_z208
      show xe none 132 35 [(0, .ref 0), (1, vi x1), (2, vi x2), (3, vj x3), (5, vj x5), (7, vi x7)] [vi z208] s 0 0 _
      have ap := xp_z208
      rw [f.nil, show x1 = a by omega, show x2 = b by omega] at ap
      refine x_if_ne k132_35 (t := 41) rfl ⟨by omega, by omega⟩ (fun c210 => ?_) (fun c210 => ?_)
      · skip
        refine x_A k132_41 (fun _ => rfl) ?_
        refine x_A k132_42 (fun _ => rfl) ?_
        refine x_getR k132_43 (f := 9) rfl (q := 0) (n := 12) (kd := 3) ⟨by decide, rfl⟩ (q2 := 243) (by decide) rfl ?_
        refine x_A k132_46 (fun _ => rfl) ?_
        refine x_callV k132_48 (y := 79) (n := 1) (w0 := 2) (w1 := 1) (as := [vi x7]) (rest := [vj x3]) (by decide +kernel) (q := 243) (nq := 13) (kq := 13) ⟨by decide, rfl⟩ rfl rfl rfl rfl (xe_mono (E_X8_showing_243 s hG x7 ⟨by omega, by omega⟩) ?_)
        rintro s212 v ⟨-, t_s212, z211, rfl, b_z211, xp_z211⟩
        rw [t_s212.nil]
        try rw [t_s212.nil] at xp_z211
        show xe none 132 51 [(0, .ref 0), (1, vi x1), (2, vi x2), (3, vj x3), (5, vj x5), (7, vi x7)] [vj z211, vj x3] s 0 0 _
        have ys := VL.sw (σ := s0) (a := x7) pl hG0 ⟨by omega, by omega⟩ (by have q := xp_z211; rw [f.nil] at q; exact q)
        refine x_A k132_51 (fun _ => rfl) ?_
        refine x_getR k132_52 (f := 1) rfl (q := 0) (n := 12) (kd := 3) ⟨by decide, rfl⟩ (q2 := 46) (by decide) rfl ?_
        refine x_getI k132_55 (f := 3) rfl (q := 46) (n := 4) (kd := 5) ⟨by decide, rfl⟩ (by decide) rfl ?_
        refine x_rw (e_x1001.symm) ?_
        refine x_callS k132_58 (y := 130) (n := 3) (w0 := 0) (w1 := 5) (as := [vj x3, vj z211, vi x1001]) (rest := []) (by decide +kernel) rfl rfl rfl rfl (xe_mono (E_X10_isBeyondChance s hG x3 b_x3 z211 b_z211 x1001 ⟨by omega, by omega⟩) ?_)
        rintro s214 v ⟨-, t_s214, z213, rfl, g_z213, xp_z213⟩
        rw [t_s214.nil]
        try rw [t_s214.nil] at xp_z213
        show xe none 132 61 [(0, .ref 0), (1, vi x1), (2, vi x2), (3, vj x3), (5, vj x5), (7, vi x7)] [vi z213] s 0 0 _
        have be := xp_z213
        rw [al_of hG0 w_2 ys (by rw [← f.nil]; omega)] at be
        refine x_if_eq k132_61 (t := 73) rfl ⟨by omega, by omega⟩ (fun c215 => ?_) (fun c215 => ?_)
        · skip
          refine x_iinc k132_73 (ls' := [(7, vi (x7 + 1)), (0, .ref 0), (1, vi x1), (2, vi x2), (3, vj x3), (5, vj x5)]) rfl (by decide) rfl ?_
          refine x_goto k132_76 (t := 15) rfl ?_
          refine x_ls (l := [(0, .ref 0), (1, vi x1), (2, vi x2), (3, vj x3), (5, vj x5), (7, vi (x7 + 1))]) (show ([0, 1, 2, 3, 5, 7] : List Nat).Nodup from by decide) ⟨rfl, rfl, rfl, rfl, rfl, rfl, trivial⟩ ?_
          exact ih s x1 x2 x3 x5 (x7 + 1) x1000 x1001 hG f ⟨by omega, by omega⟩ ⟨by omega, by omega⟩ b_x3 b_x5 ⟨by omega, by omega⟩ ⟨by omega, by omega⟩ ⟨by omega, by omega⟩ (by omega) (by omega) (sa_no (P := (fun k : Nat => alC s0 b a (k : Int))) (by omega) w_1 (by show ¬ alC s0 b a ((x7.toNat : Nat) : Int); rw [show ((x7.toNat : Nat) : Int) = x7 by omega]; exact fun w => (be.resolve_left (fun q => by omega)).2 w.2)) w_2 (e_x1000.symm).symm (e_x1001.symm).symm  (by omega)
        · skip
          refine x_A k132_64 (fun _ => rfl) ?_
          refine x_lconst k132_66 (z := 1) (by decide +kernel) ?_
          refine x_A k132_67 (fun _ => rfl) ?_
          refine x_lshl1 k132_69 ⟨by omega, by omega⟩ (fun z216 b_z216 g_z216 => ?_)
          refine x_lor_b k132_70 (fun z217 b_z217 g_z217 => ?_)
          refine x_lstore k132_71 (ls' := [(5, vj z217), (0, .ref 0), (1, vi x1), (2, vi x2), (3, vj x3), (7, vi x7)]) (by decide) rfl ?_
          refine x_iinc k132_73 (ls' := [(7, vi (x7 + 1)), (5, vj z217), (0, .ref 0), (1, vi x1), (2, vi x2), (3, vj x3)]) rfl (by decide) rfl ?_
          refine x_goto k132_76 (t := 15) rfl ?_
          refine x_ls (l := [(0, .ref 0), (1, vi x1), (2, vi x2), (3, vj x3), (5, vj z217), (7, vi (x7 + 1))]) (show ([0, 1, 2, 3, 5, 7] : List Nat).Nodup from by decide) ⟨rfl, rfl, rfl, rfl, rfl, rfl, trivial⟩ ?_
          exact ih s x1 x2 x3 z217 (x7 + 1) x1000 x1001 hG f ⟨by omega, by omega⟩ ⟨by omega, by omega⟩ b_x3 b_z217 ⟨by omega, by omega⟩ ⟨by omega, by omega⟩ ⟨by omega, by omega⟩ (by omega) (by omega) (sa_yes (P := (fun k : Nat => alC s0 b a (k : Int))) (by omega) w_1 g_z216 g_z217 (by show alC s0 b a ((x7.toNat : Nat) : Int); rw [show ((x7.toNat : Nat) : Int) = x7 by omega]; exact ⟨(ap.resolve_right (fun q => by omega)).2, (be.resolve_right (fun q => by omega)).2⟩)) w_2 (e_x1000.symm).symm (e_x1001.symm).symm  (by omega)
      · skip
        refine x_goto k132_38 (t := 73) rfl ?_
        refine x_iinc k132_73 (ls' := [(7, vi (x7 + 1)), (0, .ref 0), (1, vi x1), (2, vi x2), (3, vj x3), (5, vj x5)]) rfl (by decide) rfl ?_
        refine x_goto k132_76 (t := 15) rfl ?_
        refine x_ls (l := [(0, .ref 0), (1, vi x1), (2, vi x2), (3, vj x3), (5, vj x5), (7, vi (x7 + 1))]) (show ([0, 1, 2, 3, 5, 7] : List Nat).Nodup from by decide) ⟨rfl, rfl, rfl, rfl, rfl, rfl, trivial⟩ ?_
        exact ih s x1 x2 x3 x5 (x7 + 1) x1000 x1001 hG f ⟨by omega, by omega⟩ ⟨by omega, by omega⟩ b_x3 b_x5 ⟨by omega, by omega⟩ ⟨by omega, by omega⟩ ⟨by omega, by omega⟩ (by omega) (by omega) (sa_no (P := (fun k : Nat => alC s0 b a (k : Int))) (by omega) w_1 (by show ¬ alC s0 b a ((x7.toNat : Nat) : Int); rw [show ((x7.toNat : Nat) : Int) = x7 by omega]; exact fun w => (ap.resolve_left (fun q => by omega)).2 w.1)) w_2 (e_x1000.symm).symm (e_x1001.symm).symm  (by omega)
set_option maxHeartbeats 8000000 in
theorem E_X10_goingAlong_0 (s0 : xS) (hG0 : GI s0) (a : Int) (b_a : 0 ≤ a ∧ a ≤ 39) (b : Int) (b_b : (-2147483648) ≤ b ∧ b ≤ 2147483647) (pl : VL s0 s0 b) (pa : a < s0 1 4) : xe none 132 0 (lv_args 0 [.ref 0, vi a, vi b]) [] s0 0 0 (fun s' v => GI s' ∧ FL [] s0 s' ∧ ∃ z, v = some (vj z) ∧ in64 z ∧ (∀ k : Nat, k < 64 → (bt z k = true ↔ (k : Int) < s0 1 4 ∧ alC s0 b a (k : Int)))) := by
  have f0 : FL [] s0 s0 := FL.rf
  show xe none 132 0 [(0, .ref 0), (1, vi a), (2, vi b)] [] s0 0 0 _
  refine x_A k132_0 (fun _ => rfl) ?_
  refine x_getR k132_1 (f := 9) rfl (q := 0) (n := 12) (kd := 3) ⟨by decide, rfl⟩ (q2 := 243) (by decide) rfl ?_
  refine x_A k132_4 (fun _ => rfl) ?_
  refine x_callV k132_5 (y := 79) (n := 1) (w0 := 0) (w1 := 1) (as := [vi a]) (rest := []) (by decide +kernel) (q := 243) (nq := 13) (kq := 13) ⟨by decide, rfl⟩ rfl rfl rfl rfl (xe_mono (E_X8_showing_243 s0 hG0 a ⟨by omega, by omega⟩) ?_)
  rintro s219 v ⟨-, t_s219, z218, rfl, b_z218, xp_z218⟩
  rw [t_s219.nil]
  try rw [t_s219.nil] at xp_z218
  show xe none 132 8 [(0, .ref 0), (1, vi a), (2, vi b)] [vj z218] s0 0 0 _
  refine x_lstore_n k132_8 (ls' := [(3, vj z218), (0, .ref 0), (1, vi a), (2, vi b)]) (by decide) rfl ?_
  refine x_lconst k132_9 (z := 0) (by decide +kernel) ?_
  refine x_lstore k132_10 (ls' := [(5, vj 0), (3, vj z218), (0, .ref 0), (1, vi a), (2, vi b)]) (by decide) rfl ?_
  refine x_A k132_12 (fun _ => rfl) ?_
  refine x_istore k132_13 (ls' := [(7, vi 0), (5, vj 0), (3, vj z218), (0, .ref 0), (1, vi a), (2, vi b)]) (by decide) rfl ?_
  obtain ⟨z220, e_z220⟩ : ∃ z, z = s0 1 4 := ⟨_, rfl⟩
  have g_z220 : (1 : Int) ≤ s0 1 4 ∧ s0 1 4 ≤ 40 := hG0 1 4
  obtain ⟨z221, e_z221⟩ : ∃ z, z = s0 46 3 := ⟨_, rfl⟩
  have g_z221 : (0 : Int) ≤ s0 46 3 ∧ s0 46 3 ≤ 40 := hG0 46 3
  refine x_ls (l := [(0, .ref 0), (1, vi a), (2, vi b), (3, vj z218), (5, vj 0), (7, vi 0)]) (show ([0, 1, 2, 3, 5, 7] : List Nat).Nodup from by decide) ⟨rfl, rfl, rfl, rfl, rfl, rfl, trivial⟩ ?_
  exact L_E_X10_goingAlong_0_15 s0 hG0 a b_a b b_b pl pa  (((40 - 0) + 1 : Int)).toNat s0 a b z218 0 0 z220 z221 hG0 f0 ⟨by omega, by omega⟩ ⟨by omega, by omega⟩ b_z218 ⟨by omega, by omega⟩ ⟨by omega, by omega⟩ ⟨by omega, by omega⟩ ⟨by omega, by omega⟩ (by omega) (by omega) sa_0 (VL.sw (σ := s0) (a := a) pl hG0 ⟨by omega, by omega⟩ xp_z218) (e_z220.symm).symm (e_z221.symm).symm  (by omega)
