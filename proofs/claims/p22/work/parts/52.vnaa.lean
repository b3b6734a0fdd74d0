set_option maxHeartbeats 8000000 in
theorem L_E_X8_showingAny_243_5 (s0 : xS) (a : Int) (b_a : in64 a)  : ∀ (n : Nat) (s : xS) (x1 : Int) (x3 : Int) (x5 : Int) (hG : GI s) (f : FL [] s0 s) (b_x1 : in64 x1) (b_x3 : in64 x3) (b_x5 : 0 ≤ x5 ∧ x5 ≤ 40) (w_0 : x1 = a ∧ x5 ≤ 40) (w_1 : ∀ k : Nat, k < 64 → (bt x3 k = true ↔ (k : Int) < x5 ∧ (fun k : Nat => ∃ j : Nat, j < 64 ∧ bt (s0 255 k) j = true ∧ bt a j = true) k))  (hm : (40 - x5) < (n : Int)), xe none 80 5 [(0, .ref 243), (1, vj x1), (3, vj x3), (5, vi x5)] [] s 0 0 (fun s' v => GI s' ∧ FL [] s0 s' ∧ ∃ z, v = some (vj z) ∧ in64 z ∧ (∀ k : Nat, k < 64 → (bt z k = true ↔ (k : Int) < 40 ∧ ∃ j : Nat, j < 64 ∧ bt (s0 255 k) j = true ∧ bt a j = true))) := by
  intro n
  induction n with
  | zero => intro s x1 x3 x5 hG f b_x1 b_x3 b_x5 w_0 w_1  hm; exfalso; omega
  | succ n ih =>
    intro s x1 x3 x5 hG f b_x1 b_x3 b_x5 w_0 w_1  hm
    refine x_A k80_5 (fun _ => rfl) ?_
    refine x_bipush k80_7 (by decide +kernel) ?_
    refine x_ic_ge k80_9 (t := 39) rfl ⟨by omega, by omega⟩ ⟨by omega, by omega⟩ (fun c85 => ?_) (fun c85 => ?_)
    · skip
      refine x_A k80_39 (fun _ => rfl) ?_
      exact x_lret k80_40 rfl ⟨hG, f, x3, rfl, b_x3, (fun k hk => by rw [show (40 : Int) = x5 by omega]; exact w_1 k hk)⟩
    · skip
      refine x_A k80_12 (fun _ => rfl) ?_
      refine x_getR k80_13 (f := 10) rfl (q := 243) (n := 13) (kd := 13) ⟨by decide, rfl⟩ (q2 := 255) (by decide) rfl ?_
      refine x_A k80_16 (fun _ => rfl) ?_
      refine x_lald k80_18 (q := 255) (n := 40) ⟨by decide, rfl⟩ (by decide) ⟨by omega, by omega⟩ ?_
      refine x_topL (fun z86 e_z86 => ?_)
      have b_z86 : in64 z86 := by rw [e_z86]; exact hG 255 x5.toNat
      refine x_A k80_19 (fun _ => rfl) ?_
      refine x_land_b k80_20 (fun z87 b_z87 g_z87 => ?_)
      refine x_lconst k80_21 (z := 0) (by decide +kernel) ?_
      refine x_lc_eq k80_22 k80_23 (t := 33) rfl b_z87 ⟨by omega, by omega⟩ (fun c88 => ?_) (fun c88 => ?_)
      · skip
        refine x_iinc k80_33 (ls' := [(5, vi (x5 + 1)), (0, .ref 243), (1, vj x1), (3, vj x3)]) rfl (by decide) rfl ?_
        refine x_goto k80_36 (t := 5) rfl ?_
        refine x_ls (l := [(0, .ref 243), (1, vj x1), (3, vj x3), (5, vi (x5 + 1))]) (show ([0, 1, 3, 5] : List Nat).Nodup from by decide) ⟨rfl, rfl, rfl, rfl, trivial⟩ ?_
        exact ih s x1 x3 (x5 + 1) hG f b_x1 b_x3 ⟨by omega, by omega⟩ (by omega) (sa_no (P := (fun k : Nat => ∃ j : Nat, j < 64 ∧ bt (s0 255 k) j = true ∧ bt a j = true)) (by omega) w_1 (by show ¬ ∃ j : Nat, j < 64 ∧ bt (s0 255 x5.toNat) j = true ∧ bt a j = true; rw [← f.nil, ← e_z86, ← show x1 = a by omega]; exact ((bt_mt b_z87 g_z87).resolve_right (fun q => by omega)).2))  (by omega)
      · skip
        refine x_A k80_26 (fun _ => rfl) ?_
        refine x_lconst k80_27 (z := 1) (by decide +kernel) ?_
        refine x_A k80_28 (fun _ => rfl) ?_
        refine x_lshl1 k80_30 ⟨by omega, by omega⟩ (fun z89 b_z89 g_z89 => ?_)
        refine x_lor_b k80_31 (fun z90 b_z90 g_z90 => ?_)
        refine x_lstore_n k80_32 (ls' := [(3, vj z90), (0, .ref 243), (1, vj x1), (5, vi x5)]) (by decide) rfl ?_
        refine x_iinc k80_33 (ls' := [(5, vi (x5 + 1)), (3, vj z90), (0, .ref 243), (1, vj x1)]) rfl (by decide) rfl ?_
        refine x_goto k80_36 (t := 5) rfl ?_
        refine x_ls (l := [(0, .ref 243), (1, vj x1), (3, vj z90), (5, vi (x5 + 1))]) (show ([0, 1, 3, 5] : List Nat).Nodup from by decide) ⟨rfl, rfl, rfl, rfl, trivial⟩ ?_
        exact ih s x1 z90 (x5 + 1) hG f b_x1 b_z90 ⟨by omega, by omega⟩ (by omega) (sa_yes (P := (fun k : Nat => ∃ j : Nat, j < 64 ∧ bt (s0 255 k) j = true ∧ bt a j = true)) (by omega) w_1 g_z89 g_z90 (by show ∃ j : Nat, j < 64 ∧ bt (s0 255 x5.toNat) j = true ∧ bt a j = true; rw [← f.nil, ← e_z86, ← show x1 = a by omega]; exact ((bt_mt b_z87 g_z87).resolve_left (fun q => by omega)).2))  (by omega)
set_option maxHeartbeats 8000000 in
theorem E_X8_showingAny_243 (s0 : xS) (hG0 : GI s0) (a : Int) (b_a : in64 a) : xe none 80 0 (lv_args 0 [.ref 243, vj a]) [] s0 0 0 (fun s' v => GI s' ∧ FL [] s0 s' ∧ ∃ z, v = some (vj z) ∧ in64 z ∧ (∀ k : Nat, k < 64 → (bt z k = true ↔ (k : Int) < 40 ∧ ∃ j : Nat, j < 64 ∧ bt (s0 255 k) j = true ∧ bt a j = true))) := by
  have f0 : FL [] s0 s0 := FL.rf
  show xe none 80 0 [(0, .ref 243), (1, vj a)] [] s0 0 0 _
  refine x_lconst k80_0 (z := 0) (by decide +kernel) ?_
  refine x_lstore_n k80_1 (ls' := [(3, vj 0), (0, .ref 243), (1, vj a)]) (by decide) rfl ?_
  refine x_A k80_2 (fun _ => rfl) ?_
  refine x_istore k80_3 (ls' := [(5, vi 0), (3, vj 0), (0, .ref 243), (1, vj a)]) (by decide) rfl ?_
  refine x_ls (l := [(0, .ref 243), (1, vj a), (3, vj 0), (5, vi 0)]) (show ([0, 1, 3, 5] : List Nat).Nodup from by decide) ⟨rfl, rfl, rfl, rfl, trivial⟩ ?_
  exact L_E_X8_showingAny_243_5 s0 a b_a  (((40 - 0) + 1 : Int)).toNat s0 a 0 0 hG0 f0 b_a ⟨by omega, by omega⟩ ⟨by omega, by omega⟩ (by omega) sa_0  (by omega)
set_option maxHeartbeats 8000000 in
theorem E_X8_showing_243 (s0 : xS) (hG0 : GI s0) (a : Int) (b_a : 0 ≤ a ∧ a ≤ 39) : xe none 79 0 (lv_args 0 [.ref 243, vi a]) [] s0 0 0 (fun s' v => GI s' ∧ FL [] s0 s' ∧ ∃ z, v = some (vj z) ∧ in64 z ∧ (∀ k : Nat, k < 64 → (bt z k = true ↔ (k : Int) < 40 ∧ bt (s0 255 k) a.toNat = true))) := by
  have f0 : FL [] s0 s0 := FL.rf
  show xe none 79 0 [(0, .ref 243), (1, vi a)] [] s0 0 0 _
  refine x_A k79_0 (fun _ => rfl) ?_
  refine x_lconst k79_1 (z := 1) (by decide +kernel) ?_
  refine x_A k79_2 (fun _ => rfl) ?_
  refine x_lshl1 k79_3 ⟨by omega, by omega⟩ (fun z1 b_z1 g_z1 => ?_)
  refine x_callV k79_4 (y := 80) (n := 1) (w0 := 0) (w1 := 2) (as := [vj z1]) (rest := []) (by decide +kernel) (q := 243) (nq := 13) (kq := 13) ⟨by decide, rfl⟩ rfl rfl rfl rfl (xe_mono (E_X8_showingAny_243 s0 hG0 z1 b_z1) ?_)
  rintro s3 v ⟨-, t_s3, z2, rfl, b_z2, xp_z2⟩
  rw [t_s3.nil]
  try rw [t_s3.nil] at xp_z2
  show xe none 79 7 [(0, .ref 243), (1, vi a)] [vj z2] s0 0 0 _
  exact x_lret k79_7 rfl ⟨hG0, f0, z2, rfl, b_z2, (fun k hk => (xp_z2 k hk).trans (and_congr Iff.rfl ⟨fun ⟨j, hj, w1, w2⟩ => by rw [g_z1 j hj, decide_eq_true_eq] at w2; rw [← w2]; exact w1, fun w => ⟨a.toNat, by omega, w, by rw [g_z1 _ (by omega), decide_eq_true_eq]⟩⟩))⟩
set_option maxHeartbeats 8000000 in
theorem L_E_X3_ofYears_46_5 (s0 : xS) (a : Int) (b_a : (-2147483648) ≤ a ∧ a ≤ 2147483647) (b : Int) (b_b : (-2147483648) ≤ b ∧ b ≤ 2147483647)  : ∀ (n : Nat) (s : xS) (x1 : Int) (x2 : Int) (x3 : Int) (x5 : Int) (x1000 : Int) (hG : GI s) (f : FL [] s0 s) (b_x1 : (-2147483648) ≤ x1 ∧ x1 ≤ 2147483647) (b_x2 : (-2147483648) ≤ x2 ∧ x2 ≤ 2147483647) (b_x3 : in64 x3) (b_x5 : 0 ≤ x5 ∧ x5 ≤ 40) (b_x1000 : 0 ≤ x1000 ∧ x1000 ≤ 40) (r_5_1000 : x5 ≤ x1000 + 0) (w_0 : x1 = a ∧ x2 = b ∧ x1000 = s0 46 3 ∧ x5 ≤ x1000) (w_1 : ∀ k : Nat, k < 64 → (bt x3 k = true ↔ (k : Int) < x5 ∧ (fun k : Nat => a ≤ s0 47 k ∧ s0 47 k ≤ b) k)) (e_x1000 : x1000 = s 46 3)  (hm : (40 - x5) < (n : Int)), xe none 32 5 [(0, .ref 46), (1, vi x1), (2, vi x2), (3, vj x3), (5, vi x5)] [] s 0 0 (fun s' v => GI s' ∧ FL [] s0 s' ∧ ∃ z, v = some (vj z) ∧ in64 z ∧ (∀ k : Nat, k < 64 → (bt z k = true ↔ (k : Int) < s0 46 3 ∧ a ≤ s0 47 k ∧ s0 47 k ≤ b))) := by
  intro n
  induction n with
  | zero => intro s x1 x2 x3 x5 x1000 hG f b_x1 b_x2 b_x3 b_x5 b_x1000 r_5_1000 w_0 w_1 e_x1000  hm; exfalso; omega
  | succ n ih =>
    intro s x1 x2 x3 x5 x1000 hG f b_x1 b_x2 b_x3 b_x5 b_x1000 r_5_1000 w_0 w_1 e_x1000  hm
    refine x_A k32_5 (fun _ => rfl) ?_
    refine x_A k32_7 (fun _ => rfl) ?_
    refine x_getI k32_8 (f := 3) rfl (q := 46) (n := 4) (kd := 5) ⟨by decide, rfl⟩ (by decide) rfl ?_
    refine x_rw (e_x1000.symm) ?_
    refine x_ic_ge k32_11 (t := 42) rfl ⟨by omega, by omega⟩ ⟨by omega, by omega⟩ (fun c126 => ?_) (fun c126 => ?_)
    · skip
      refine x_A k32_42 (fun _ => rfl) ?_
      exact x_lret k32_43 rfl ⟨hG, f, x3, rfl, b_x3, (fun k hk => by rw [show s0 46 3 = x5 by omega]; exact w_1 k hk)⟩
    · skip
      refine x_A k32_14 (fun _ => rfl) ?_
      refine x_getR k32_15 (f := 0) rfl (q := 46) (n := 4) (kd := 5) ⟨by decide, rfl⟩ (q2 := 47) (by decide) rfl ?_
      refine x_A k32_18 (fun _ => rfl) ?_
      refine x_iald k32_20 (q := 47) (n := 40) ⟨by decide, rfl⟩ (by decide) ⟨by omega, by omega⟩ ?_
      refine x_top (fun z127 e_z127 => ?_)
      have g_z127 : (0 : Int) ≤ s 47 x5.toNat ∧ s 47 x5.toNat ≤ 999 := hG 47 x5.toNat
      refine x_A k32_21 (fun _ => rfl) ?_
      refine x_A k32_22 (fun _ => rfl) ?_
      refine x_callS k32_23 (y := 121) (n := 3) (w0 := 0) (w1 := 3) (as := [vi z127, vi x1, vi x2]) (rest := []) (by decide +kernel) rfl rfl rfl rfl (xe_mono (C_X10_isWithin s hG z127 ⟨by omega, by omega⟩ x1 ⟨by omega, by omega⟩ x2 ⟨by omega, by omega⟩) ?_)
      rintro s129 v ⟨h_s129, z128, rfl, hz_z128⟩
      rw [h_s129]
      rcases hz_z128 with ⟨c_z128, e_z128⟩ | ⟨c_z128, e_z128⟩
      · rw [e_z128]
        show xe none 32 26 [(0, .ref 46), (1, vi x1), (2, vi x2), (3, vj x3), (5, vi x5)] [vi 1] s 0 0 _
        refine x_if_eq k32_26 (t := 36) rfl ⟨by omega, by omega⟩ (fun c130 => by exfalso; omega) (fun c130 => ?_)
        refine x_A k32_29 (fun _ => rfl) ?_
        refine x_lconst k32_30 (z := 1) (by decide +kernel) ?_
        refine x_A k32_31 (fun _ => rfl) ?_
        refine x_lshl1 k32_33 ⟨by omega, by omega⟩ (fun z131 b_z131 g_z131 => ?_)
        refine x_lor_b k32_34 (fun z132 b_z132 g_z132 => ?_)
        refine x_lstore_n k32_35 (ls' := [(3, vj z132), (0, .ref 46), (1, vi x1), (2, vi x2), (5, vi x5)]) (by decide) rfl ?_
        refine x_iinc k32_36 (ls' := [(5, vi (x5 + 1)), (3, vj z132), (0, .ref 46), (1, vi x1), (2, vi x2)]) rfl (by decide) rfl ?_
        refine x_goto k32_39 (t := 5) rfl ?_
        refine x_ls (l := [(0, .ref 46), (1, vi x1), (2, vi x2), (3, vj z132), (5, vi (x5 + 1))]) (show ([0, 1, 2, 3, 5] : List Nat).Nodup from by decide) ⟨rfl, rfl, rfl, rfl, rfl, trivial⟩ ?_
        exact ih s x1 x2 z132 (x5 + 1) x1000 hG f ⟨by omega, by omega⟩ ⟨by omega, by omega⟩ b_z132 ⟨by omega, by omega⟩ ⟨by omega, by omega⟩ (by omega) (by omega) (sa_yes (P := (fun k : Nat => a ≤ s0 47 k ∧ s0 47 k ≤ b)) (by omega) w_1 g_z131 g_z132 (by show a ≤ s0 47 x5.toNat ∧ s0 47 x5.toNat ≤ b; rw [← f.nil]; omega)) (e_x1000.symm).symm  (by omega)
      · rw [e_z128]
        show xe none 32 26 [(0, .ref 46), (1, vi x1), (2, vi x2), (3, vj x3), (5, vi x5)] [vi 0] s 0 0 _
        refine x_if_eq k32_26 (t := 36) rfl ⟨by omega, by omega⟩ (fun c133 => ?_) (fun c133 => by exfalso; omega)
        refine x_iinc k32_36 (ls' := [(5, vi (x5 + 1)), (0, .ref 46), (1, vi x1), (2, vi x2), (3, vj x3)]) rfl (by decide) rfl ?_
        refine x_goto k32_39 (t := 5) rfl ?_
        refine x_ls (l := [(0, .ref 46), (1, vi x1), (2, vi x2), (3, vj x3), (5, vi (x5 + 1))]) (show ([0, 1, 2, 3, 5] : List Nat).Nodup from by decide) ⟨rfl, rfl, rfl, rfl, rfl, trivial⟩ ?_
        exact ih s x1 x2 x3 (x5 + 1) x1000 hG f ⟨by omega, by omega⟩ ⟨by omega, by omega⟩ b_x3 ⟨by omega, by omega⟩ ⟨by omega, by omega⟩ (by omega) (by omega) (sa_no (P := (fun k : Nat => a ≤ s0 47 k ∧ s0 47 k ≤ b)) (by omega) w_1 (by show ¬ (a ≤ s0 47 x5.toNat ∧ s0 47 x5.toNat ≤ b); rw [← f.nil]; omega)) (e_x1000.symm).symm  (by omega)
set_option maxHeartbeats 8000000 in
theorem E_X3_ofYears_46 (s0 : xS) (hG0 : GI s0) (a : Int) (b_a : (-2147483648) ≤ a ∧ a ≤ 2147483647) (b : Int) (b_b : (-2147483648) ≤ b ∧ b ≤ 2147483647) : xe none 32 0 (lv_args 0 [.ref 46, vi a, vi b]) [] s0 0 0 (fun s' v => GI s' ∧ FL [] s0 s' ∧ ∃ z, v = some (vj z) ∧ in64 z ∧ (∀ k : Nat, k < 64 → (bt z k = true ↔ (k : Int) < s0 46 3 ∧ a ≤ s0 47 k ∧ s0 47 k ≤ b))) := by
  have f0 : FL [] s0 s0 := FL.rf
  show xe none 32 0 [(0, .ref 46), (1, vi a), (2, vi b)] [] s0 0 0 _
  refine x_lconst k32_0 (z := 0) (by decide +kernel) ?_
  refine x_lstore_n k32_1 (ls' := [(3, vj 0), (0, .ref 46), (1, vi a), (2, vi b)]) (by decide) rfl ?_
  refine x_A k32_2 (fun _ => rfl) ?_
  refine x_istore k32_3 (ls' := [(5, vi 0), (3, vj 0), (0, .ref 46), (1, vi a), (2, vi b)]) (by decide) rfl ?_
  obtain ⟨z134, e_z134⟩ : ∃ z, z = s0 46 3 := ⟨_, rfl⟩
  have g_z134 : (0 : Int) ≤ s0 46 3 ∧ s0 46 3 ≤ 40 := hG0 46 3
  refine x_ls (l := [(0, .ref 46), (1, vi a), (2, vi b), (3, vj 0), (5, vi 0)]) (show ([0, 1, 2, 3, 5] : List Nat).Nodup from by decide) ⟨rfl, rfl, rfl, rfl, rfl, trivial⟩ ?_
  exact L_E_X3_ofYears_46_5 s0 a b_a b b_b  (((40 - 0) + 1 : Int)).toNat s0 a b 0 0 z134 hG0 f0 ⟨by omega, by omega⟩ ⟨by omega, by omega⟩ ⟨by omega, by omega⟩ ⟨by omega, by omega⟩ ⟨by omega, by omega⟩ (by omega) (by omega) sa_0 (e_z134.symm).symm  (by omega)
set_option maxHeartbeats 8000000 in
theorem L_E_X10_pick_15 (s0 : xS) (a : Int) (b_a : in64 a) (b : Int) (b_b : (-2147483648) ≤ b ∧ b ≤ 2147483647)  : ∀ (n : Nat) (s : xS) (x0 : Int) (x2 : Int) (x3 : Int) (x4 : Int) (hG : GI s) (f : FL [] s0 s) (b_x0 : in64 x0) (b_x2 : (-2147483648) ≤ x2 ∧ x2 ≤ 2147483647) (b_x3 : 0 ≤ x3 ∧ x3 ≤ 60) (b_x4 : 0 ≤ x4 ∧ x4 ≤ 40) (r_3_4 : x3 ≤ x4 + 0) (w_0 : x0 = a ∧ x2 = b ∧ b ≠ -1 ∧ x4 ≤ 40) (w_1 : x3 = ctp (fun k : Nat => bt a k = true) x4.toNat) (w_2 : ∀ i : Nat, (i : Int) < x4 → ¬ ((fun k : Nat => bt a k = true) i ∧ ctp (fun k : Nat => bt a k = true) i = b))  (hm : (40 - x4) < (n : Int)), xe none 127 15 [(0, vj x0), (2, vi x2), (3, vi x3), (4, vi x4)] [] s 0 0 (fun s' v => GI s' ∧ FL [] s0 s' ∧ ∃ z, v = some (vi z) ∧ ((-1) ≤ z ∧ z ≤ 127) ∧ (pkT (fun k : Nat => bt a k = true) b z)) := by
  intro n
  induction n with
  | zero => intro s x0 x2 x3 x4 hG f b_x0 b_x2 b_x3 b_x4 r_3_4 w_0 w_1 w_2  hm; exfalso; omega
  | succ n ih =>
    intro s x0 x2 x3 x4 hG f b_x0 b_x2 b_x3 b_x4 r_3_4 w_0 w_1 w_2  hm
    refine x_A k127_15 (fun _ => rfl) ?_
    refine x_bipush k127_17 (by decide +kernel) ?_
    refine x_ic_ge k127_19 (t := 53) rfl ⟨by omega, by omega⟩ ⟨by omega, by omega⟩ (fun c118 => ?_) (fun c118 => ?_)
    · skip
      refine x_A k127_53 (fun _ => rfl) ?_
      exact x_iret k127_54 rfl ⟨hG, f, (-1), rfl, ⟨by omega, by omega⟩, (Or.inr ⟨by omega, Or.inl ⟨rfl, fun i hi hp hq => w_2 i (by omega) ⟨hp, hq⟩⟩⟩)⟩
    · skip
      refine x_A k127_22 (fun _ => rfl) ?_
      refine x_A k127_23 (fun _ => rfl) ?_
      refine x_lushr_b k127_25 ⟨by omega, by omega⟩ (fun z119 b_z119 g_z119 => ?_)
      refine x_lconst k127_26 (z := 1) (by decide +kernel) ?_
      refine x_land_b k127_27 (fun z120 b_z120 g_z120 => ?_)
      refine x_lconst k127_28 (z := 0) (by decide +kernel) ?_
      refine x_lc_ne k127_29 k127_30 (t := 36) rfl b_z120 ⟨by omega, by omega⟩ (fun c121 => ?_) (fun c121 => ?_)
      · skip
        have bl := bt_low b_z120 g_z120
        have bu : bt z119 0 = bt x0 x4.toNat := g_z119 0
        have bp : bt a x4.toNat = true := by rw [← show x0 = a by omega]; exact bl.elim (fun q => absurd q.1 (by omega)) (fun q => bu.symm.trans q.2)
        refine x_A k127_36 (fun _ => rfl) ?_
        refine x_A k127_37 (fun _ => rfl) ?_
        refine x_ic_ne k127_38 (t := 44) rfl ⟨by omega, by omega⟩ ⟨by omega, by omega⟩ (fun c122 => ?_) (fun c122 => ?_)
        · skip
          refine x_iinc k127_44 (ls' := [(3, vi (x3 + 1)), (0, vj x0), (2, vi x2), (4, vi x4)]) rfl (by decide) rfl ?_
          refine x_iinc k127_47 (ls' := [(4, vi (x4 + 1)), (3, vi (x3 + 1)), (0, vj x0), (2, vi x2)]) rfl (by decide) rfl ?_
          refine x_goto k127_50 (t := 15) rfl ?_
          refine x_ls (l := [(0, vj x0), (2, vi x2), (3, vi (x3 + 1)), (4, vi (x4 + 1))]) (show ([0, 2, 3, 4] : List Nat).Nodup from by decide) ⟨rfl, rfl, rfl, rfl, trivial⟩ ?_
          exact ih s x0 x2 (x3 + 1) (x4 + 1) hG f b_x0 ⟨by omega, by omega⟩ ⟨by omega, by omega⟩ ⟨by omega, by omega⟩ (by omega) (by omega) (by have cs := ctp_s (fun k : Nat => bt a k = true) (k := x4) (by omega); have q := cs.1 bp; omega) (no_st w_2 (by omega) (fun q => by have q2 := q.2; omega))  (by omega)
        · skip
          refine x_A k127_41 (fun _ => rfl) ?_
          exact x_iret k127_43 rfl ⟨hG, f, x4, rfl, ⟨by omega, by omega⟩, (Or.inr ⟨by omega, Or.inr ⟨x4.toNat, by omega, by omega, bp, by omega⟩⟩)⟩
      · skip
        have bl := bt_low b_z120 g_z120
        have bu : bt z119 0 = bt x0 x4.toNat := g_z119 0
        have bn : ¬ bt a x4.toNat = true := fun w => by rw [← show x0 = a by omega] at w; exact bl.elim (fun q => by rw [bu.symm.trans q.2] at w; cases w) (fun q => absurd (show z120 = 0 by omega) q.1)
        refine x_goto k127_33 (t := 47) rfl ?_
        refine x_iinc k127_47 (ls' := [(4, vi (x4 + 1)), (0, vj x0), (2, vi x2), (3, vi x3)]) rfl (by decide) rfl ?_
        refine x_goto k127_50 (t := 15) rfl ?_
        refine x_ls (l := [(0, vj x0), (2, vi x2), (3, vi x3), (4, vi (x4 + 1))]) (show ([0, 2, 3, 4] : List Nat).Nodup from by decide) ⟨rfl, rfl, rfl, rfl, trivial⟩ ?_
        exact ih s x0 x2 x3 (x4 + 1) hG f b_x0 ⟨by omega, by omega⟩ ⟨by omega, by omega⟩ ⟨by omega, by omega⟩ (by omega) (by omega) (by have cs := ctp_s (fun k : Nat => bt a k = true) (k := x4) (by omega); have q := cs.2 bn; omega) (no_st w_2 (by omega) (fun q => bn q.1))  (by omega)
set_option maxHeartbeats 8000000 in
theorem E_X10_pick (s0 : xS) (hG0 : GI s0) (a : Int) (b_a : in64 a) (b : Int) (b_b : (-2147483648) ≤ b ∧ b ≤ 2147483647) : xe none 127 0 (lv_args 0 [vj a, vi b]) [] s0 0 0 (fun s' v => GI s' ∧ FL [] s0 s' ∧ ∃ z, v = some (vi z) ∧ ((-1) ≤ z ∧ z ≤ 127) ∧ (pkT (fun k : Nat => bt a k = true) b z)) := by
  have f0 : FL [] s0 s0 := FL.rf
  show xe none 127 0 [(0, vj a), (2, vi b)] [] s0 0 0 _
  refine x_A k127_0 (fun _ => rfl) ?_
  refine x_A k127_1 (fun _ => rfl) ?_
  refine x_ic_ne k127_2 (t := 10) rfl ⟨by omega, by omega⟩ ⟨by omega, by omega⟩ (fun c123 => ?_) (fun c123 => ?_)
  · skip
    refine x_A k127_10 (fun _ => rfl) ?_
    refine x_istore_n k127_11 (ls' := [(3, vi 0), (0, vj a), (2, vi b)]) (by decide) rfl ?_
    refine x_A k127_12 (fun _ => rfl) ?_
    refine x_istore k127_13 (ls' := [(4, vi 0), (3, vi 0), (0, vj a), (2, vi b)]) (by decide) rfl ?_
    refine x_ls (l := [(0, vj a), (2, vi b), (3, vi 0), (4, vi 0)]) (show ([0, 2, 3, 4] : List Nat).Nodup from by decide) ⟨rfl, rfl, rfl, rfl, trivial⟩ ?_
    exact L_E_X10_pick_15 s0 a b_a b b_b  (((40 - 0) + 1 : Int)).toNat s0 a b 0 0 hG0 f0 b_a ⟨by omega, by omega⟩ ⟨by omega, by omega⟩ ⟨by omega, by omega⟩ (by omega) (by omega) (show _ = _ from rfl) (fun i hi => by omega)  (by omega)
  · skip
    refine x_A k127_5 (fun _ => rfl) ?_
    refine x_callS k127_6 (y := 219) (n := 1) (w0 := 0) (w1 := 2) (as := [vj a]) (rest := []) (by decide +kernel) rfl rfl rfl rfl (xe_mono (E_J13_bitCount_95d88 s0 hG0 a b_a) ?_)
    rintro s125 v ⟨-, t_s125, z124, rfl, g_z124, xp_z124⟩
    rw [t_s125.nil]
    try rw [t_s125.nil] at xp_z124
    show xe none 127 9 [(0, vj a), (2, vi b)] [vi z124] s0 0 0 _
    exact x_iret k127_9 rfl ⟨hG0, f0, z124, rfl, ⟨by omega, by omega⟩, (Or.inl ⟨by omega, xp_z124⟩)⟩
