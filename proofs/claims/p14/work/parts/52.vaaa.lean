set_option maxHeartbeats 8000000 in
theorem E_X1_hasKey (s0 : xS) (hG0 : GI s0) (a : Int) (b_a : (-2147483648) ≤ a ∧ a ≤ 2147483647) (b : Int) (b_b : 0 ≤ b ∧ b ≤ 31) : xe none 19 0 (lv_args 0 [vi a, vi b]) [] s0 0 0 (fun s' v => GI s' ∧ FL [] s0 s' ∧ ∃ z, v = some (vi z) ∧ (0 ≤ z ∧ z ≤ 1) ∧ ((z = 1 ∧ bi a b.toNat = true) ∨ (z = 0 ∧ bi a b.toNat = false))) := by
  have f0 : FL [] s0 s0 := FL.rf
  show xe none 19 0 [(0, vi a), (1, vi b)] [] s0 0 0 _
  refine x_A k19_0 (fun _ => rfl) ?_
  refine x_A k19_1 (fun _ => rfl) ?_
  refine x_iushr_b k19_2 ⟨by omega, by omega⟩ (fun z1 i_z1 u_z1 => ?_)
  have g_z1 := i_z1
  unfold in32 at g_z1
  refine x_A k19_3 (fun _ => rfl) ?_
  refine x_iand_b k19_4 (fun z2 i_z2 u_z2 => ?_)
  have g_z2 := i_z2
  unfold in32 at g_z2
  have bx := bi_at u_z1 i_z2 u_z2
  refine x_if_eq k19_5 (t := 12) rfl (by first | exact x_rbe e_z2 g_z2 rfl rfl | exact x_rb g_z2 rfl rfl | exact ⟨by omega, by omega⟩) (fun c3 => ?_) (fun c3 => ?_)
  · skip
    refine x_A k19_12 (fun _ => rfl) ?_
    exact x_zret k19_13 rfl ⟨by omega, by omega⟩ ⟨hG0, f0, 0, rfl, ⟨by decide, by decide⟩, (Or.inr ⟨rfl, (bx.resolve_right (fun q => by omega)).2⟩)⟩
  · skip
    refine x_A k19_8 (fun _ => rfl) ?_
    refine x_goto k19_9 (t := 13) rfl ?_
    exact x_zret k19_13 rfl ⟨by omega, by omega⟩ ⟨hG0, f0, 1, rfl, ⟨by decide, by decide⟩, (Or.inl ⟨rfl, (bx.resolve_left (fun q => by omega)).2⟩)⟩
set_option maxHeartbeats 8000000 in
theorem L_E_X1_disallows_244_3 (s0 : xS) (a : Int) (b_a : (-2147483648) ≤ a ∧ a ≤ 2147483647) (b : Int) (b_b : in64 b)  : ∀ (n : Nat) (s : xS) (x1 : Int) (x2 : Int) (x4 : Int) (hG : GI s) (f : FL [] s0 s) (b_x1 : (-2147483648) ≤ x1 ∧ x1 ≤ 2147483647) (b_x2 : in64 x2) (b_x4 : 0 ≤ x4 ∧ x4 ≤ 6) (w_0 : x1 = a) (w_1 : x2 = b) (w_2 : ∀ i : Nat, (i : Int) < x4 → ¬ dkF s0 244 a b i)  (hm : (6 - x4) < (n : Int)), xe none 20 3 [(0, .ref 244), (1, vi x1), (2, vj x2), (4, vi x4)] [] s 0 0 (fun s' v => GI s' ∧ FL [] s0 s' ∧ ∃ z, v = some (vi z) ∧ (0 ≤ z ∧ z ≤ 1) ∧ ((z = 1 ∧ dsF s0 244 a b) ∨ (z = 0 ∧ ¬ dsF s0 244 a b))) := by
  intro n
  induction n with
  | zero => intro s x1 x2 x4 hG f b_x1 b_x2 b_x4 w_0 w_1 w_2  hm; exfalso; omega
  | succ n ih =>
    intro s x1 x2 x4 hG f b_x1 b_x2 b_x4 w_0 w_1 w_2  hm
    refine x_A k20_3 (fun _ => rfl) ?_
    refine x_bipush k20_5 (by decide +kernel) ?_
    refine x_ic_ge k20_7 (t := 53) rfl (by first | exact x_rb b_x4 rfl rfl | exact ⟨by omega, by omega⟩) ⟨by decide, by decide⟩ (fun c64 => ?_) (fun c64 => ?_)
    · skip
      refine x_A k20_53 (fun _ => rfl) ?_
      exact x_zret k20_54 rfl ⟨by omega, by omega⟩ ⟨hG, f, 0, rfl, ⟨by decide, by decide⟩, (Or.inr ⟨rfl, fun ⟨k, hk, q⟩ => w_2 k (by omega) q⟩)⟩
    · skip
      refine x_A k20_10 (fun _ => rfl) ?_
      refine x_A k20_11 (fun _ => rfl) ?_
      refine x_callS k20_13 (y := 19) (n := 2) (w0 := 0) (w1 := 2) (as := [vi x1, vi x4]) (rest := []) (by decide +kernel) rfl rfl rfl rfl (xe_mono (E_X1_hasKey s hG x1 (by first | exact x_rb b_x1 rfl rfl | exact ⟨by omega, by omega⟩) x4 (by first | exact x_rb b_x4 rfl rfl | exact ⟨by omega, by omega⟩)) ?_)
      rintro s66 v ⟨-, t_s66, z65, rfl, g_z65, xp_z65⟩
      rw [t_s66.nil]
      try rw [t_s66.nil] at xp_z65
      show xe none 20 16 [(0, .ref 244), (1, vi x1), (2, vj x2), (4, vi x4)] [vi z65] s 0 0 _
      have hk := xp_z65
      rw [show x1 = a by omega] at hk
      refine x_if_eq k20_16 (t := 47) rfl (by first | exact x_rbe e_z65 g_z65 rfl rfl | exact x_rb g_z65 rfl rfl | exact ⟨by omega, by omega⟩) (fun c67 => ?_) (fun c67 => ?_)
      · skip
        refine x_iinc k20_47 (ls' := [(4, vi (x4 + 1)), (0, .ref 244), (1, vi x1), (2, vj x2)]) rfl (by decide) rfl ?_
        refine x_goto k20_50 (t := 3) rfl ?_
        refine x_ls (l := [(0, .ref 244), (1, vi x1), (2, vj x2), (4, vi (x4 + 1))]) (show ([0, 1, 2, 4] : List Nat).Nodup from by decide) ⟨rfl, rfl, rfl, rfl, trivial⟩ ?_
        exact ih s x1 x2 (x4 + 1) hG f (by first | exact x_rb b_x1 rfl rfl | exact ⟨by omega, by omega⟩) b_x2 ⟨by omega, by omega⟩ (by omega) w_1 (no_st w_2 (by omega) (fun q => by have q1 := q.1; rw [(hk.resolve_left (fun w => by omega)).2] at q1; cases q1))  (by omega)
      · skip
        refine x_A k20_19 (fun _ => rfl) ?_
        refine x_getR k20_20 (f := 2) rfl (q := 244) (n := 8) (kd := 14) ⟨by decide, rfl⟩ (q2 := 246) (by decide) rfl ?_
        refine x_A k20_23 (fun _ => rfl) ?_
        refine x_lald k20_25 (q := 246) (n := 6) ⟨by decide, rfl⟩ (by decide) (by first | exact x_rbl b_x4 rfl rfl | exact ⟨by omega, by omega⟩) ?_
        refine x_topL (fun z68 e_z68 => ?_)
        have b_z68 : in64 z68 := by rw [e_z68]; exact hG 246 x4.toNat
        refine x_lconst k20_26 (z := 0) (by decide +kernel) ?_
        refine x_lc_eq k20_27 k20_28 (t := 47) rfl b_z68 ⟨by omega, by omega⟩ (fun c69 => ?_) (fun c69 => ?_)
        · skip
          refine x_iinc k20_47 (ls' := [(4, vi (x4 + 1)), (0, .ref 244), (1, vi x1), (2, vj x2)]) rfl (by decide) rfl ?_
          refine x_goto k20_50 (t := 3) rfl ?_
          refine x_ls (l := [(0, .ref 244), (1, vi x1), (2, vj x2), (4, vi (x4 + 1))]) (show ([0, 1, 2, 4] : List Nat).Nodup from by decide) ⟨rfl, rfl, rfl, rfl, trivial⟩ ?_
          exact ih s x1 x2 (x4 + 1) hG f (by first | exact x_rb b_x1 rfl rfl | exact ⟨by omega, by omega⟩) b_x2 ⟨by omega, by omega⟩ (by omega) w_1 (no_st w_2 (by omega) (fun q => q.2.1 (by show s0 246 x4.toNat = 0; rw [← f.nil]; omega)))  (by omega)
        · skip
          refine x_A k20_31 (fun _ => rfl) ?_
          refine x_getR k20_32 (f := 2) rfl (q := 244) (n := 8) (kd := 14) ⟨by decide, rfl⟩ (q2 := 246) (by decide) rfl ?_
          refine x_A k20_35 (fun _ => rfl) ?_
          refine x_lald k20_37 (q := 246) (n := 6) ⟨by decide, rfl⟩ (by decide) (by first | exact x_rbl b_x4 rfl rfl | exact ⟨by omega, by omega⟩) ?_
          refine x_topL (fun z70 e_z70 => ?_)
          have b_z70 : in64 z70 := by rw [e_z70]; exact hG 246 x4.toNat
          refine x_A k20_38 (fun _ => rfl) ?_
          refine x_land_b k20_39 (fun z71 b_z71 g_z71 => ?_)
          refine x_lconst k20_40 (z := 0) (by decide +kernel) ?_
          refine x_lc_ne k20_41 k20_42 (t := 47) rfl b_z71 ⟨by omega, by omega⟩ (fun c72 => ?_) (fun c72 => ?_)
          · skip
            refine x_iinc k20_47 (ls' := [(4, vi (x4 + 1)), (0, .ref 244), (1, vi x1), (2, vj x2)]) rfl (by decide) rfl ?_
            refine x_goto k20_50 (t := 3) rfl ?_
            refine x_ls (l := [(0, .ref 244), (1, vi x1), (2, vj x2), (4, vi (x4 + 1))]) (show ([0, 1, 2, 4] : List Nat).Nodup from by decide) ⟨rfl, rfl, rfl, rfl, trivial⟩ ?_
            exact ih s x1 x2 (x4 + 1) hG f (by first | exact x_rb b_x1 rfl rfl | exact ⟨by omega, by omega⟩) b_x2 ⟨by omega, by omega⟩ (by omega) w_1 (no_st w_2 (by omega) (fun q => absurd ((bt_dis b_z71 g_z71).mpr (by rw [e_z70, f.nil, w_1]; exact q.2.2)) (by omega)))  (by omega)
          · skip
            refine x_A k20_45 (fun _ => rfl) ?_
            exact x_zret k20_46 rfl ⟨by omega, by omega⟩ ⟨hG, f, 1, rfl, ⟨by decide, by decide⟩, (Or.inl ⟨rfl, x4.toNat, by omega, (hk.resolve_right (fun w => by omega)).2, (by show s0 246 x4.toNat ≠ 0; rw [← f.nil]; omega), (by show ∀ x : Nat, x < 64 → ¬ (bt (s0 246 x4.toNat) x = true ∧ bt b x = true); rw [← f.nil, ← e_z70, ← w_1]; exact (bt_dis b_z71 g_z71).mp (by omega))⟩)⟩
set_option maxHeartbeats 8000000 in
theorem E_X1_disallows_244 (s0 : xS) (hG0 : GI s0) (a : Int) (b_a : (-2147483648) ≤ a ∧ a ≤ 2147483647) (b : Int) (b_b : in64 b) : xe none 20 0 (lv_args 0 [.ref 244, vi a, vj b]) [] s0 0 0 (fun s' v => GI s' ∧ FL [] s0 s' ∧ ∃ z, v = some (vi z) ∧ (0 ≤ z ∧ z ≤ 1) ∧ ((z = 1 ∧ dsF s0 244 a b) ∨ (z = 0 ∧ ¬ dsF s0 244 a b))) := by
  have f0 : FL [] s0 s0 := FL.rf
  show xe none 20 0 [(0, .ref 244), (1, vi a), (2, vj b)] [] s0 0 0 _
  refine x_A k20_0 (fun _ => rfl) ?_
  refine x_istore k20_1 (ls' := [(4, vi 0), (0, .ref 244), (1, vi a), (2, vj b)]) (by decide) rfl ?_
  refine x_ls (l := [(0, .ref 244), (1, vi a), (2, vj b), (4, vi 0)]) (show ([0, 1, 2, 4] : List Nat).Nodup from by decide) ⟨rfl, rfl, rfl, rfl, trivial⟩ ?_
  exact L_E_X1_disallows_244_3 s0 a b_a b b_b  (((6 - 0) + 1 : Int)).toNat s0 a b 0 hG0 f0 (by first | exact x_rb b_a rfl rfl | exact ⟨by omega, by omega⟩) b_b ⟨by decide, by decide⟩ (by omega) rfl (fun i hi => by omega)  (by omega)
set_option maxHeartbeats 8000000 in
theorem L_E_X1_barsTwo_244_2 (s0 : xS) (a : Int) (b_a : (-2147483648) ≤ a ∧ a ≤ 2147483647)  : ∀ (n : Nat) (s : xS) (x1 : Int) (x2 : Int) (hG : GI s) (f : FL [] s0 s) (b_x1 : (-2147483648) ≤ x1 ∧ x1 ≤ 2147483647) (b_x2 : 0 ≤ x2 ∧ x2 ≤ 6) (w_0 : x1 = a) (w_1 : ∀ i : Nat, (i : Int) < x2 → ¬ bkF s0 244 a i)  (hm : (6 - x2) < (n : Int)), xe none 21 2 [(0, .ref 244), (1, vi x1), (2, vi x2)] [] s 0 0 (fun s' v => GI s' ∧ FL [] s0 s' ∧ ∃ z, v = some (vi z) ∧ (0 ≤ z ∧ z ≤ 1) ∧ ((z = 1 ∧ bsF s0 244 a) ∨ (z = 0 ∧ ¬ bsF s0 244 a))) := by
  intro n
  induction n with
  | zero => intro s x1 x2 hG f b_x1 b_x2 w_0 w_1  hm; exfalso; omega
  | succ n ih =>
    intro s x1 x2 hG f b_x1 b_x2 w_0 w_1  hm
    refine x_A k21_2 (fun _ => rfl) ?_
    refine x_bipush k21_3 (by decide +kernel) ?_
    refine x_ic_ge k21_5 (t := 35) rfl (by first | exact x_rb b_x2 rfl rfl | exact ⟨by omega, by omega⟩) ⟨by decide, by decide⟩ (fun c50 => ?_) (fun c50 => ?_)
    · skip
      refine x_A k21_35 (fun _ => rfl) ?_
      exact x_zret k21_36 rfl ⟨by omega, by omega⟩ ⟨hG, f, 0, rfl, ⟨by decide, by decide⟩, (Or.inr ⟨rfl, fun ⟨k, hk, q⟩ => w_1 k (by omega) q⟩)⟩
    · skip
      refine x_A k21_8 (fun _ => rfl) ?_
      refine x_A k21_9 (fun _ => rfl) ?_
      refine x_callS k21_10 (y := 19) (n := 2) (w0 := 0) (w1 := 2) (as := [vi x1, vi x2]) (rest := []) (by decide +kernel) rfl rfl rfl rfl (xe_mono (E_X1_hasKey s hG x1 (by first | exact x_rb b_x1 rfl rfl | exact ⟨by omega, by omega⟩) x2 (by first | exact x_rb b_x2 rfl rfl | exact ⟨by omega, by omega⟩)) ?_)
      rintro s52 v ⟨-, t_s52, z51, rfl, g_z51, xp_z51⟩
      rw [t_s52.nil]
      try rw [t_s52.nil] at xp_z51
      show xe none 21 13 [(0, .ref 244), (1, vi x1), (2, vi x2)] [vi z51] s 0 0 _
      have hk := xp_z51
      rw [show x1 = a by omega] at hk
      refine x_if_eq k21_13 (t := 29) rfl (by first | exact x_rbe e_z51 g_z51 rfl rfl | exact x_rb g_z51 rfl rfl | exact ⟨by omega, by omega⟩) (fun c53 => ?_) (fun c53 => ?_)
      · skip
        refine x_iinc k21_29 (ls' := [(2, vi (x2 + 1)), (0, .ref 244), (1, vi x1)]) rfl (by decide) rfl ?_
        refine x_goto k21_32 (t := 2) rfl ?_
        refine x_ls (l := [(0, .ref 244), (1, vi x1), (2, vi (x2 + 1))]) (show ([0, 1, 2] : List Nat).Nodup from by decide) ⟨rfl, rfl, rfl, trivial⟩ ?_
        exact ih s x1 (x2 + 1) hG f (by first | exact x_rb b_x1 rfl rfl | exact ⟨by omega, by omega⟩) ⟨by omega, by omega⟩ (by omega) (no_st w_1 (by omega) (fun q => by have q1 := q.1; rw [(hk.resolve_left (fun w => by omega)).2] at q1; cases q1))  (by omega)
      · skip
        refine x_A k21_16 (fun _ => rfl) ?_
        refine x_getR k21_17 (f := 3) rfl (q := 244) (n := 8) (kd := 14) ⟨by decide, rfl⟩ (q2 := 247) (by decide) rfl ?_
        refine x_A k21_20 (fun _ => rfl) ?_
        refine x_iald k21_21 (q := 247) (n := 6) ⟨by decide, rfl⟩ (by decide) (by first | exact x_rbl b_x2 rfl rfl | exact ⟨by omega, by omega⟩) ?_
        refine x_top (fun z54 e_z54 => ?_)
        have g_z54 : (-2147483648) ≤ s 247 x2.toNat ∧ s 247 x2.toNat ≤ 2147483647 := hG 247 x2.toNat
        refine x_A k21_22 (fun _ => rfl) ?_
        refine x_iand_b k21_23 (fun z55 i_z55 u_z55 => ?_)
        have g_z55 := i_z55
        unfold in32 at g_z55
        refine x_if_eq k21_24 (t := 29) rfl (by first | exact x_rbe e_z55 g_z55 rfl rfl | exact x_rb g_z55 rfl rfl | exact ⟨by omega, by omega⟩) (fun c56 => ?_) (fun c56 => ?_)
        · skip
          refine x_iinc k21_29 (ls' := [(2, vi (x2 + 1)), (0, .ref 244), (1, vi x1)]) rfl (by decide) rfl ?_
          refine x_goto k21_32 (t := 2) rfl ?_
          refine x_ls (l := [(0, .ref 244), (1, vi x1), (2, vi (x2 + 1))]) (show ([0, 1, 2] : List Nat).Nodup from by decide) ⟨rfl, rfl, rfl, trivial⟩ ?_
          exact ih s x1 (x2 + 1) hG f (by first | exact x_rb b_x1 rfl rfl | exact ⟨by omega, by omega⟩) ⟨by omega, by omega⟩ (by omega) (no_st w_1 (by omega) (fun ⟨q1, x, hx, q2, q3⟩ => (bi_dis i_z55 u_z55).mp (by omega) x hx ⟨by rw [← e_z54.symm, f.nil]; exact q2, by rw [show x1 = a by omega]; exact q3⟩))  (by omega)
        · skip
          refine x_A k21_27 (fun _ => rfl) ?_
          exact x_zret k21_28 rfl ⟨by omega, by omega⟩ ⟨hG, f, 1, rfl, ⟨by decide, by decide⟩, (Or.inl ⟨rfl, x2.toNat, by omega, (hk.resolve_right (fun w => by omega)).2, (by obtain ⟨x, hx, q1, q2⟩ := bi_com i_z55 u_z55 (by omega); exact ⟨x, hx, by show bi (s0 247 x2.toNat) x = true; rw [← f.nil, e_z54.symm]; exact q1, by rw [show a = x1 by omega]; exact q2⟩)⟩)⟩
set_option maxHeartbeats 8000000 in
theorem E_X1_barsTwo_244 (s0 : xS) (hG0 : GI s0) (a : Int) (b_a : (-2147483648) ≤ a ∧ a ≤ 2147483647) : xe none 21 0 (lv_args 0 [.ref 244, vi a]) [] s0 0 0 (fun s' v => GI s' ∧ FL [] s0 s' ∧ ∃ z, v = some (vi z) ∧ (0 ≤ z ∧ z ≤ 1) ∧ ((z = 1 ∧ bsF s0 244 a) ∨ (z = 0 ∧ ¬ bsF s0 244 a))) := by
  have f0 : FL [] s0 s0 := FL.rf
  show xe none 21 0 [(0, .ref 244), (1, vi a)] [] s0 0 0 _
  refine x_A k21_0 (fun _ => rfl) ?_
  refine x_istore_n k21_1 (ls' := [(2, vi 0), (0, .ref 244), (1, vi a)]) (by decide) rfl ?_
  refine x_ls (l := [(0, .ref 244), (1, vi a), (2, vi 0)]) (show ([0, 1, 2] : List Nat).Nodup from by decide) ⟨rfl, rfl, rfl, trivial⟩ ?_
  exact L_E_X1_barsTwo_244_2 s0 a b_a  (((6 - 0) + 1 : Int)).toNat s0 a 0 hG0 f0 (by first | exact x_rb b_a rfl rfl | exact ⟨by omega, by omega⟩) ⟨by decide, by decide⟩ (by omega) (fun i hi => by omega)  (by omega)
set_option maxHeartbeats 8000000 in
theorem L_E_X1_countSense_244_5 (s0 : xS) (a : Int) (b_a : (-2147483648) ≤ a ∧ a ≤ 2147483647) (b : Int) (b_b : (-2147483648) ≤ b ∧ b ≤ 2147483647)  : ∀ (n : Nat) (s : xS) (x1 : Int) (x2 : Int) (x3 : Int) (x4 : Int) (hG : GI s) (f : FL [] s0 s) (b_x1 : (-2147483648) ≤ x1 ∧ x1 ≤ 2147483647) (b_x2 : (-2147483648) ≤ x2 ∧ x2 ≤ 2147483647) (b_x3 : 0 ≤ x3 ∧ x3 ≤ 7) (b_x4 : 0 ≤ x4 ∧ x4 ≤ 6) (r_3_4 : x3 ≤ x4 + 0) (w_0 : x1 = a) (w_1 : x2 = b) (w_2 : x3 ≤ x4) (w_3 : x3 = ctp (fun k => bi a k = true ∧ s0 245 k = b) x4.toNat)  (hm : (6 - x4) < (n : Int)), xe none 22 5 [(0, .ref 244), (1, vi x1), (2, vi x2), (3, vi x3), (4, vi x4)] [] s 0 0 (fun s' v => GI s' ∧ FL [] s0 s' ∧ ∃ z, v = some (vi z) ∧ (0 ≤ z ∧ z ≤ 6) ∧ (z = ctp (fun k => bi a k = true ∧ s0 245 k = b) 6)) := by
  intro n
  induction n with
  | zero => intro s x1 x2 x3 x4 hG f b_x1 b_x2 b_x3 b_x4 r_3_4 w_0 w_1 w_2 w_3  hm; exfalso; omega
  | succ n ih =>
    intro s x1 x2 x3 x4 hG f b_x1 b_x2 b_x3 b_x4 r_3_4 w_0 w_1 w_2 w_3  hm
    refine x_A k22_5 (fun _ => rfl) ?_
    refine x_bipush k22_7 (by decide +kernel) ?_
    refine x_ic_ge k22_9 (t := 41) rfl (by first | exact x_rb b_x4 rfl rfl | exact ⟨by omega, by omega⟩) ⟨by decide, by decide⟩ (fun c49 => ?_) (fun c49 => ?_)
    · skip
      refine x_A k22_41 (fun _ => rfl) ?_
      exact x_iret k22_42 rfl ⟨hG, f, x3, rfl, (by first | exact x_rb b_x3 rfl rfl | exact ⟨by omega, by omega⟩), (by have w := w_3; rw [show x4.toNat = 6 by omega] at w; exact w)⟩
    · skip
      refine x_A k22_12 (fun _ => rfl) ?_
      refine x_A k22_13 (fun _ => rfl) ?_
      refine x_callS k22_15 (y := 19) (n := 2) (w0 := 0) (w1 := 2) (as := [vi x1, vi x4]) (rest := []) (by decide +kernel) rfl rfl rfl rfl (xe_mono (E_X1_hasKey s hG x1 (by first | exact x_rb b_x1 rfl rfl | exact ⟨by omega, by omega⟩) x4 (by first | exact x_rb b_x4 rfl rfl | exact ⟨by omega, by omega⟩)) ?_)
      rintro s51 v ⟨-, t_s51, z50, rfl, g_z50, xp_z50⟩
      rw [t_s51.nil]
      try rw [t_s51.nil] at xp_z50
      show xe none 22 18 [(0, .ref 244), (1, vi x1), (2, vi x2), (3, vi x3), (4, vi x4)] [vi z50] s 0 0 _
      have hk := xp_z50
      rw [show x1 = a by omega] at hk
      have cs := ctp_s (fun k => bi a k = true ∧ s0 245 k = b) (k := x4) (by omega)
      refine x_if_eq k22_18 (t := 35) rfl (by first | exact x_rbe e_z50 g_z50 rfl rfl | exact x_rb g_z50 rfl rfl | exact ⟨by omega, by omega⟩) (fun c52 => ?_) (fun c52 => ?_)
      · skip
        refine x_iinc k22_35 (ls' := [(4, vi (x4 + 1)), (0, .ref 244), (1, vi x1), (2, vi x2), (3, vi x3)]) rfl (by decide) rfl ?_
        refine x_goto k22_38 (t := 5) rfl ?_
        refine x_ls (l := [(0, .ref 244), (1, vi x1), (2, vi x2), (3, vi x3), (4, vi (x4 + 1))]) (show ([0, 1, 2, 3, 4] : List Nat).Nodup from by decide) ⟨rfl, rfl, rfl, rfl, rfl, trivial⟩ ?_
        exact ih s x1 x2 x3 (x4 + 1) hG f (by first | exact x_rb b_x1 rfl rfl | exact ⟨by omega, by omega⟩) (by first | exact x_rb b_x2 rfl rfl | exact ⟨by omega, by omega⟩) (by first | exact x_rb b_x3 rfl rfl | exact ⟨by omega, by omega⟩) ⟨by omega, by omega⟩ (by omega) (by omega) (by omega) (by omega) (by have q := cs.2 (fun q => by have q1 := q.1; rw [(hk.resolve_left (fun w => by omega)).2] at q1; cases q1); omega)  (by omega)
      · skip
        refine x_A k22_21 (fun _ => rfl) ?_
        refine x_getR k22_22 (f := 1) rfl (q := 244) (n := 8) (kd := 14) ⟨by decide, rfl⟩ (q2 := 245) (by decide) rfl ?_
        refine x_A k22_25 (fun _ => rfl) ?_
        refine x_iald k22_27 (q := 245) (n := 6) ⟨by decide, rfl⟩ (by decide) (by first | exact x_rbl b_x4 rfl rfl | exact ⟨by omega, by omega⟩) ?_
        refine x_top (fun z53 e_z53 => ?_)
        have g_z53 : (-2147483648) ≤ s 245 x4.toNat ∧ s 245 x4.toNat ≤ 2147483647 := hG 245 x4.toNat
        refine x_A k22_28 (fun _ => rfl) ?_
        refine x_ic_ne k22_29 (t := 35) rfl (by first | exact x_rbe e_z53 g_z53 rfl rfl | exact x_rb g_z53 rfl rfl | exact ⟨by omega, by omega⟩) (by first | exact x_rb b_x2 rfl rfl | exact ⟨by omega, by omega⟩) (fun c54 => ?_) (fun c54 => ?_)
        · skip
          refine x_iinc k22_35 (ls' := [(4, vi (x4 + 1)), (0, .ref 244), (1, vi x1), (2, vi x2), (3, vi x3)]) rfl (by decide) rfl ?_
          refine x_goto k22_38 (t := 5) rfl ?_
          refine x_ls (l := [(0, .ref 244), (1, vi x1), (2, vi x2), (3, vi x3), (4, vi (x4 + 1))]) (show ([0, 1, 2, 3, 4] : List Nat).Nodup from by decide) ⟨rfl, rfl, rfl, rfl, rfl, trivial⟩ ?_
          exact ih s x1 x2 x3 (x4 + 1) hG f (by first | exact x_rb b_x1 rfl rfl | exact ⟨by omega, by omega⟩) (by first | exact x_rb b_x2 rfl rfl | exact ⟨by omega, by omega⟩) (by first | exact x_rb b_x3 rfl rfl | exact ⟨by omega, by omega⟩) ⟨by omega, by omega⟩ (by omega) (by omega) (by omega) (by omega) (by have q := cs.2 (fun q => by have q2 := q.2; rw [← f.nil] at q2; omega); omega)  (by omega)
        · skip
          refine x_iinc k22_32 (ls' := [(3, vi (x3 + 1)), (0, .ref 244), (1, vi x1), (2, vi x2), (4, vi x4)]) rfl (by decide) rfl ?_
          refine x_iinc k22_35 (ls' := [(4, vi (x4 + 1)), (3, vi (x3 + 1)), (0, .ref 244), (1, vi x1), (2, vi x2)]) rfl (by decide) rfl ?_
          refine x_goto k22_38 (t := 5) rfl ?_
          refine x_ls (l := [(0, .ref 244), (1, vi x1), (2, vi x2), (3, vi (x3 + 1)), (4, vi (x4 + 1))]) (show ([0, 1, 2, 3, 4] : List Nat).Nodup from by decide) ⟨rfl, rfl, rfl, rfl, rfl, trivial⟩ ?_
          exact ih s x1 x2 (x3 + 1) (x4 + 1) hG f (by first | exact x_rb b_x1 rfl rfl | exact ⟨by omega, by omega⟩) (by first | exact x_rb b_x2 rfl rfl | exact ⟨by omega, by omega⟩) ⟨by omega, by omega⟩ ⟨by omega, by omega⟩ (by omega) (by omega) (by omega) (by omega) (by have q := cs.1 ⟨(hk.resolve_right (fun w => by omega)).2, by rw [← f.nil]; omega⟩; omega)  (by omega)
set_option maxHeartbeats 8000000 in
theorem E_X1_countSense_244 (s0 : xS) (hG0 : GI s0) (a : Int) (b_a : (-2147483648) ≤ a ∧ a ≤ 2147483647) (b : Int) (b_b : (-2147483648) ≤ b ∧ b ≤ 2147483647) : xe none 22 0 (lv_args 0 [.ref 244, vi a, vi b]) [] s0 0 0 (fun s' v => GI s' ∧ FL [] s0 s' ∧ ∃ z, v = some (vi z) ∧ (0 ≤ z ∧ z ≤ 6) ∧ (z = ctp (fun k => bi a k = true ∧ s0 245 k = b) 6)) := by
  have f0 : FL [] s0 s0 := FL.rf
  show xe none 22 0 [(0, .ref 244), (1, vi a), (2, vi b)] [] s0 0 0 _
  refine x_A k22_0 (fun _ => rfl) ?_
  refine x_istore_n k22_1 (ls' := [(3, vi 0), (0, .ref 244), (1, vi a), (2, vi b)]) (by decide) rfl ?_
  refine x_A k22_2 (fun _ => rfl) ?_
  refine x_istore k22_3 (ls' := [(4, vi 0), (3, vi 0), (0, .ref 244), (1, vi a), (2, vi b)]) (by decide) rfl ?_
  refine x_ls (l := [(0, .ref 244), (1, vi a), (2, vi b), (3, vi 0), (4, vi 0)]) (show ([0, 1, 2, 3, 4] : List Nat).Nodup from by decide) ⟨rfl, rfl, rfl, rfl, rfl, trivial⟩ ?_
  exact L_E_X1_countSense_244_5 s0 a b_a b b_b  (((6 - 0) + 1 : Int)).toNat s0 a b 0 0 hG0 f0 (by first | exact x_rb b_a rfl rfl | exact ⟨by omega, by omega⟩) (by first | exact x_rb b_b rfl rfl | exact ⟨by omega, by omega⟩) ⟨by decide, by decide⟩ ⟨by decide, by decide⟩ (by omega) (by omega) (by omega) (by omega) (show _ = _ from rfl)  (by omega)
