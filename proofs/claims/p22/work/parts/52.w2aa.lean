set_option maxHeartbeats 8000000 in
theorem L_E_X2_picturesOf_50_5 (s0 : xS) (a : Int) (b_a : (-2147483648) ≤ a ∧ a ≤ 2147483647) (b : Int) (b_b : (-2147483648) ≤ b ∧ b ≤ 2147483647)  : ∀ (n : Nat) (s : xS) (x1 : Int) (x2 : Int) (x3 : Int) (x5 : Int) (x1000 : Int) (hG : GI s) (f : FL [] s0 s) (b_x1 : (-2147483648) ≤ x1 ∧ x1 ≤ 2147483647) (b_x2 : (-2147483648) ≤ x2 ∧ x2 ≤ 2147483647) (b_x3 : in64 x3) (b_x5 : 0 ≤ x5 ∧ x5 ≤ 120) (b_x1000 : 0 ≤ x1000 ∧ x1000 ≤ 120) (r_5_1000 : x5 ≤ x1000 + 0) (w_0 : x1 = a ∧ x2 = b ∧ x1000 = s0 50 6 ∧ x5 ≤ x1000) (w_1 : ∀ k : Nat, k < 64 → (bt x3 k = true ↔ ∃ g : Int, (0 ≤ g ∧ g < x5) ∧ (fun g : Int => s0 53 g.toNat = a ∧ s0 55 g.toNat ≤ b) g ∧ (fun g : Int => s0 51 g.toNat) g = (k : Int))) (e_x1000 : x1000 = s 50 6)  (hm : (120 - x5) < (n : Int)), xe none 27 5 [(0, .ref 50), (1, vi x1), (2, vi x2), (3, vj x3), (5, vi x5)] [] s 0 0 (fun s' v => GI s' ∧ FL [] s0 s' ∧ ∃ z, v = some (vj z) ∧ in64 z ∧ (∀ k : Nat, k < 64 → (bt z k = true ↔ hdC s0 a b k))) := by
  intro n
  induction n with
  | zero => intro s x1 x2 x3 x5 x1000 hG f b_x1 b_x2 b_x3 b_x5 b_x1000 r_5_1000 w_0 w_1 e_x1000  hm; exfalso; omega
  | succ n ih =>
    intro s x1 x2 x3 x5 x1000 hG f b_x1 b_x2 b_x3 b_x5 b_x1000 r_5_1000 w_0 w_1 e_x1000  hm
    refine x_A k27_5 (fun _ => rfl) ?_
    refine x_A k27_7 (fun _ => rfl) ?_
    refine x_getI k27_8 (f := 6) rfl (q := 50) (n := 7) (kd := 6) ⟨by decide, rfl⟩ (by decide) rfl ?_
    refine x_rw (e_x1000.symm) ?_
    refine x_ic_ge k27_11 (t := 54) rfl ⟨by omega, by omega⟩ ⟨by omega, by omega⟩ (fun c180 => ?_) (fun c180 => ?_)
    · skip
      refine x_A k27_54 (fun _ => rfl) ?_
      exact x_lret k27_55 rfl ⟨hG, f, x3, rfl, b_x3, (fun k hk => by unfold hdC; rw [show s0 50 6 = x5 by omega]; exact w_1 k hk)⟩
    · skip
      refine x_A k27_14 (fun _ => rfl) ?_
      refine x_getR k27_15 (f := 2) rfl (q := 50) (n := 7) (kd := 6) ⟨by decide, rfl⟩ (q2 := 53) (by decide) rfl ?_
      refine x_A k27_18 (fun _ => rfl) ?_
      refine x_iald k27_20 (q := 53) (n := 120) ⟨by decide, rfl⟩ (by decide) ⟨by omega, by omega⟩ ?_
      refine x_top (fun z181 e_z181 => ?_)
      have g_z181 : (0 : Int) ≤ s 53 x5.toNat ∧ s 53 x5.toNat ≤ 7 := hG 53 x5.toNat
      refine x_A k27_21 (fun _ => rfl) ?_
      refine x_ic_ne k27_22 (t := 48) rfl ⟨by omega, by omega⟩ ⟨by omega, by omega⟩ (fun c182 => ?_) (fun c182 => ?_)
      · skip
        refine x_iinc k27_48 (ls' := [(5, vi (x5 + 1)), (0, .ref 50), (1, vi x1), (2, vi x2), (3, vj x3)]) rfl (by decide) rfl ?_
        refine x_goto k27_51 (t := 5) rfl ?_
        refine x_ls (l := [(0, .ref 50), (1, vi x1), (2, vi x2), (3, vj x3), (5, vi (x5 + 1))]) (show ([0, 1, 2, 3, 5] : List Nat).Nodup from by decide) ⟨rfl, rfl, rfl, rfl, rfl, trivial⟩ ?_
        exact ih s x1 x2 x3 (x5 + 1) x1000 hG f ⟨by omega, by omega⟩ ⟨by omega, by omega⟩ b_x3 ⟨by omega, by omega⟩ ⟨by omega, by omega⟩ (by omega) (by omega) (im_no (Q := (fun g : Int => s0 53 g.toNat = a ∧ s0 55 g.toNat ≤ b)) (F := (fun g : Int => s0 51 g.toNat)) w_1 (by show ¬ (s0 53 x5.toNat = a ∧ s0 55 x5.toNat ≤ b); rw [← f.nil]; omega)) (e_x1000.symm).symm  (by omega)
      · skip
        refine x_A k27_25 (fun _ => rfl) ?_
        refine x_getR k27_26 (f := 4) rfl (q := 50) (n := 7) (kd := 6) ⟨by decide, rfl⟩ (q2 := 55) (by decide) rfl ?_
        refine x_A k27_29 (fun _ => rfl) ?_
        refine x_iald k27_31 (q := 55) (n := 120) ⟨by decide, rfl⟩ (by decide) ⟨by omega, by omega⟩ ?_
        refine x_top (fun z183 e_z183 => ?_)
        have g_z183 : (0 : Int) ≤ s 55 x5.toNat ∧ s 55 x5.toNat ≤ 9 := hG 55 x5.toNat
        refine x_A k27_32 (fun _ => rfl) ?_
        refine x_ic_gt k27_33 (t := 48) rfl ⟨by omega, by omega⟩ ⟨by omega, by omega⟩ (fun c184 => ?_) (fun c184 => ?_)
        · skip
          refine x_iinc k27_48 (ls' := [(5, vi (x5 + 1)), (0, .ref 50), (1, vi x1), (2, vi x2), (3, vj x3)]) rfl (by decide) rfl ?_
          refine x_goto k27_51 (t := 5) rfl ?_
          refine x_ls (l := [(0, .ref 50), (1, vi x1), (2, vi x2), (3, vj x3), (5, vi (x5 + 1))]) (show ([0, 1, 2, 3, 5] : List Nat).Nodup from by decide) ⟨rfl, rfl, rfl, rfl, rfl, trivial⟩ ?_
          exact ih s x1 x2 x3 (x5 + 1) x1000 hG f ⟨by omega, by omega⟩ ⟨by omega, by omega⟩ b_x3 ⟨by omega, by omega⟩ ⟨by omega, by omega⟩ (by omega) (by omega) (im_no (Q := (fun g : Int => s0 53 g.toNat = a ∧ s0 55 g.toNat ≤ b)) (F := (fun g : Int => s0 51 g.toNat)) w_1 (by show ¬ (s0 53 x5.toNat = a ∧ s0 55 x5.toNat ≤ b); rw [← f.nil]; omega)) (e_x1000.symm).symm  (by omega)
        · skip
          refine x_A k27_36 (fun _ => rfl) ?_
          refine x_lconst k27_37 (z := 1) (by decide +kernel) ?_
          refine x_A k27_38 (fun _ => rfl) ?_
          refine x_getR k27_39 (f := 0) rfl (q := 50) (n := 7) (kd := 6) ⟨by decide, rfl⟩ (q2 := 51) (by decide) rfl ?_
          refine x_A k27_42 (fun _ => rfl) ?_
          refine x_iald k27_44 (q := 51) (n := 120) ⟨by decide, rfl⟩ (by decide) ⟨by omega, by omega⟩ ?_
          refine x_top (fun z185 e_z185 => ?_)
          have g_z185 : (0 : Int) ≤ s 51 x5.toNat ∧ s 51 x5.toNat ≤ 39 := hG 51 x5.toNat
          refine x_lshl1 k27_45 ⟨by omega, by omega⟩ (fun z186 b_z186 g_z186 => ?_)
          refine x_lor_b k27_46 (fun z187 b_z187 g_z187 => ?_)
          refine x_lstore_n k27_47 (ls' := [(3, vj z187), (0, .ref 50), (1, vi x1), (2, vi x2), (5, vi x5)]) (by decide) rfl ?_
          refine x_iinc k27_48 (ls' := [(5, vi (x5 + 1)), (3, vj z187), (0, .ref 50), (1, vi x1), (2, vi x2)]) rfl (by decide) rfl ?_
          refine x_goto k27_51 (t := 5) rfl ?_
          refine x_ls (l := [(0, .ref 50), (1, vi x1), (2, vi x2), (3, vj z187), (5, vi (x5 + 1))]) (show ([0, 1, 2, 3, 5] : List Nat).Nodup from by decide) ⟨rfl, rfl, rfl, rfl, rfl, trivial⟩ ?_
          exact ih s x1 x2 z187 (x5 + 1) x1000 hG f ⟨by omega, by omega⟩ ⟨by omega, by omega⟩ b_z187 ⟨by omega, by omega⟩ ⟨by omega, by omega⟩ (by omega) (by omega) (im_yes (Q := (fun g : Int => s0 53 g.toNat = a ∧ s0 55 g.toNat ≤ b)) (F := (fun g : Int => s0 51 g.toNat)) (p := z185) (by omega) w_1 (by show s0 53 x5.toNat = a ∧ s0 55 x5.toNat ≤ b; rw [← f.nil]; omega) (by omega) (by show s0 51 x5.toNat = _; rw [← f.nil]; exact e_z185.symm) g_z186 g_z187) (e_x1000.symm).symm  (by omega)
set_option maxHeartbeats 8000000 in
theorem E_X2_picturesOf_50 (s0 : xS) (hG0 : GI s0) (a : Int) (b_a : (-2147483648) ≤ a ∧ a ≤ 2147483647) (b : Int) (b_b : (-2147483648) ≤ b ∧ b ≤ 2147483647) : xe none 27 0 (lv_args 0 [.ref 50, vi a, vi b]) [] s0 0 0 (fun s' v => GI s' ∧ FL [] s0 s' ∧ ∃ z, v = some (vj z) ∧ in64 z ∧ (∀ k : Nat, k < 64 → (bt z k = true ↔ hdC s0 a b k))) := by
  have f0 : FL [] s0 s0 := FL.rf
  show xe none 27 0 [(0, .ref 50), (1, vi a), (2, vi b)] [] s0 0 0 _
  refine x_lconst k27_0 (z := 0) (by decide +kernel) ?_
  refine x_lstore_n k27_1 (ls' := [(3, vj 0), (0, .ref 50), (1, vi a), (2, vi b)]) (by decide) rfl ?_
  refine x_A k27_2 (fun _ => rfl) ?_
  refine x_istore k27_3 (ls' := [(5, vi 0), (3, vj 0), (0, .ref 50), (1, vi a), (2, vi b)]) (by decide) rfl ?_
  obtain ⟨z188, e_z188⟩ : ∃ z, z = s0 50 6 := ⟨_, rfl⟩
  have g_z188 : (0 : Int) ≤ s0 50 6 ∧ s0 50 6 ≤ 120 := hG0 50 6
  refine x_ls (l := [(0, .ref 50), (1, vi a), (2, vi b), (3, vj 0), (5, vi 0)]) (show ([0, 1, 2, 3, 5] : List Nat).Nodup from by decide) ⟨rfl, rfl, rfl, rfl, rfl, trivial⟩ ?_
  exact L_E_X2_picturesOf_50_5 s0 a b_a b b_b  (((120 - 0) + 1 : Int)).toNat s0 a b 0 0 z188 hG0 f0 ⟨by omega, by omega⟩ ⟨by omega, by omega⟩ ⟨by omega, by omega⟩ ⟨by omega, by omega⟩ ⟨by omega, by omega⟩ (by omega) (by omega) im_0 (e_z188.symm).symm  (by omega)
set_option maxHeartbeats 8000000 in
theorem L_E_X11_hasHand_256_6 (s0 : xS) (hG0 : GI s0) (a : Int) (b_a : (-2147483648) ≤ a ∧ a ≤ 2147483647) (b : Int) (b_b : (-2147483648) ≤ b ∧ b ≤ 2147483647) (d : Int) (b_d : (-2147483648) ≤ d ∧ d ≤ 2147483647) (pG1 : G1 s0) (pG3 : G3 s0)  : ∀ (n : Nat) (s : xS) (x1 : Int) (x2 : Int) (x3 : Int) (x4 : Int) (x5 : Int) (x1000 : Int) (hG : GI s) (f : FL [] s0 s) (b_x1 : (-2147483648) ≤ x1 ∧ x1 ≤ 2147483647) (b_x2 : (-2147483648) ≤ x2 ∧ x2 ≤ 2147483647) (b_x3 : (-2147483648) ≤ x3 ∧ x3 ≤ 2147483647) (b_x4 : 0 ≤ x4 ∧ x4 ≤ 1) (b_x5 : 0 ≤ x5 ∧ x5 ≤ 120) (b_x1000 : 0 ≤ x1000 ∧ x1000 ≤ 120) (r_4_5 : x4 ≤ x5 + 0) (r_5_1000 : x5 ≤ x1000 + 0) (r_4_1000 : x4 ≤ x1000 + 0) (w_0 : x1 = a ∧ x2 = b ∧ x3 = d ∧ x1000 = s0 256 10 ∧ x5 ≤ x1000) (w_1 : exI (fun g : Int => (s0 53 g.toNat = b ∧ s0 55 g.toNat ≤ d) ∧ s0 51 g.toNat = a) x4 x5) (e_x1000 : x1000 = s 256 10)  (hm : (120 - x5) < (n : Int)), xe none 201 6 [(0, .ref 256), (1, vi x1), (2, vi x2), (3, vi x3), (4, vi x4), (5, vi x5)] [] s 0 0 (fun s' v => GI s' ∧ FL [] s0 s' ∧ ∃ z, v = some (vi z) ∧ (0 ≤ z ∧ z ≤ 1) ∧ ((z = 1 ∧ hdC s0 b d a) ∨ (z = 0 ∧ ¬ hdC s0 b d a))) := by
  intro n
  induction n with
  | zero => intro s x1 x2 x3 x4 x5 x1000 hG f b_x1 b_x2 b_x3 b_x4 b_x5 b_x1000 r_4_5 r_5_1000 r_4_1000 w_0 w_1 e_x1000  hm; exfalso; omega
  | succ n ih =>
    intro s x1 x2 x3 x4 x5 x1000 hG f b_x1 b_x2 b_x3 b_x4 b_x5 b_x1000 r_4_5 r_5_1000 r_4_1000 w_0 w_1 e_x1000  hm
    refine x_A k201_6 (fun _ => rfl) ?_
    refine x_A k201_8 (fun _ => rfl) ?_
    refine x_getI k201_9 (f := 10) rfl (q := 256) (n := 62) (kd := 15) ⟨by decide, rfl⟩ (by decide) rfl ?_
    refine x_rw (e_x1000.symm) ?_
    refine x_ic_ge k201_12 (t := 66) rfl ⟨by omega, by omega⟩ ⟨by omega, by omega⟩ (fun c180 => ?_) (fun c180 => ?_)
    · skip
      refine x_A k201_66 (fun _ => rfl) ?_
      exact x_zret k201_68 rfl ⟨by omega, by omega⟩ ⟨hG, f, x4, rfl, ⟨by omega, by omega⟩, (by have pg_ := pG1.1; unfold hdC; rw [show s0 50 6 = x5 by omega]; exact w_1)⟩
    · skip
      refine x_A k201_15 (fun _ => rfl) ?_
      refine x_if_ne k201_17 (t := 53) rfl ⟨by omega, by omega⟩ (fun c181 => ?_) (fun c181 => ?_)
      · skip
        refine x_A k201_53 (fun _ => rfl) ?_
        refine x_goto k201_54 (t := 58) rfl ?_
        refine x_istore k201_58 (ls' := [(4, vi 1), (0, .ref 256), (1, vi x1), (2, vi x2), (3, vi x3), (5, vi x5)]) (by decide) rfl ?_
        refine x_iinc k201_60 (ls' := [(5, vi (x5 + 1)), (4, vi 1), (0, .ref 256), (1, vi x1), (2, vi x2), (3, vi x3)]) rfl (by decide) rfl ?_
        refine x_goto k201_63 (t := 6) rfl ?_
        refine x_ls (l := [(0, .ref 256), (1, vi x1), (2, vi x2), (3, vi x3), (4, vi 1), (5, vi (x5 + 1))]) (show ([0, 1, 2, 3, 4, 5] : List Nat).Nodup from by decide) ⟨rfl, rfl, rfl, rfl, rfl, rfl, trivial⟩ ?_
        exact ih s x1 x2 x3 1 (x5 + 1) x1000 hG f ⟨by omega, by omega⟩ ⟨by omega, by omega⟩ ⟨by omega, by omega⟩ ⟨by omega, by omega⟩ ⟨by omega, by omega⟩ ⟨by omega, by omega⟩ (by omega) (by omega) (by omega) (by omega) (w_1.on (by omega)) (e_x1000.symm).symm  (by omega)
      · skip
        have pg_ := pG1.1
        obtain ⟨⟨y51, y52, y54, y55⟩, -⟩ := pG3.2 x5 (by omega) (by omega) (by omega)
        have y53 := (pG1.2 x5 (by omega) (by omega) (by omega)).1
        rw [← f.nil] at y51 y55 y53
        refine x_A k201_20 (fun _ => rfl) ?_
        refine x_getR k201_21 (f := 11) rfl (q := 256) (n := 62) (kd := 15) ⟨by decide, rfl⟩ (q2 := 264) (by decide) rfl ?_
        refine x_A k201_24 (fun _ => rfl) ?_
        refine x_iald k201_26 (q := 264) (n := 120) ⟨by decide, rfl⟩ (by decide) ⟨by omega, by omega⟩ ?_
        refine x_top (fun z182 e_z182 => ?_)
        have g_z182 : (0 : Int) ≤ s 264 x5.toNat ∧ s 264 x5.toNat ≤ 39 := hG 264 x5.toNat
        refine x_A k201_27 (fun _ => rfl) ?_
        refine x_ic_ne k201_28 (t := 57) rfl ⟨by omega, by omega⟩ ⟨by omega, by omega⟩ (fun c183 => ?_) (fun c183 => ?_)
        · skip
          refine x_A k201_57 (fun _ => rfl) ?_
          refine x_istore k201_58 (ls' := [(4, vi 0), (0, .ref 256), (1, vi x1), (2, vi x2), (3, vi x3), (5, vi x5)]) (by decide) rfl ?_
          refine x_iinc k201_60 (ls' := [(5, vi (x5 + 1)), (4, vi 0), (0, .ref 256), (1, vi x1), (2, vi x2), (3, vi x3)]) rfl (by decide) rfl ?_
          refine x_goto k201_63 (t := 6) rfl ?_
          refine x_ls (l := [(0, .ref 256), (1, vi x1), (2, vi x2), (3, vi x3), (4, vi 0), (5, vi (x5 + 1))]) (show ([0, 1, 2, 3, 4, 5] : List Nat).Nodup from by decide) ⟨rfl, rfl, rfl, rfl, rfl, rfl, trivial⟩ ?_
          exact ih s x1 x2 x3 0 (x5 + 1) x1000 hG f ⟨by omega, by omega⟩ ⟨by omega, by omega⟩ ⟨by omega, by omega⟩ ⟨by omega, by omega⟩ ⟨by omega, by omega⟩ ⟨by omega, by omega⟩ (by omega) (by omega) (by omega) (by omega) (w_1.no (by omega) (by show ¬ ((s0 53 x5.toNat = b ∧ s0 55 x5.toNat ≤ d) ∧ s0 51 x5.toNat = a); rw [← f.nil]; omega)) (e_x1000.symm).symm  (by omega)
        · skip
          refine x_A k201_31 (fun _ => rfl) ?_
          refine x_getR k201_32 (f := 13) rfl (q := 256) (n := 62) (kd := 15) ⟨by decide, rfl⟩ (q2 := 266) (by decide) rfl ?_
          refine x_A k201_35 (fun _ => rfl) ?_
          refine x_iald k201_37 (q := 266) (n := 120) ⟨by decide, rfl⟩ (by decide) ⟨by omega, by omega⟩ ?_
          refine x_top (fun z184 e_z184 => ?_)
          have g_z184 : (0 : Int) ≤ s 266 x5.toNat ∧ s 266 x5.toNat ≤ 7 := hG 266 x5.toNat
          refine x_A k201_38 (fun _ => rfl) ?_
          refine x_ic_ne k201_39 (t := 57) rfl ⟨by omega, by omega⟩ ⟨by omega, by omega⟩ (fun c185 => ?_) (fun c185 => ?_)
          · skip
            refine x_A k201_57 (fun _ => rfl) ?_
            refine x_istore k201_58 (ls' := [(4, vi 0), (0, .ref 256), (1, vi x1), (2, vi x2), (3, vi x3), (5, vi x5)]) (by decide) rfl ?_
            refine x_iinc k201_60 (ls' := [(5, vi (x5 + 1)), (4, vi 0), (0, .ref 256), (1, vi x1), (2, vi x2), (3, vi x3)]) rfl (by decide) rfl ?_
            refine x_goto k201_63 (t := 6) rfl ?_
            refine x_ls (l := [(0, .ref 256), (1, vi x1), (2, vi x2), (3, vi x3), (4, vi 0), (5, vi (x5 + 1))]) (show ([0, 1, 2, 3, 4, 5] : List Nat).Nodup from by decide) ⟨rfl, rfl, rfl, rfl, rfl, rfl, trivial⟩ ?_
            exact ih s x1 x2 x3 0 (x5 + 1) x1000 hG f ⟨by omega, by omega⟩ ⟨by omega, by omega⟩ ⟨by omega, by omega⟩ ⟨by omega, by omega⟩ ⟨by omega, by omega⟩ ⟨by omega, by omega⟩ (by omega) (by omega) (by omega) (by omega) (w_1.no (by omega) (by show ¬ ((s0 53 x5.toNat = b ∧ s0 55 x5.toNat ≤ d) ∧ s0 51 x5.toNat = a); rw [← f.nil]; omega)) (e_x1000.symm).symm  (by omega)
          · skip
            refine x_A k201_42 (fun _ => rfl) ?_
            refine x_getR k201_43 (f := 15) rfl (q := 256) (n := 62) (kd := 15) ⟨by decide, rfl⟩ (q2 := 268) (by decide) rfl ?_
            refine x_A k201_46 (fun _ => rfl) ?_
            refine x_iald k201_48 (q := 268) (n := 120) ⟨by decide, rfl⟩ (by decide) ⟨by omega, by omega⟩ ?_
            refine x_top (fun z186 e_z186 => ?_)
            have g_z186 : (0 : Int) ≤ s 268 x5.toNat ∧ s 268 x5.toNat ≤ 9 := hG 268 x5.toNat
            refine x_A k201_49 (fun _ => rfl) ?_
            refine x_ic_gt k201_50 (t := 57) rfl ⟨by omega, by omega⟩ ⟨by omega, by omega⟩ (fun c187 => ?_) (fun c187 => ?_)
            · skip
              refine x_A k201_57 (fun _ => rfl) ?_
              refine x_istore k201_58 (ls' := [(4, vi 0), (0, .ref 256), (1, vi x1), (2, vi x2), (3, vi x3), (5, vi x5)]) (by decide) rfl ?_
              refine x_iinc k201_60 (ls' := [(5, vi (x5 + 1)), (4, vi 0), (0, .ref 256), (1, vi x1), (2, vi x2), (3, vi x3)]) rfl (by decide) rfl ?_
              refine x_goto k201_63 (t := 6) rfl ?_
              refine x_ls (l := [(0, .ref 256), (1, vi x1), (2, vi x2), (3, vi x3), (4, vi 0), (5, vi (x5 + 1))]) (show ([0, 1, 2, 3, 4, 5] : List Nat).Nodup from by decide) ⟨rfl, rfl, rfl, rfl, rfl, rfl, trivial⟩ ?_
              exact ih s x1 x2 x3 0 (x5 + 1) x1000 hG f ⟨by omega, by omega⟩ ⟨by omega, by omega⟩ ⟨by omega, by omega⟩ ⟨by omega, by omega⟩ ⟨by omega, by omega⟩ ⟨by omega, by omega⟩ (by omega) (by omega) (by omega) (by omega) (w_1.no (by omega) (by show ¬ ((s0 53 x5.toNat = b ∧ s0 55 x5.toNat ≤ d) ∧ s0 51 x5.toNat = a); rw [← f.nil]; omega)) (e_x1000.symm).symm  (by omega)
            · skip
              refine x_A k201_53 (fun _ => rfl) ?_
              refine x_goto k201_54 (t := 58) rfl ?_
              refine x_istore k201_58 (ls' := [(4, vi 1), (0, .ref 256), (1, vi x1), (2, vi x2), (3, vi x3), (5, vi x5)]) (by decide) rfl ?_
              refine x_iinc k201_60 (ls' := [(5, vi (x5 + 1)), (4, vi 1), (0, .ref 256), (1, vi x1), (2, vi x2), (3, vi x3)]) rfl (by decide) rfl ?_
              refine x_goto k201_63 (t := 6) rfl ?_
              refine x_ls (l := [(0, .ref 256), (1, vi x1), (2, vi x2), (3, vi x3), (4, vi 1), (5, vi (x5 + 1))]) (show ([0, 1, 2, 3, 4, 5] : List Nat).Nodup from by decide) ⟨rfl, rfl, rfl, rfl, rfl, rfl, trivial⟩ ?_
              exact ih s x1 x2 x3 1 (x5 + 1) x1000 hG f ⟨by omega, by omega⟩ ⟨by omega, by omega⟩ ⟨by omega, by omega⟩ ⟨by omega, by omega⟩ ⟨by omega, by omega⟩ ⟨by omega, by omega⟩ (by omega) (by omega) (by omega) (by omega) (exI_yes (by omega) (by show (s0 53 x5.toNat = b ∧ s0 55 x5.toNat ≤ d) ∧ s0 51 x5.toNat = a; rw [← f.nil]; omega)) (e_x1000.symm).symm  (by omega)
set_option maxHeartbeats 8000000 in
theorem E_X11_hasHand_256 (s0 : xS) (hG0 : GI s0) (a : Int) (b_a : (-2147483648) ≤ a ∧ a ≤ 2147483647) (b : Int) (b_b : (-2147483648) ≤ b ∧ b ≤ 2147483647) (d : Int) (b_d : (-2147483648) ≤ d ∧ d ≤ 2147483647) (pG1 : G1 s0) (pG3 : G3 s0) : xe none 201 0 (lv_args 0 [.ref 256, vi a, vi b, vi d]) [] s0 0 0 (fun s' v => GI s' ∧ FL [] s0 s' ∧ ∃ z, v = some (vi z) ∧ (0 ≤ z ∧ z ≤ 1) ∧ ((z = 1 ∧ hdC s0 b d a) ∨ (z = 0 ∧ ¬ hdC s0 b d a))) := by
  have f0 : FL [] s0 s0 := FL.rf
  show xe none 201 0 [(0, .ref 256), (1, vi a), (2, vi b), (3, vi d)] [] s0 0 0 _
  refine x_A k201_0 (fun _ => rfl) ?_
  refine x_istore k201_1 (ls' := [(4, vi 0), (0, .ref 256), (1, vi a), (2, vi b), (3, vi d)]) (by decide) rfl ?_
  refine x_A k201_3 (fun _ => rfl) ?_
  refine x_istore k201_4 (ls' := [(5, vi 0), (4, vi 0), (0, .ref 256), (1, vi a), (2, vi b), (3, vi d)]) (by decide) rfl ?_
  obtain ⟨z188, e_z188⟩ : ∃ z, z = s0 256 10 := ⟨_, rfl⟩
  have g_z188 : (0 : Int) ≤ s0 256 10 ∧ s0 256 10 ≤ 120 := hG0 256 10
  refine x_ls (l := [(0, .ref 256), (1, vi a), (2, vi b), (3, vi d), (4, vi 0), (5, vi 0)]) (show ([0, 1, 2, 3, 4, 5] : List Nat).Nodup from by decide) ⟨rfl, rfl, rfl, rfl, rfl, rfl, trivial⟩ ?_
  exact L_E_X11_hasHand_256_6 s0 hG0 a b_a b b_b d b_d pG1 pG3  (((120 - 0) + 1 : Int)).toNat s0 a b d 0 0 z188 hG0 f0 ⟨by omega, by omega⟩ ⟨by omega, by omega⟩ ⟨by omega, by omega⟩ ⟨by omega, by omega⟩ ⟨by omega, by omega⟩ ⟨by omega, by omega⟩ (by omega) (by omega) (by omega) (by omega) exI_0 (e_z188.symm).symm  (by omega)
set_option maxHeartbeats 8000000 in
theorem E_X3_all_46 (s0 : xS) (hG0 : GI s0)  : xe none 31 0 (lv_args 0 [.ref 46]) [] s0 0 0 (fun s' v => GI s' ∧ FL [] s0 s' ∧ ∃ z, v = some (vj z) ∧ in64 z ∧ (∀ k : Nat, k < 64 → (bt z k = true ↔ (k : Int) < s0 46 3))) := by
  have f0 : FL [] s0 s0 := FL.rf
  show xe none 31 0 [(0, .ref 46)] [] s0 0 0 _
  refine x_lconst k31_0 (z := 1) (by decide +kernel) ?_
  refine x_A k31_1 (fun _ => rfl) ?_
  refine x_getI k31_2 (f := 3) rfl (q := 46) (n := 4) (kd := 5) ⟨by decide, rfl⟩ (by decide) rfl ?_
  refine x_top (fun z1 e_z1 => ?_)
  have g_z1 : (0 : Int) ≤ s0 46 3 ∧ s0 46 3 ≤ 40 := hG0 46 3
  refine x_lshl1 k31_5 ⟨by omega, by omega⟩ (fun z2 b_z2 g_z2 => ?_)
  refine x_lconst k31_6 (z := 1) (by decide +kernel) ?_
  refine x_lsub_u k31_7 (fun z3 b_z3 u_z3 => ?_)
  exact x_lret k31_8 rfl ⟨hG0, f0, z3, rfl, b_z3, (fun k hk => (all_bits (by omega) g_z2 u_z3 k hk).trans ⟨fun w => by omega, fun w => by omega⟩)⟩
set_option maxHeartbeats 8000000 in
theorem L_E_X3_atPlace_46_5 (s0 : xS) (a : Int) (b_a : (-2147483648) ≤ a ∧ a ≤ 2147483647)  : ∀ (n : Nat) (s : xS) (x1 : Int) (x2 : Int) (x4 : Int) (x1000 : Int) (hG : GI s) (f : FL [] s0 s) (b_x1 : (-2147483648) ≤ x1 ∧ x1 ≤ 2147483647) (b_x2 : in64 x2) (b_x4 : 0 ≤ x4 ∧ x4 ≤ 40) (b_x1000 : 0 ≤ x1000 ∧ x1000 ≤ 40) (r_4_1000 : x4 ≤ x1000 + 0) (w_0 : x1 = a ∧ x1000 = s0 46 3 ∧ x4 ≤ x1000) (w_1 : ∀ k : Nat, k < 64 → (bt x2 k = true ↔ (k : Int) < x4 ∧ (fun k : Nat => s0 48 k = a) k)) (e_x1000 : x1000 = s 46 3)  (hm : (40 - x4) < (n : Int)), xe none 33 5 [(0, .ref 46), (1, vi x1), (2, vj x2), (4, vi x4)] [] s 0 0 (fun s' v => GI s' ∧ FL [] s0 s' ∧ ∃ z, v = some (vj z) ∧ in64 z ∧ (∀ k : Nat, k < 64 → (bt z k = true ↔ (k : Int) < s0 46 3 ∧ s0 48 k = a))) := by
  intro n
  induction n with
  | zero => intro s x1 x2 x4 x1000 hG f b_x1 b_x2 b_x4 b_x1000 r_4_1000 w_0 w_1 e_x1000  hm; exfalso; omega
  | succ n ih =>
    intro s x1 x2 x4 x1000 hG f b_x1 b_x2 b_x4 b_x1000 r_4_1000 w_0 w_1 e_x1000  hm
    refine x_A k33_5 (fun _ => rfl) ?_
    refine x_A k33_7 (fun _ => rfl) ?_
    refine x_getI k33_8 (f := 3) rfl (q := 46) (n := 4) (kd := 5) ⟨by decide, rfl⟩ (by decide) rfl ?_
    refine x_rw (e_x1000.symm) ?_
    refine x_ic_ge k33_11 (t := 38) rfl ⟨by omega, by omega⟩ ⟨by omega, by omega⟩ (fun c84 => ?_) (fun c84 => ?_)
    · skip
      refine x_A k33_38 (fun _ => rfl) ?_
      exact x_lret k33_39 rfl ⟨hG, f, x2, rfl, b_x2, (fun k hk => by rw [show s0 46 3 = x4 by omega]; exact w_1 k hk)⟩
    · skip
      refine x_A k33_14 (fun _ => rfl) ?_
      refine x_getR k33_15 (f := 1) rfl (q := 46) (n := 4) (kd := 5) ⟨by decide, rfl⟩ (q2 := 48) (by decide) rfl ?_
      refine x_A k33_18 (fun _ => rfl) ?_
      refine x_iald k33_20 (q := 48) (n := 40) ⟨by decide, rfl⟩ (by decide) ⟨by omega, by omega⟩ ?_
      refine x_top (fun z85 e_z85 => ?_)
      have g_z85 : (0 : Int) ≤ s 48 x4.toNat ∧ s 48 x4.toNat ≤ 9 := hG 48 x4.toNat
      refine x_A k33_21 (fun _ => rfl) ?_
      refine x_ic_ne k33_22 (t := 32) rfl ⟨by omega, by omega⟩ ⟨by omega, by omega⟩ (fun c86 => ?_) (fun c86 => ?_)
      · skip
        refine x_iinc k33_32 (ls' := [(4, vi (x4 + 1)), (0, .ref 46), (1, vi x1), (2, vj x2)]) rfl (by decide) rfl ?_
        refine x_goto k33_35 (t := 5) rfl ?_
        refine x_ls (l := [(0, .ref 46), (1, vi x1), (2, vj x2), (4, vi (x4 + 1))]) (show ([0, 1, 2, 4] : List Nat).Nodup from by decide) ⟨rfl, rfl, rfl, rfl, trivial⟩ ?_
        exact ih s x1 x2 (x4 + 1) x1000 hG f ⟨by omega, by omega⟩ b_x2 ⟨by omega, by omega⟩ ⟨by omega, by omega⟩ (by omega) (by omega) (sa_no (P := (fun k : Nat => s0 48 k = a)) (by omega) w_1 (by show ¬ s0 48 x4.toNat = a; rw [← f.nil]; omega)) (e_x1000.symm).symm  (by omega)
      · skip
        refine x_A k33_25 (fun _ => rfl) ?_
        refine x_lconst k33_26 (z := 1) (by decide +kernel) ?_
        refine x_A k33_27 (fun _ => rfl) ?_
        refine x_lshl1 k33_29 ⟨by omega, by omega⟩ (fun z87 b_z87 g_z87 => ?_)
        refine x_lor_b k33_30 (fun z88 b_z88 g_z88 => ?_)
        refine x_lstore_n k33_31 (ls' := [(2, vj z88), (0, .ref 46), (1, vi x1), (4, vi x4)]) (by decide) rfl ?_
        refine x_iinc k33_32 (ls' := [(4, vi (x4 + 1)), (2, vj z88), (0, .ref 46), (1, vi x1)]) rfl (by decide) rfl ?_
        refine x_goto k33_35 (t := 5) rfl ?_
        refine x_ls (l := [(0, .ref 46), (1, vi x1), (2, vj z88), (4, vi (x4 + 1))]) (show ([0, 1, 2, 4] : List Nat).Nodup from by decide) ⟨rfl, rfl, rfl, rfl, trivial⟩ ?_
        exact ih s x1 z88 (x4 + 1) x1000 hG f ⟨by omega, by omega⟩ b_z88 ⟨by omega, by omega⟩ ⟨by omega, by omega⟩ (by omega) (by omega) (sa_yes (P := (fun k : Nat => s0 48 k = a)) (by omega) w_1 g_z87 g_z88 (by show s0 48 x4.toNat = a; rw [← f.nil]; omega)) (e_x1000.symm).symm  (by omega)
set_option maxHeartbeats 8000000 in
theorem E_X3_atPlace_46 (s0 : xS) (hG0 : GI s0) (a : Int) (b_a : (-2147483648) ≤ a ∧ a ≤ 2147483647) : xe none 33 0 (lv_args 0 [.ref 46, vi a]) [] s0 0 0 (fun s' v => GI s' ∧ FL [] s0 s' ∧ ∃ z, v = some (vj z) ∧ in64 z ∧ (∀ k : Nat, k < 64 → (bt z k = true ↔ (k : Int) < s0 46 3 ∧ s0 48 k = a))) := by
  have f0 : FL [] s0 s0 := FL.rf
  show xe none 33 0 [(0, .ref 46), (1, vi a)] [] s0 0 0 _
  refine x_lconst k33_0 (z := 0) (by decide +kernel) ?_
  refine x_lstore_n k33_1 (ls' := [(2, vj 0), (0, .ref 46), (1, vi a)]) (by decide) rfl ?_
  refine x_A k33_2 (fun _ => rfl) ?_
  refine x_istore k33_3 (ls' := [(4, vi 0), (2, vj 0), (0, .ref 46), (1, vi a)]) (by decide) rfl ?_
  obtain ⟨z89, e_z89⟩ : ∃ z, z = s0 46 3 := ⟨_, rfl⟩
  have g_z89 : (0 : Int) ≤ s0 46 3 ∧ s0 46 3 ≤ 40 := hG0 46 3
  refine x_ls (l := [(0, .ref 46), (1, vi a), (2, vj 0), (4, vi 0)]) (show ([0, 1, 2, 4] : List Nat).Nodup from by decide) ⟨rfl, rfl, rfl, rfl, trivial⟩ ?_
  exact L_E_X3_atPlace_46_5 s0 a b_a  (((40 - 0) + 1 : Int)).toNat s0 a 0 0 z89 hG0 f0 ⟨by omega, by omega⟩ ⟨by omega, by omega⟩ ⟨by omega, by omega⟩ ⟨by omega, by omega⟩ (by omega) (by omega) sa_0 (e_z89.symm).symm  (by omega)
set_option maxHeartbeats 8000000 in
theorem W_X10_metByOne_0 (s0 : xS) (hG0 : GI s0) (a : Int) (b_a : (-2147483648) ≤ a ∧ a ≤ 2147483647) (b : Int) (b_b : (-2147483648) ≤ b ∧ b ≤ 2147483647) (d : Int) (b_d : (-2147483648) ≤ d ∧ d ≤ 2147483647) (pV : VL s0 s0 d) (pn : PN s0) (pk : (1 ≤ a ∧ a ≤ 5) ∧ (0 ≤ b ∧ b ≤ 999) ∧ (a = 1 → b ≤ 39) ∧ (a = 2 → b ≤ 399)) : xe none 134 0 (lv_args 0 [.ref 0, vi a, vi b, vi d]) [] s0 0 0 (fun s' v => GI s' ∧ FL [] s0 s' ∧ ∃ z, v = some (vj z) ∧ in64 z ∧ (∀ k : Nat, k < 64 → (bt z k = true ↔ (k : Int) < s0 46 3 ∧ mP s0 d (1000 * a + b) (k : Int)))) := by
  have f0 : FL [] s0 s0 := FL.rf
  show xe none 134 0 [(0, .ref 0), (1, vi a), (2, vi b), (3, vi d)] [] s0 0 0 _
  refine x_A k134_0 (fun _ => rfl) ?_
  have c1 : a = 1 ∨ a = 2 ∨ a = 3 ∨ a = 4 ∨ ¬ (1 ≤ a ∧ a ≤ 4) := by omega
  rcases c1 with c1 | c1 | c1 | c1 | c1
  · rw [c1]
    refine x_B k134_1 rfl (fun _ => rfl) (fun _ => rfl) (fun _ _ => rfl) ?_
    show xe none 134 32 [(0, .ref 0), (1, vi 1), (2, vi b), (3, vi d)] [] s0 0 0 _
    refine x_A k134_32 (fun _ => rfl) ?_
    refine x_getR k134_33 (f := 9) rfl (q := 0) (n := 12) (kd := 3) ⟨by decide, rfl⟩ (q2 := 243) (by decide) rfl ?_
    refine x_A k134_36 (fun _ => rfl) ?_
    refine x_callV k134_37 (y := 79) (n := 1) (w0 := 0) (w1 := 1) (as := [vi b]) (rest := []) (by decide +kernel) (q := 243) (nq := 13) (kq := 13) ⟨by decide, rfl⟩ rfl rfl rfl rfl (xe_mono (E_X8_showing_243 s0 hG0 b ⟨by omega, by omega⟩) ?_)
    rintro s3 v ⟨-, t_s3, z2, rfl, b_z2, xp_z2⟩
    rw [t_s3.nil]
    try rw [t_s3.nil] at xp_z2
    show xe none 134 40 [(0, .ref 0), (1, vi 1), (2, vi b), (3, vi d)] [vj z2] s0 0 0 _
    exact x_lret k134_40 rfl ⟨hG0, f0, z2, rfl, b_z2, (mP_1 pn (VL.sw pV hG0 ⟨by omega, by omega⟩ xp_z2) (by omega) ⟨by omega, by omega⟩)⟩
  · rw [c1]
    refine x_B k134_1 rfl (fun _ => rfl) (fun _ => rfl) (fun _ _ => rfl) ?_
    show xe none 134 41 [(0, .ref 0), (1, vi 2), (2, vi b), (3, vi d)] [] s0 0 0 _
    refine x_A k134_41 (fun _ => rfl) ?_
    refine x_getR k134_42 (f := 9) rfl (q := 0) (n := 12) (kd := 3) ⟨by decide, rfl⟩ (q2 := 243) (by decide) rfl ?_
    refine x_A k134_45 (fun _ => rfl) ?_
    refine x_getR k134_46 (f := 6) rfl (q := 0) (n := 12) (kd := 3) ⟨by decide, rfl⟩ (q2 := 214) (by decide) rfl ?_
    refine x_A k134_49 (fun _ => rfl) ?_
    refine x_bipush k134_50 (by decide +kernel) ?_
    refine x_idiv_n k134_52 ⟨by omega, by omega⟩ ⟨by omega, by omega⟩ ?_
    refine x_top (fun z4 e_z4 => ?_)
    refine x_A k134_53 (fun _ => rfl) ?_
    refine x_bipush k134_54 (by decide +kernel) ?_
    refine x_irem_n k134_56 ⟨by omega, by omega⟩ ⟨by omega, by omega⟩ ?_
    refine x_top (fun z5 e_z5 => ?_)
    refine x_callV k134_57 (y := 89) (n := 2) (w0 := 1) (w1 := 2) (as := [vi z4, vi z5]) (rest := [.ref 243]) (by decide +kernel) (q := 214) (nq := 4) (kq := 10) ⟨by decide, rfl⟩ rfl rfl rfl rfl (xe_mono (E_X9_marksOf_214 s0 hG0 z4 ⟨by omega, by omega⟩ z5 ⟨by omega, by omega⟩) ?_)
    rintro s7 v ⟨-, t_s7, z6, rfl, b_z6, xp_z6⟩
    rw [t_s7.nil]
    try rw [t_s7.nil] at xp_z6
    show xe none 134 60 [(0, .ref 0), (1, vi 2), (2, vi b), (3, vi d)] [vj z6, .ref 243] s0 0 0 _
    refine x_callV k134_60 (y := 80) (n := 1) (w0 := 0) (w1 := 2) (as := [vj z6]) (rest := []) (by decide +kernel) (q := 243) (nq := 13) (kq := 13) ⟨by decide, rfl⟩ rfl rfl rfl rfl (xe_mono (E_X8_showingAny_243 s0 hG0 z6 b_z6) ?_)
    rintro s9 v ⟨-, t_s9, z8, rfl, b_z8, xp_z8⟩
    rw [t_s9.nil]
    try rw [t_s9.nil] at xp_z8
    show xe none 134 63 [(0, .ref 0), (1, vi 2), (2, vi b), (3, vi d)] [vj z8] s0 0 0 _
    exact x_lret k134_63 rfl ⟨hG0, f0, z8, rfl, b_z8, (mP_2 pn pV (b := b) (by rw [← e_z4, ← e_z5]; exact xp_z6) xp_z8 hG0 (by omega) ⟨by omega, by omega⟩)⟩
  · rw [c1]
    refine x_B k134_1 rfl (fun _ => rfl) (fun _ => rfl) (fun _ _ => rfl) ?_
    show xe none 134 64 [(0, .ref 0), (1, vi 3), (2, vi b), (3, vi d)] [] s0 0 0 _
    refine x_A k134_64 (fun _ => rfl) ?_
    refine x_getR k134_65 (f := 2) rfl (q := 0) (n := 12) (kd := 3) ⟨by decide, rfl⟩ (q2 := 50) (by decide) rfl ?_
    refine x_A k134_68 (fun _ => rfl) ?_
    refine x_A k134_69 (fun _ => rfl) ?_
    refine x_callV k134_70 (y := 27) (n := 2) (w0 := 0) (w1 := 2) (as := [vi b, vi d]) (rest := []) (by decide +kernel) (q := 50) (nq := 7) (kq := 6) ⟨by decide, rfl⟩ rfl rfl rfl rfl (xe_mono (E_X2_picturesOf_50 s0 hG0 b ⟨by omega, by omega⟩ d ⟨by omega, by omega⟩) ?_)
    rintro s11 v ⟨-, t_s11, z10, rfl, b_z10, xp_z10⟩
    rw [t_s11.nil]
    try rw [t_s11.nil] at xp_z10
    show xe none 134 73 [(0, .ref 0), (1, vi 3), (2, vi b), (3, vi d)] [vj z10] s0 0 0 _
    exact x_lret k134_73 rfl ⟨hG0, f0, z10, rfl, b_z10, (mP_3 pn xp_z10 (by omega) ⟨by omega, by omega⟩)⟩
  · rw [c1]
    refine x_B k134_1 rfl (fun _ => rfl) (fun _ => rfl) (fun _ _ => rfl) ?_
    show xe none 134 74 [(0, .ref 0), (1, vi 4), (2, vi b), (3, vi d)] [] s0 0 0 _
    refine x_A k134_74 (fun _ => rfl) ?_
    refine x_getR k134_75 (f := 1) rfl (q := 0) (n := 12) (kd := 3) ⟨by decide, rfl⟩ (q2 := 46) (by decide) rfl ?_
    refine x_A k134_78 (fun _ => rfl) ?_
    refine x_A k134_79 (fun _ => rfl) ?_
    refine x_A k134_80 (fun _ => rfl) ?_
    refine x_isub k134_81 ?_
    refine x_top (fun z12 e_z12 => ?_)
    refine x_callV k134_82 (y := 32) (n := 2) (w0 := 0) (w1 := 2) (as := [vi 0, vi z12]) (rest := []) (by decide +kernel) (q := 46) (nq := 4) (kq := 5) ⟨by decide, rfl⟩ rfl rfl rfl rfl (xe_mono (E_X3_ofYears_46 s0 hG0 0 ⟨by omega, by omega⟩ z12 ⟨by omega, by omega⟩) ?_)
    rintro s14 v ⟨-, t_s14, z13, rfl, b_z13, xp_z13⟩
    rw [t_s14.nil]
    try rw [t_s14.nil] at xp_z13
    show xe none 134 85 [(0, .ref 0), (1, vi 4), (2, vi b), (3, vi d)] [vj z13] s0 0 0 _
    exact x_lret k134_85 rfl ⟨hG0, f0, z13, rfl, b_z13, (mP_4 hG0 xp_z13 (by omega) (by omega) ⟨by omega, by omega⟩)⟩
  · refine x_tabD k134_1 ⟨by omega, by omega⟩ c1 (t0 := 86) rfl ?_
    refine x_A k134_86 (fun _ => rfl) ?_
    refine x_getR k134_87 (f := 1) rfl (q := 0) (n := 12) (kd := 3) ⟨by decide, rfl⟩ (q2 := 46) (by decide) rfl ?_
    refine x_A k134_90 (fun _ => rfl) ?_
    refine x_callV k134_91 (y := 33) (n := 1) (w0 := 0) (w1 := 1) (as := [vi b]) (rest := []) (by decide +kernel) (q := 46) (nq := 4) (kq := 5) ⟨by decide, rfl⟩ rfl rfl rfl rfl (xe_mono (E_X3_atPlace_46 s0 hG0 b ⟨by omega, by omega⟩) ?_)
    rintro s16 v ⟨-, t_s16, z15, rfl, b_z15, xp_z15⟩
    rw [t_s16.nil]
    try rw [t_s16.nil] at xp_z15
    show xe none 134 94 [(0, .ref 0), (1, vi a), (2, vi b), (3, vi d)] [vj z15] s0 0 0 _
    exact x_lret k134_94 rfl ⟨hG0, f0, z15, rfl, b_z15, (mP_5 xp_z15 (by omega) ⟨by omega, by omega⟩)⟩
