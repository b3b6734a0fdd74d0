set_option maxHeartbeats 8000000 in
theorem L_E_X11_isAllowed_256_9 (s0 : xS) (hJ0 : J s0) (hG0 : GI s0) (a : Int) (b_a : (-2147483648) ≤ a ∧ a ≤ 2147483647) (b : Int) (b_b : (-2147483648) ≤ b ∧ b ≤ 2147483647) (d : Int) (b_d : 0 ≤ d ∧ d ≤ 9) (pR : R1 s0) (pT : TR s0) (pf : FrZ s0 s0 d) (pm : tdC s0 d b)  : ∀ (n : Nat) (s : xS) (x1 : Int) (x2 : Int) (x3 : Int) (x4 : Int) (x5 : Int) (x6 : Int) (x1000 : Int) (hG : GI s) (f : FL [] s0 s) (b_x1 : (-2147483648) ≤ x1 ∧ x1 ≤ 2147483647) (b_x2 : (-2147483648) ≤ x2 ∧ x2 ≤ 2147483647) (b_x3 : 0 ≤ x3 ∧ x3 ≤ 9) (b_x4 : 0 ≤ x4 ∧ x4 ≤ 1) (b_x5 : 0 ≤ x5 ∧ x5 ≤ 1) (b_x6 : 0 ≤ x6 ∧ x6 ≤ 64) (b_x1000 : 0 ≤ x1000 ∧ x1000 ≤ 64) (r_5_6 : x5 ≤ x6 + 0) (r_4_6 : x4 ≤ x6 + 0) (r_6_1000 : x6 ≤ x1000 + 0) (r_5_1000 : x5 ≤ x1000 + 0) (r_4_1000 : x4 ≤ x1000 + 0) (w_0 : x1 = a ∧ x2 = b) (w_1 : x3 = d ∧ x1000 = s0 256 20 ∧ x6 ≤ x1000 ∧ x1000 ≤ 64) (w_2 : exI (fun c => HpR s0 d c 1 ∧ s0 273 c.toNat = a) x4 x6) (w_3 : exI (fun c => (HpR s0 d c 1 ∧ s0 273 c.toNat = a) ∧ onp s0 d 40 b (s0 274 c.toNat)) x5 x6) (e_x1000 : x1000 = s 256 20)  (hm : (64 - x6) < (n : Int)), xe none 164 9 [(0, .ref 256), (1, vi x1), (2, vi x2), (3, vi x3), (4, vi x4), (5, vi x5), (6, vi x6)] [] s 0 0 (fun s' v => GI s' ∧ FL [] s0 s' ∧ ∃ z, v = some (vi z) ∧ (0 ≤ z ∧ z ≤ 1) ∧ ((z = 1 ∧ ¬ naR s0 a b d) ∨ (z = 0 ∧ naR s0 a b d))) := by
  intro n
  induction n with
  | zero => intro s x1 x2 x3 x4 x5 x6 x1000 hG f b_x1 b_x2 b_x3 b_x4 b_x5 b_x6 b_x1000 r_5_6 r_4_6 r_6_1000 r_5_1000 r_4_1000 w_0 w_1 w_2 w_3 e_x1000  hm; exfalso; omega
  | succ n ih =>
    intro s x1 x2 x3 x4 x5 x6 x1000 hG f b_x1 b_x2 b_x3 b_x4 b_x5 b_x6 b_x1000 r_5_6 r_4_6 r_6_1000 r_5_1000 r_4_1000 w_0 w_1 w_2 w_3 e_x1000  hm
    refine x_A k164_9 (fun _ => rfl) ?_
    refine x_A k164_11 (fun _ => rfl) ?_
    refine x_getI k164_12 (f := 20) rfl (q := 256) (n := 62) (kd := 15) ⟨by decide, rfl⟩ (by decide) rfl ?_
    refine x_rw (e_x1000.symm) ?_
    refine x_ic_ge k164_15 (t := 102) rfl (by first | exact x_rb b_x6 rfl rfl | exact ⟨by omega, by omega⟩) (by first | exact x_rb b_x1000 rfl rfl | exact ⟨by omega, by omega⟩) (fun c550 => ?_) (fun c550 => ?_)
    · skip
      refine x_A k164_102 (fun _ => rfl) ?_
      refine x_if_ne k164_104 (t := 112) rfl (by first | exact x_rb b_x5 rfl rfl | exact ⟨by omega, by omega⟩) (fun c551 => ?_) (fun c551 => ?_)
      · skip
        refine x_A k164_112 (fun _ => rfl) ?_
        refine x_goto k164_113 (t := 117) rfl ?_
        exact x_zret k164_117 rfl ⟨by omega, by omega⟩ ⟨hG, f, 1, rfl, ⟨by decide, by decide⟩, (Or.inl ⟨rfl, fun q => by first | (have w := w_3.y1 (by omega); rw [show x6 = s0 256 20 by omega] at w; exact q.2 w) | (have w := w_2.y0 (by omega); rw [show x6 = s0 256 20 by omega] at w; exact w q.1)⟩)⟩
      · skip
        refine x_A k164_107 (fun _ => rfl) ?_
        refine x_if_ne k164_109 (t := 116) rfl (by first | exact x_rb b_x4 rfl rfl | exact ⟨by omega, by omega⟩) (fun c552 => ?_) (fun c552 => ?_)
        · skip
          refine x_A k164_116 (fun _ => rfl) ?_
          exact x_zret k164_117 rfl ⟨by omega, by omega⟩ ⟨hG, f, 0, rfl, ⟨by decide, by decide⟩, (Or.inr ⟨rfl, (by have q := w_2.y1 (by omega); rw [show x6 = s0 256 20 by omega] at q; exact q), (by have q := w_3.y0 (by omega); rw [show x6 = s0 256 20 by omega] at q; exact q)⟩)⟩
        · skip
          refine x_A k164_112 (fun _ => rfl) ?_
          refine x_goto k164_113 (t := 117) rfl ?_
          exact x_zret k164_117 rfl ⟨by omega, by omega⟩ ⟨hG, f, 1, rfl, ⟨by decide, by decide⟩, (Or.inl ⟨rfl, fun q => by first | (have w := w_3.y1 (by omega); rw [show x6 = s0 256 20 by omega] at w; exact q.2 w) | (have w := w_2.y0 (by omega); rw [show x6 = s0 256 20 by omega] at w; exact w q.1)⟩)⟩
    · skip
      refine x_A k164_18 (fun _ => rfl) ?_
      refine x_A k164_19 (fun _ => rfl) ?_
      refine x_A k164_21 (fun _ => rfl) ?_
      refine x_callV k164_22 (y := 162) (n := 2) (w0 := 0) (w1 := 2) (as := [vi x6, vi 1]) (rest := []) (by decide +kernel) (q := 256) (nq := 62) (kq := 15) ⟨by decide, rfl⟩ rfl rfl rfl rfl (xe_mono (E_X11_holds_256 s hG (hJ0.fl f (by decide)) x6 (by first | exact x_rb b_x6 rfl rfl | exact ⟨by omega, by omega⟩) 1 ⟨by decide, by decide⟩ (by omega) (pR.fl f (by decide))) ?_)
      rintro s554 v ⟨-, t_s554, z553, rfl, g_z553, xp_z553⟩
      rw [t_s554.nil]
      try rw [t_s554.nil] at xp_z553
      show xe none 164 25 [(0, .ref 256), (1, vi x1), (2, vi x2), (3, vi x3), (4, vi x4), (5, vi x5), (6, vi x6)] [vi z553] s 0 0 _
      have ho := xp_z553
      rw [f.nil, pf.ho] at ho
      refine x_if_eq k164_25 (t := 43) rfl (by first | exact x_rbe e_z553 g_z553 rfl rfl | exact x_rb g_z553 rfl rfl | exact ⟨by omega, by omega⟩) (fun c555 => ?_) (fun c555 => ?_)
      · skip
        refine x_A k164_43 (fun _ => rfl) ?_
        have n1 : ¬ (fun c => HpR s0 d c 1 ∧ s0 273 c.toNat = a) x6 := fun q => (ho.resolve_left (fun q => by omega)).2 q.1
        refine x_istore k164_44 (ls' := [(7, vi 0), (0, .ref 256), (1, vi x1), (2, vi x2), (3, vi x3), (4, vi x4), (5, vi x5), (6, vi x6)]) (by decide) rfl ?_
        refine x_A k164_46 (fun _ => rfl) ?_
        refine x_if_ne k164_48 (t := 56) rfl (by first | exact x_rb b_x4 rfl rfl | exact ⟨by omega, by omega⟩) (fun c556 => ?_) (fun c556 => ?_)
        · skip
          refine x_A k164_56 (fun _ => rfl) ?_
          refine x_goto k164_57 (t := 61) rfl ?_
          refine x_istore k164_61 (ls' := [(4, vi 1), (7, vi 0), (0, .ref 256), (1, vi x1), (2, vi x2), (3, vi x3), (5, vi x5), (6, vi x6)]) (by decide) rfl ?_
          refine x_A k164_63 (fun _ => rfl) ?_
          refine x_if_ne k164_65 (t := 89) rfl (by first | exact x_rb b_x5 rfl rfl | exact ⟨by omega, by omega⟩) (fun c557 => ?_) (fun c557 => ?_)
          · skip
            refine x_A k164_89 (fun _ => rfl) ?_
            refine x_goto k164_90 (t := 94) rfl ?_
            refine x_istore k164_94 (ls' := [(5, vi 1), (4, vi 1), (7, vi 0), (0, .ref 256), (1, vi x1), (2, vi x2), (3, vi x3), (6, vi x6)]) (by decide) rfl ?_
            refine x_iinc k164_96 (ls' := [(6, vi (x6 + 1)), (5, vi 1), (4, vi 1), (7, vi 0), (0, .ref 256), (1, vi x1), (2, vi x2), (3, vi x3)]) rfl (by decide) rfl ?_
            refine x_goto k164_99 (t := 9) rfl ?_
            refine x_ls (l := [(0, .ref 256), (1, vi x1), (2, vi x2), (3, vi x3), (4, vi 1), (5, vi 1), (6, vi (x6 + 1))]) (show ([0, 1, 2, 3, 4, 5, 6] : List Nat).Nodup from by decide) ⟨rfl, rfl, rfl, rfl, rfl, rfl, rfl, trivial⟩ ?_
            exact ih s x1 x2 x3 1 1 (x6 + 1) x1000 hG f (by first | exact x_rb b_x1 rfl rfl | exact ⟨by omega, by omega⟩) (by first | exact x_rb b_x2 rfl rfl | exact ⟨by omega, by omega⟩) (by first | exact x_rb b_x3 rfl rfl | exact ⟨by omega, by omega⟩) ⟨by decide, by decide⟩ ⟨by decide, by decide⟩ ⟨by omega, by omega⟩ (by first | exact x_rb b_x1000 rfl rfl | exact ⟨by omega, by omega⟩) (by omega) (by omega) (by omega) (by omega) (by omega) (by omega) (by omega) (w_2.on (by omega)) (w_3.on (by omega)) (e_x1000.symm).symm  (by omega)
          · skip
            refine x_A k164_68 (fun _ => rfl) ?_
            refine x_if_eq k164_70 (t := 93) rfl ⟨by decide, by decide⟩ (fun c558 => ?_) (fun c558 => by exfalso; omega)
            refine x_A k164_93 (fun _ => rfl) ?_
            refine x_istore k164_94 (ls' := [(5, vi 0), (4, vi 1), (7, vi 0), (0, .ref 256), (1, vi x1), (2, vi x2), (3, vi x3), (6, vi x6)]) (by decide) rfl ?_
            refine x_iinc k164_96 (ls' := [(6, vi (x6 + 1)), (5, vi 0), (4, vi 1), (7, vi 0), (0, .ref 256), (1, vi x1), (2, vi x2), (3, vi x3)]) rfl (by decide) rfl ?_
            refine x_goto k164_99 (t := 9) rfl ?_
            refine x_ls (l := [(0, .ref 256), (1, vi x1), (2, vi x2), (3, vi x3), (4, vi 1), (5, vi 0), (6, vi (x6 + 1))]) (show ([0, 1, 2, 3, 4, 5, 6] : List Nat).Nodup from by decide) ⟨rfl, rfl, rfl, rfl, rfl, rfl, rfl, trivial⟩ ?_
            exact ih s x1 x2 x3 1 0 (x6 + 1) x1000 hG f (by first | exact x_rb b_x1 rfl rfl | exact ⟨by omega, by omega⟩) (by first | exact x_rb b_x2 rfl rfl | exact ⟨by omega, by omega⟩) (by first | exact x_rb b_x3 rfl rfl | exact ⟨by omega, by omega⟩) ⟨by decide, by decide⟩ ⟨by decide, by decide⟩ ⟨by omega, by omega⟩ (by first | exact x_rb b_x1000 rfl rfl | exact ⟨by omega, by omega⟩) (by omega) (by omega) (by omega) (by omega) (by omega) (by omega) (by omega) (w_2.on (by omega)) (w_3.no (by omega) (fun q => n1 q.1)) (e_x1000.symm).symm  (by omega)
        · skip
          refine x_A k164_51 (fun _ => rfl) ?_
          refine x_if_eq k164_53 (t := 60) rfl ⟨by decide, by decide⟩ (fun c559 => ?_) (fun c559 => by exfalso; omega)
          refine x_A k164_60 (fun _ => rfl) ?_
          refine x_istore k164_61 (ls' := [(4, vi 0), (7, vi 0), (0, .ref 256), (1, vi x1), (2, vi x2), (3, vi x3), (5, vi x5), (6, vi x6)]) (by decide) rfl ?_
          refine x_A k164_63 (fun _ => rfl) ?_
          refine x_if_ne k164_65 (t := 89) rfl (by first | exact x_rb b_x5 rfl rfl | exact ⟨by omega, by omega⟩) (fun c560 => ?_) (fun c560 => ?_)
          · skip
            refine x_A k164_89 (fun _ => rfl) ?_
            refine x_goto k164_90 (t := 94) rfl ?_
            refine x_istore k164_94 (ls' := [(5, vi 1), (4, vi 0), (7, vi 0), (0, .ref 256), (1, vi x1), (2, vi x2), (3, vi x3), (6, vi x6)]) (by decide) rfl ?_
            refine x_iinc k164_96 (ls' := [(6, vi (x6 + 1)), (5, vi 1), (4, vi 0), (7, vi 0), (0, .ref 256), (1, vi x1), (2, vi x2), (3, vi x3)]) rfl (by decide) rfl ?_
            refine x_goto k164_99 (t := 9) rfl ?_
            refine x_ls (l := [(0, .ref 256), (1, vi x1), (2, vi x2), (3, vi x3), (4, vi 0), (5, vi 1), (6, vi (x6 + 1))]) (show ([0, 1, 2, 3, 4, 5, 6] : List Nat).Nodup from by decide) ⟨rfl, rfl, rfl, rfl, rfl, rfl, rfl, trivial⟩ ?_
            exact ih s x1 x2 x3 0 1 (x6 + 1) x1000 hG f (by first | exact x_rb b_x1 rfl rfl | exact ⟨by omega, by omega⟩) (by first | exact x_rb b_x2 rfl rfl | exact ⟨by omega, by omega⟩) (by first | exact x_rb b_x3 rfl rfl | exact ⟨by omega, by omega⟩) ⟨by decide, by decide⟩ ⟨by decide, by decide⟩ ⟨by omega, by omega⟩ (by first | exact x_rb b_x1000 rfl rfl | exact ⟨by omega, by omega⟩) (by omega) (by omega) (by omega) (by omega) (by omega) (by omega) (by omega) (w_2.no (by omega) n1) (w_3.on (by omega)) (e_x1000.symm).symm  (by omega)
          · skip
            refine x_A k164_68 (fun _ => rfl) ?_
            refine x_if_eq k164_70 (t := 93) rfl ⟨by decide, by decide⟩ (fun c561 => ?_) (fun c561 => by exfalso; omega)
            refine x_A k164_93 (fun _ => rfl) ?_
            refine x_istore k164_94 (ls' := [(5, vi 0), (4, vi 0), (7, vi 0), (0, .ref 256), (1, vi x1), (2, vi x2), (3, vi x3), (6, vi x6)]) (by decide) rfl ?_
            refine x_iinc k164_96 (ls' := [(6, vi (x6 + 1)), (5, vi 0), (4, vi 0), (7, vi 0), (0, .ref 256), (1, vi x1), (2, vi x2), (3, vi x3)]) rfl (by decide) rfl ?_
            refine x_goto k164_99 (t := 9) rfl ?_
            refine x_ls (l := [(0, .ref 256), (1, vi x1), (2, vi x2), (3, vi x3), (4, vi 0), (5, vi 0), (6, vi (x6 + 1))]) (show ([0, 1, 2, 3, 4, 5, 6] : List Nat).Nodup from by decide) ⟨rfl, rfl, rfl, rfl, rfl, rfl, rfl, trivial⟩ ?_
            exact ih s x1 x2 x3 0 0 (x6 + 1) x1000 hG f (by first | exact x_rb b_x1 rfl rfl | exact ⟨by omega, by omega⟩) (by first | exact x_rb b_x2 rfl rfl | exact ⟨by omega, by omega⟩) (by first | exact x_rb b_x3 rfl rfl | exact ⟨by omega, by omega⟩) ⟨by decide, by decide⟩ ⟨by decide, by decide⟩ ⟨by omega, by omega⟩ (by first | exact x_rb b_x1000 rfl rfl | exact ⟨by omega, by omega⟩) (by omega) (by omega) (by omega) (by omega) (by omega) (by omega) (by omega) (w_2.no (by omega) n1) (w_3.no (by omega) (fun q => n1 q.1)) (e_x1000.symm).symm  (by omega)
      · skip
        refine x_A k164_28 (fun _ => rfl) ?_
        refine x_getR k164_29 (f := 22) rfl (q := 256) (n := 62) (kd := 15) ⟨by decide, rfl⟩ (q2 := 273) (by decide) rfl ?_
        refine x_A k164_32 (fun _ => rfl) ?_
        refine x_iald k164_34 (q := 273) (n := 72) ⟨by decide, rfl⟩ (by decide) (by first | exact x_rbl b_x6 rfl rfl | exact ⟨by omega, by omega⟩) ?_
        refine x_top (fun z562 e_z562 => ?_)
        have g_z562 : (-2147483648) ≤ s 273 x6.toNat ∧ s 273 x6.toNat ≤ 2147483647 := hG 273 x6.toNat
        refine x_A k164_35 (fun _ => rfl) ?_
        refine x_ic_ne k164_36 (t := 43) rfl (by first | exact x_rbe e_z562 g_z562 rfl rfl | exact x_rb g_z562 rfl rfl | exact ⟨by omega, by omega⟩) (by first | exact x_rb b_x1 rfl rfl | exact ⟨by omega, by omega⟩) (fun c563 => ?_) (fun c563 => ?_)
        · skip
          refine x_A k164_43 (fun _ => rfl) ?_
          have n1 : ¬ (fun c => HpR s0 d c 1 ∧ s0 273 c.toNat = a) x6 := fun q => by have q2 := q.2; rw [← f.nil] at q2; omega
          refine x_istore k164_44 (ls' := [(7, vi 0), (0, .ref 256), (1, vi x1), (2, vi x2), (3, vi x3), (4, vi x4), (5, vi x5), (6, vi x6)]) (by decide) rfl ?_
          refine x_A k164_46 (fun _ => rfl) ?_
          refine x_if_ne k164_48 (t := 56) rfl (by first | exact x_rb b_x4 rfl rfl | exact ⟨by omega, by omega⟩) (fun c564 => ?_) (fun c564 => ?_)
          · skip
            refine x_A k164_56 (fun _ => rfl) ?_
            refine x_goto k164_57 (t := 61) rfl ?_
            refine x_istore k164_61 (ls' := [(4, vi 1), (7, vi 0), (0, .ref 256), (1, vi x1), (2, vi x2), (3, vi x3), (5, vi x5), (6, vi x6)]) (by decide) rfl ?_
            refine x_A k164_63 (fun _ => rfl) ?_
            refine x_if_ne k164_65 (t := 89) rfl (by first | exact x_rb b_x5 rfl rfl | exact ⟨by omega, by omega⟩) (fun c565 => ?_) (fun c565 => ?_)
            · skip
              refine x_A k164_89 (fun _ => rfl) ?_
              refine x_goto k164_90 (t := 94) rfl ?_
              refine x_istore k164_94 (ls' := [(5, vi 1), (4, vi 1), (7, vi 0), (0, .ref 256), (1, vi x1), (2, vi x2), (3, vi x3), (6, vi x6)]) (by decide) rfl ?_
              refine x_iinc k164_96 (ls' := [(6, vi (x6 + 1)), (5, vi 1), (4, vi 1), (7, vi 0), (0, .ref 256), (1, vi x1), (2, vi x2), (3, vi x3)]) rfl (by decide) rfl ?_
              refine x_goto k164_99 (t := 9) rfl ?_
              refine x_ls (l := [(0, .ref 256), (1, vi x1), (2, vi x2), (3, vi x3), (4, vi 1), (5, vi 1), (6, vi (x6 + 1))]) (show ([0, 1, 2, 3, 4, 5, 6] : List Nat).Nodup from by decide) ⟨rfl, rfl, rfl, rfl, rfl, rfl, rfl, trivial⟩ ?_
              exact ih s x1 x2 x3 1 1 (x6 + 1) x1000 hG f (by first | exact x_rb b_x1 rfl rfl | exact ⟨by omega, by omega⟩) (by first | exact x_rb b_x2 rfl rfl | exact ⟨by omega, by omega⟩) (by first | exact x_rb b_x3 rfl rfl | exact ⟨by omega, by omega⟩) ⟨by decide, by decide⟩ ⟨by decide, by decide⟩ ⟨by omega, by omega⟩ (by first | exact x_rb b_x1000 rfl rfl | exact ⟨by omega, by omega⟩) (by omega) (by omega) (by omega) (by omega) (by omega) (by omega) (by omega) (w_2.on (by omega)) (w_3.on (by omega)) (e_x1000.symm).symm  (by omega)
            · skip
              refine x_A k164_68 (fun _ => rfl) ?_
              refine x_if_eq k164_70 (t := 93) rfl ⟨by decide, by decide⟩ (fun c566 => ?_) (fun c566 => by exfalso; omega)
              refine x_A k164_93 (fun _ => rfl) ?_
              refine x_istore k164_94 (ls' := [(5, vi 0), (4, vi 1), (7, vi 0), (0, .ref 256), (1, vi x1), (2, vi x2), (3, vi x3), (6, vi x6)]) (by decide) rfl ?_
              refine x_iinc k164_96 (ls' := [(6, vi (x6 + 1)), (5, vi 0), (4, vi 1), (7, vi 0), (0, .ref 256), (1, vi x1), (2, vi x2), (3, vi x3)]) rfl (by decide) rfl ?_
              refine x_goto k164_99 (t := 9) rfl ?_
              refine x_ls (l := [(0, .ref 256), (1, vi x1), (2, vi x2), (3, vi x3), (4, vi 1), (5, vi 0), (6, vi (x6 + 1))]) (show ([0, 1, 2, 3, 4, 5, 6] : List Nat).Nodup from by decide) ⟨rfl, rfl, rfl, rfl, rfl, rfl, rfl, trivial⟩ ?_
              exact ih s x1 x2 x3 1 0 (x6 + 1) x1000 hG f (by first | exact x_rb b_x1 rfl rfl | exact ⟨by omega, by omega⟩) (by first | exact x_rb b_x2 rfl rfl | exact ⟨by omega, by omega⟩) (by first | exact x_rb b_x3 rfl rfl | exact ⟨by omega, by omega⟩) ⟨by decide, by decide⟩ ⟨by decide, by decide⟩ ⟨by omega, by omega⟩ (by first | exact x_rb b_x1000 rfl rfl | exact ⟨by omega, by omega⟩) (by omega) (by omega) (by omega) (by omega) (by omega) (by omega) (by omega) (w_2.on (by omega)) (w_3.no (by omega) (fun q => n1 q.1)) (e_x1000.symm).symm  (by omega)
          · skip
            refine x_A k164_51 (fun _ => rfl) ?_
            refine x_if_eq k164_53 (t := 60) rfl ⟨by decide, by decide⟩ (fun c567 => ?_) (fun c567 => by exfalso; omega)
            refine x_A k164_60 (fun _ => rfl) ?_
            refine x_istore k164_61 (ls' := [(4, vi 0), (7, vi 0), (0, .ref 256), (1, vi x1), (2, vi x2), (3, vi x3), (5, vi x5), (6, vi x6)]) (by decide) rfl ?_
            refine x_A k164_63 (fun _ => rfl) ?_
            refine x_if_ne k164_65 (t := 89) rfl (by first | exact x_rb b_x5 rfl rfl | exact ⟨by omega, by omega⟩) (fun c568 => ?_) (fun c568 => ?_)
            · skip
              refine x_A k164_89 (fun _ => rfl) ?_
              refine x_goto k164_90 (t := 94) rfl ?_
              refine x_istore k164_94 (ls' := [(5, vi 1), (4, vi 0), (7, vi 0), (0, .ref 256), (1, vi x1), (2, vi x2), (3, vi x3), (6, vi x6)]) (by decide) rfl ?_
              refine x_iinc k164_96 (ls' := [(6, vi (x6 + 1)), (5, vi 1), (4, vi 0), (7, vi 0), (0, .ref 256), (1, vi x1), (2, vi x2), (3, vi x3)]) rfl (by decide) rfl ?_
              refine x_goto k164_99 (t := 9) rfl ?_
              refine x_ls (l := [(0, .ref 256), (1, vi x1), (2, vi x2), (3, vi x3), (4, vi 0), (5, vi 1), (6, vi (x6 + 1))]) (show ([0, 1, 2, 3, 4, 5, 6] : List Nat).Nodup from by decide) ⟨rfl, rfl, rfl, rfl, rfl, rfl, rfl, trivial⟩ ?_
              exact ih s x1 x2 x3 0 1 (x6 + 1) x1000 hG f (by first | exact x_rb b_x1 rfl rfl | exact ⟨by omega, by omega⟩) (by first | exact x_rb b_x2 rfl rfl | exact ⟨by omega, by omega⟩) (by first | exact x_rb b_x3 rfl rfl | exact ⟨by omega, by omega⟩) ⟨by decide, by decide⟩ ⟨by decide, by decide⟩ ⟨by omega, by omega⟩ (by first | exact x_rb b_x1000 rfl rfl | exact ⟨by omega, by omega⟩) (by omega) (by omega) (by omega) (by omega) (by omega) (by omega) (by omega) (w_2.no (by omega) n1) (w_3.on (by omega)) (e_x1000.symm).symm  (by omega)
            · skip
              refine x_A k164_68 (fun _ => rfl) ?_
              refine x_if_eq k164_70 (t := 93) rfl ⟨by decide, by decide⟩ (fun c569 => ?_) (fun c569 => by exfalso; omega)
              refine x_A k164_93 (fun _ => rfl) ?_
              refine x_istore k164_94 (ls' := [(5, vi 0), (4, vi 0), (7, vi 0), (0, .ref 256), (1, vi x1), (2, vi x2), (3, vi x3), (6, vi x6)]) (by decide) rfl ?_
              refine x_iinc k164_96 (ls' := [(6, vi (x6 + 1)), (5, vi 0), (4, vi 0), (7, vi 0), (0, .ref 256), (1, vi x1), (2, vi x2), (3, vi x3)]) rfl (by decide) rfl ?_
              refine x_goto k164_99 (t := 9) rfl ?_
              refine x_ls (l := [(0, .ref 256), (1, vi x1), (2, vi x2), (3, vi x3), (4, vi 0), (5, vi 0), (6, vi (x6 + 1))]) (show ([0, 1, 2, 3, 4, 5, 6] : List Nat).Nodup from by decide) ⟨rfl, rfl, rfl, rfl, rfl, rfl, rfl, trivial⟩ ?_
              exact ih s x1 x2 x3 0 0 (x6 + 1) x1000 hG f (by first | exact x_rb b_x1 rfl rfl | exact ⟨by omega, by omega⟩) (by first | exact x_rb b_x2 rfl rfl | exact ⟨by omega, by omega⟩) (by first | exact x_rb b_x3 rfl rfl | exact ⟨by omega, by omega⟩) ⟨by decide, by decide⟩ ⟨by decide, by decide⟩ ⟨by omega, by omega⟩ (by first | exact x_rb b_x1000 rfl rfl | exact ⟨by omega, by omega⟩) (by omega) (by omega) (by omega) (by omega) (by omega) (by omega) (by omega) (w_2.no (by omega) n1) (w_3.no (by omega) (fun q => n1 q.1)) (e_x1000.symm).symm  (by omega)
        · skip
          refine x_A k164_39 (fun _ => rfl) ?_
          refine x_goto k164_40 (t := 44) rfl ?_
          have p1 : (fun c => HpR s0 d c 1 ∧ s0 273 c.toNat = a) x6 := ⟨(ho.resolve_right (fun q => by omega)).2, by rw [← f.nil]; omega⟩
          refine x_istore k164_44 (ls' := [(7, vi 1), (0, .ref 256), (1, vi x1), (2, vi x2), (3, vi x3), (4, vi x4), (5, vi x5), (6, vi x6)]) (by decide) rfl ?_
          refine x_A k164_46 (fun _ => rfl) ?_
          refine x_if_ne k164_48 (t := 56) rfl (by first | exact x_rb b_x4 rfl rfl | exact ⟨by omega, by omega⟩) (fun c570 => ?_) (fun c570 => ?_)
          · skip
            refine x_A k164_56 (fun _ => rfl) ?_
            refine x_goto k164_57 (t := 61) rfl ?_
            refine x_istore k164_61 (ls' := [(4, vi 1), (7, vi 1), (0, .ref 256), (1, vi x1), (2, vi x2), (3, vi x3), (5, vi x5), (6, vi x6)]) (by decide) rfl ?_
            refine x_A k164_63 (fun _ => rfl) ?_
            refine x_if_ne k164_65 (t := 89) rfl (by first | exact x_rb b_x5 rfl rfl | exact ⟨by omega, by omega⟩) (fun c571 => ?_) (fun c571 => ?_)
            · skip
              refine x_A k164_89 (fun _ => rfl) ?_
              refine x_goto k164_90 (t := 94) rfl ?_
              refine x_istore k164_94 (ls' := [(5, vi 1), (4, vi 1), (7, vi 1), (0, .ref 256), (1, vi x1), (2, vi x2), (3, vi x3), (6, vi x6)]) (by decide) rfl ?_
              refine x_iinc k164_96 (ls' := [(6, vi (x6 + 1)), (5, vi 1), (4, vi 1), (7, vi 1), (0, .ref 256), (1, vi x1), (2, vi x2), (3, vi x3)]) rfl (by decide) rfl ?_
              refine x_goto k164_99 (t := 9) rfl ?_
              refine x_ls (l := [(0, .ref 256), (1, vi x1), (2, vi x2), (3, vi x3), (4, vi 1), (5, vi 1), (6, vi (x6 + 1))]) (show ([0, 1, 2, 3, 4, 5, 6] : List Nat).Nodup from by decide) ⟨rfl, rfl, rfl, rfl, rfl, rfl, rfl, trivial⟩ ?_
              exact ih s x1 x2 x3 1 1 (x6 + 1) x1000 hG f (by first | exact x_rb b_x1 rfl rfl | exact ⟨by omega, by omega⟩) (by first | exact x_rb b_x2 rfl rfl | exact ⟨by omega, by omega⟩) (by first | exact x_rb b_x3 rfl rfl | exact ⟨by omega, by omega⟩) ⟨by decide, by decide⟩ ⟨by decide, by decide⟩ ⟨by omega, by omega⟩ (by first | exact x_rb b_x1000 rfl rfl | exact ⟨by omega, by omega⟩) (by omega) (by omega) (by omega) (by omega) (by omega) (by omega) (by omega) (exI_yes (by omega) p1) (w_3.on (by omega)) (e_x1000.symm).symm  (by omega)
            · skip
              refine x_A k164_68 (fun _ => rfl) ?_
              refine x_if_eq k164_70 (t := 93) rfl ⟨by decide, by decide⟩ (fun c572 => by exfalso; omega) (fun c572 => ?_)
              refine x_A k164_73 (fun _ => rfl) ?_
              refine x_A k164_74 (fun _ => rfl) ?_
              refine x_A k164_75 (fun _ => rfl) ?_
              refine x_getR k164_76 (f := 23) rfl (q := 256) (n := 62) (kd := 15) ⟨by decide, rfl⟩ (q2 := 274) (by decide) rfl ?_
              refine x_A k164_79 (fun _ => rfl) ?_
              refine x_iald k164_81 (q := 274) (n := 72) ⟨by decide, rfl⟩ (by decide) (by first | exact x_rbl b_x6 rfl rfl | exact ⟨by omega, by omega⟩) ?_
              refine x_top (fun z573 e_z573 => ?_)
              have g_z573 : (-2147483648) ≤ s 274 x6.toNat ∧ s 274 x6.toNat ≤ 2147483647 := hG 274 x6.toNat
              refine x_A k164_82 (fun _ => rfl) ?_
              obtain ⟨rx, rr, rg1, rg2⟩ := pR.rng hJ0 ⟨by omega, by omega⟩ p1.1
              rw [rg2 (by omega), show s0 274 x6.toNat = z573 from (by rw [← f.nil]; exact e_z573.symm)] at rg1
              unfold okS at rg1
              refine x_callV k164_83 (y := 143) (n := 3) (w0 := 0) (w1 := 3) (as := [vi x2, vi z573, vi x3]) (rest := []) (by decide +kernel) (q := 256) (nq := 62) (kq := 15) ⟨by decide, rfl⟩ rfl rfl rfl rfl (xe_mono (E_X11_isBelow_256 s hG (hJ0.fl f (by decide)) x2 (by first | exact x_rb b_x2 rfl rfl | exact ⟨by omega, by omega⟩) z573 (by first | exact x_rbe e_z573 g_z573 rfl rfl | exact x_rb g_z573 rfl rfl | exact ⟨by omega, by omega⟩) x3 (by first | exact x_rb b_x3 rfl rfl | exact ⟨by omega, by omega⟩)) ?_)
              rintro s575 v ⟨-, t_s575, z574, rfl, g_z574, xp_z574⟩
              rw [t_s575.nil]
              try rw [t_s575.nil] at xp_z574
              show xe none 164 86 [(4, vi 1), (7, vi 1), (0, .ref 256), (1, vi x1), (2, vi x2), (3, vi x3), (5, vi x5), (6, vi x6)] [vi z574] s 0 0 _
              have be := xp_z574
              rw [f.nil, show x2 = b by omega, show x3 = d by omega, TR.bel pT hJ0 hG0 ⟨by omega, by omega⟩ pm (by omega), show z573 = s0 274 x6.toNat from (by rw [← f.nil]; exact (e_z573.symm).symm)] at be
              refine x_if_eq k164_86 (t := 93) rfl (by first | exact x_rbe e_z574 g_z574 rfl rfl | exact x_rb g_z574 rfl rfl | exact ⟨by omega, by omega⟩) (fun c576 => ?_) (fun c576 => ?_)
              · skip
                refine x_A k164_93 (fun _ => rfl) ?_
                refine x_istore k164_94 (ls' := [(5, vi 0), (4, vi 1), (7, vi 1), (0, .ref 256), (1, vi x1), (2, vi x2), (3, vi x3), (6, vi x6)]) (by decide) rfl ?_
                refine x_iinc k164_96 (ls' := [(6, vi (x6 + 1)), (5, vi 0), (4, vi 1), (7, vi 1), (0, .ref 256), (1, vi x1), (2, vi x2), (3, vi x3)]) rfl (by decide) rfl ?_
                refine x_goto k164_99 (t := 9) rfl ?_
                refine x_ls (l := [(0, .ref 256), (1, vi x1), (2, vi x2), (3, vi x3), (4, vi 1), (5, vi 0), (6, vi (x6 + 1))]) (show ([0, 1, 2, 3, 4, 5, 6] : List Nat).Nodup from by decide) ⟨rfl, rfl, rfl, rfl, rfl, rfl, rfl, trivial⟩ ?_
                exact ih s x1 x2 x3 1 0 (x6 + 1) x1000 hG f (by first | exact x_rb b_x1 rfl rfl | exact ⟨by omega, by omega⟩) (by first | exact x_rb b_x2 rfl rfl | exact ⟨by omega, by omega⟩) (by first | exact x_rb b_x3 rfl rfl | exact ⟨by omega, by omega⟩) ⟨by decide, by decide⟩ ⟨by decide, by decide⟩ ⟨by omega, by omega⟩ (by first | exact x_rb b_x1000 rfl rfl | exact ⟨by omega, by omega⟩) (by omega) (by omega) (by omega) (by omega) (by omega) (by omega) (by omega) (exI_yes (by omega) p1) (w_3.no (by omega) (fun q => (be.resolve_left (fun q => by omega)).2 q.2)) (e_x1000.symm).symm  (by omega)
              · skip
                refine x_A k164_89 (fun _ => rfl) ?_
                refine x_goto k164_90 (t := 94) rfl ?_
                refine x_istore k164_94 (ls' := [(5, vi 1), (4, vi 1), (7, vi 1), (0, .ref 256), (1, vi x1), (2, vi x2), (3, vi x3), (6, vi x6)]) (by decide) rfl ?_
                refine x_iinc k164_96 (ls' := [(6, vi (x6 + 1)), (5, vi 1), (4, vi 1), (7, vi 1), (0, .ref 256), (1, vi x1), (2, vi x2), (3, vi x3)]) rfl (by decide) rfl ?_
                refine x_goto k164_99 (t := 9) rfl ?_
                refine x_ls (l := [(0, .ref 256), (1, vi x1), (2, vi x2), (3, vi x3), (4, vi 1), (5, vi 1), (6, vi (x6 + 1))]) (show ([0, 1, 2, 3, 4, 5, 6] : List Nat).Nodup from by decide) ⟨rfl, rfl, rfl, rfl, rfl, rfl, rfl, trivial⟩ ?_
                exact ih s x1 x2 x3 1 1 (x6 + 1) x1000 hG f (by first | exact x_rb b_x1 rfl rfl | exact ⟨by omega, by omega⟩) (by first | exact x_rb b_x2 rfl rfl | exact ⟨by omega, by omega⟩) (by first | exact x_rb b_x3 rfl rfl | exact ⟨by omega, by omega⟩) ⟨by decide, by decide⟩ ⟨by decide, by decide⟩ ⟨by omega, by omega⟩ (by first | exact x_rb b_x1000 rfl rfl | exact ⟨by omega, by omega⟩) (by omega) (by omega) (by omega) (by omega) (by omega) (by omega) (by omega) (exI_yes (by omega) p1) (exI_yes (by omega) ⟨p1, (be.resolve_right (fun q => by omega)).2⟩) (e_x1000.symm).symm  (by omega)
          · skip
            refine x_A k164_51 (fun _ => rfl) ?_
            refine x_if_eq k164_53 (t := 60) rfl ⟨by decide, by decide⟩ (fun c577 => by exfalso; omega) (fun c577 => ?_)
            refine x_A k164_56 (fun _ => rfl) ?_
            refine x_goto k164_57 (t := 61) rfl ?_
            refine x_istore k164_61 (ls' := [(4, vi 1), (7, vi 1), (0, .ref 256), (1, vi x1), (2, vi x2), (3, vi x3), (5, vi x5), (6, vi x6)]) (by decide) rfl ?_
            refine x_A k164_63 (fun _ => rfl) ?_
            refine x_if_ne k164_65 (t := 89) rfl (by first | exact x_rb b_x5 rfl rfl | exact ⟨by omega, by omega⟩) (fun c578 => ?_) (fun c578 => ?_)
            · skip
              refine x_A k164_89 (fun _ => rfl) ?_
              refine x_goto k164_90 (t := 94) rfl ?_
              refine x_istore k164_94 (ls' := [(5, vi 1), (4, vi 1), (7, vi 1), (0, .ref 256), (1, vi x1), (2, vi x2), (3, vi x3), (6, vi x6)]) (by decide) rfl ?_
              refine x_iinc k164_96 (ls' := [(6, vi (x6 + 1)), (5, vi 1), (4, vi 1), (7, vi 1), (0, .ref 256), (1, vi x1), (2, vi x2), (3, vi x3)]) rfl (by decide) rfl ?_
              refine x_goto k164_99 (t := 9) rfl ?_
              refine x_ls (l := [(0, .ref 256), (1, vi x1), (2, vi x2), (3, vi x3), (4, vi 1), (5, vi 1), (6, vi (x6 + 1))]) (show ([0, 1, 2, 3, 4, 5, 6] : List Nat).Nodup from by decide) ⟨rfl, rfl, rfl, rfl, rfl, rfl, rfl, trivial⟩ ?_
              exact ih s x1 x2 x3 1 1 (x6 + 1) x1000 hG f (by first | exact x_rb b_x1 rfl rfl | exact ⟨by omega, by omega⟩) (by first | exact x_rb b_x2 rfl rfl | exact ⟨by omega, by omega⟩) (by first | exact x_rb b_x3 rfl rfl | exact ⟨by omega, by omega⟩) ⟨by decide, by decide⟩ ⟨by decide, by decide⟩ ⟨by omega, by omega⟩ (by first | exact x_rb b_x1000 rfl rfl | exact ⟨by omega, by omega⟩) (by omega) (by omega) (by omega) (by omega) (by omega) (by omega) (by omega) (exI_yes (by omega) p1) (w_3.on (by omega)) (e_x1000.symm).symm  (by omega)
            · skip
              refine x_A k164_68 (fun _ => rfl) ?_
              refine x_if_eq k164_70 (t := 93) rfl ⟨by decide, by decide⟩ (fun c579 => by exfalso; omega) (fun c579 => ?_)
              refine x_A k164_73 (fun _ => rfl) ?_
              refine x_A k164_74 (fun _ => rfl) ?_
              refine x_A k164_75 (fun _ => rfl) ?_
              refine x_getR k164_76 (f := 23) rfl (q := 256) (n := 62) (kd := 15) ⟨by decide, rfl⟩ (q2 := 274) (by decide) rfl ?_
              refine x_A k164_79 (fun _ => rfl) ?_
              refine x_iald k164_81 (q := 274) (n := 72) ⟨by decide, rfl⟩ (by decide) (by first | exact x_rbl b_x6 rfl rfl | exact ⟨by omega, by omega⟩) ?_
              refine x_top (fun z580 e_z580 => ?_)
              have g_z580 : (-2147483648) ≤ s 274 x6.toNat ∧ s 274 x6.toNat ≤ 2147483647 := hG 274 x6.toNat
              refine x_A k164_82 (fun _ => rfl) ?_
              obtain ⟨rx, rr, rg1, rg2⟩ := pR.rng hJ0 ⟨by omega, by omega⟩ p1.1
              rw [rg2 (by omega), show s0 274 x6.toNat = z580 from (by rw [← f.nil]; exact e_z580.symm)] at rg1
              unfold okS at rg1
              refine x_callV k164_83 (y := 143) (n := 3) (w0 := 0) (w1 := 3) (as := [vi x2, vi z580, vi x3]) (rest := []) (by decide +kernel) (q := 256) (nq := 62) (kq := 15) ⟨by decide, rfl⟩ rfl rfl rfl rfl (xe_mono (E_X11_isBelow_256 s hG (hJ0.fl f (by decide)) x2 (by first | exact x_rb b_x2 rfl rfl | exact ⟨by omega, by omega⟩) z580 (by first | exact x_rbe e_z580 g_z580 rfl rfl | exact x_rb g_z580 rfl rfl | exact ⟨by omega, by omega⟩) x3 (by first | exact x_rb b_x3 rfl rfl | exact ⟨by omega, by omega⟩)) ?_)
              rintro s582 v ⟨-, t_s582, z581, rfl, g_z581, xp_z581⟩
              rw [t_s582.nil]
              try rw [t_s582.nil] at xp_z581
              show xe none 164 86 [(4, vi 1), (7, vi 1), (0, .ref 256), (1, vi x1), (2, vi x2), (3, vi x3), (5, vi x5), (6, vi x6)] [vi z581] s 0 0 _
              have be := xp_z581
              rw [f.nil, show x2 = b by omega, show x3 = d by omega, TR.bel pT hJ0 hG0 ⟨by omega, by omega⟩ pm (by omega), show z580 = s0 274 x6.toNat from (by rw [← f.nil]; exact (e_z580.symm).symm)] at be
              refine x_if_eq k164_86 (t := 93) rfl (by first | exact x_rbe e_z581 g_z581 rfl rfl | exact x_rb g_z581 rfl rfl | exact ⟨by omega, by omega⟩) (fun c583 => ?_) (fun c583 => ?_)
              · skip
                refine x_A k164_93 (fun _ => rfl) ?_
                refine x_istore k164_94 (ls' := [(5, vi 0), (4, vi 1), (7, vi 1), (0, .ref 256), (1, vi x1), (2, vi x2), (3, vi x3), (6, vi x6)]) (by decide) rfl ?_
                refine x_iinc k164_96 (ls' := [(6, vi (x6 + 1)), (5, vi 0), (4, vi 1), (7, vi 1), (0, .ref 256), (1, vi x1), (2, vi x2), (3, vi x3)]) rfl (by decide) rfl ?_
                refine x_goto k164_99 (t := 9) rfl ?_
                refine x_ls (l := [(0, .ref 256), (1, vi x1), (2, vi x2), (3, vi x3), (4, vi 1), (5, vi 0), (6, vi (x6 + 1))]) (show ([0, 1, 2, 3, 4, 5, 6] : List Nat).Nodup from by decide) ⟨rfl, rfl, rfl, rfl, rfl, rfl, rfl, trivial⟩ ?_
                exact ih s x1 x2 x3 1 0 (x6 + 1) x1000 hG f (by first | exact x_rb b_x1 rfl rfl | exact ⟨by omega, by omega⟩) (by first | exact x_rb b_x2 rfl rfl | exact ⟨by omega, by omega⟩) (by first | exact x_rb b_x3 rfl rfl | exact ⟨by omega, by omega⟩) ⟨by decide, by decide⟩ ⟨by decide, by decide⟩ ⟨by omega, by omega⟩ (by first | exact x_rb b_x1000 rfl rfl | exact ⟨by omega, by omega⟩) (by omega) (by omega) (by omega) (by omega) (by omega) (by omega) (by omega) (exI_yes (by omega) p1) (w_3.no (by omega) (fun q => (be.resolve_left (fun q => by omega)).2 q.2)) (e_x1000.symm).symm  (by omega)
              · skip
                refine x_A k164_89 (fun _ => rfl) ?_
                refine x_goto k164_90 (t := 94) rfl ?_
                refine x_istore k164_94 (ls' := [(5, vi 1), (4, vi 1), (7, vi 1), (0, .ref 256), (1, vi x1), (2, vi x2), (3, vi x3), (6, vi x6)]) (by decide) rfl ?_
                refine x_iinc k164_96 (ls' := [(6, vi (x6 + 1)), (5, vi 1), (4, vi 1), (7, vi 1), (0, .ref 256), (1, vi x1), (2, vi x2), (3, vi x3)]) rfl (by decide) rfl ?_
                refine x_goto k164_99 (t := 9) rfl ?_
                refine x_ls (l := [(0, .ref 256), (1, vi x1), (2, vi x2), (3, vi x3), (4, vi 1), (5, vi 1), (6, vi (x6 + 1))]) (show ([0, 1, 2, 3, 4, 5, 6] : List Nat).Nodup from by decide) ⟨rfl, rfl, rfl, rfl, rfl, rfl, rfl, trivial⟩ ?_
                exact ih s x1 x2 x3 1 1 (x6 + 1) x1000 hG f (by first | exact x_rb b_x1 rfl rfl | exact ⟨by omega, by omega⟩) (by first | exact x_rb b_x2 rfl rfl | exact ⟨by omega, by omega⟩) (by first | exact x_rb b_x3 rfl rfl | exact ⟨by omega, by omega⟩) ⟨by decide, by decide⟩ ⟨by decide, by decide⟩ ⟨by omega, by omega⟩ (by first | exact x_rb b_x1000 rfl rfl | exact ⟨by omega, by omega⟩) (by omega) (by omega) (by omega) (by omega) (by omega) (by omega) (by omega) (exI_yes (by omega) p1) (exI_yes (by omega) ⟨p1, (be.resolve_right (fun q => by omega)).2⟩) (e_x1000.symm).symm  (by omega)
set_option maxHeartbeats 8000000 in
theorem E_X11_isAllowed_256 (s0 : xS) (hG0 : GI s0) (hJ0 : J s0) (a : Int) (b_a : (-2147483648) ≤ a ∧ a ≤ 2147483647) (b : Int) (b_b : (-2147483648) ≤ b ∧ b ≤ 2147483647) (d : Int) (b_d : 0 ≤ d ∧ d ≤ 9) (pR : R1 s0) (pT : TR s0) (pf : FrZ s0 s0 d) (pm : tdC s0 d b) : xe none 164 0 (lv_args 0 [.ref 256, vi a, vi b, vi d]) [] s0 0 0 (fun s' v => GI s' ∧ FL [] s0 s' ∧ ∃ z, v = some (vi z) ∧ (0 ≤ z ∧ z ≤ 1) ∧ ((z = 1 ∧ ¬ naR s0 a b d) ∨ (z = 0 ∧ naR s0 a b d))) := by
  have f0 : FL [] s0 s0 := FL.rf
  show xe none 164 0 [(0, .ref 256), (1, vi a), (2, vi b), (3, vi d)] [] s0 0 0 _
  refine x_A k164_0 (fun _ => rfl) ?_
  refine x_istore k164_1 (ls' := [(4, vi 0), (0, .ref 256), (1, vi a), (2, vi b), (3, vi d)]) (by decide) rfl ?_
  refine x_A k164_3 (fun _ => rfl) ?_
  refine x_istore k164_4 (ls' := [(5, vi 0), (4, vi 0), (0, .ref 256), (1, vi a), (2, vi b), (3, vi d)]) (by decide) rfl ?_
  refine x_A k164_6 (fun _ => rfl) ?_
  refine x_istore k164_7 (ls' := [(6, vi 0), (5, vi 0), (4, vi 0), (0, .ref 256), (1, vi a), (2, vi b), (3, vi d)]) (by decide) rfl ?_
  obtain ⟨z584, e_z584⟩ : ∃ z, z = s0 256 20 := ⟨_, rfl⟩
  have g_z584 : (0 : Int) ≤ s0 256 20 ∧ s0 256 20 ≤ 64 := hG0 256 20
  refine x_ls (l := [(0, .ref 256), (1, vi a), (2, vi b), (3, vi d), (4, vi 0), (5, vi 0), (6, vi 0)]) (show ([0, 1, 2, 3, 4, 5, 6] : List Nat).Nodup from by decide) ⟨rfl, rfl, rfl, rfl, rfl, rfl, rfl, trivial⟩ ?_
  exact L_E_X11_isAllowed_256_9 s0 hJ0 hG0 a b_a b b_b d b_d pR pT pf pm  (((64 - 0) + 1 : Int)).toNat s0 a b d 0 0 0 z584 hG0 f0 (by first | exact x_rb b_a rfl rfl | exact ⟨by omega, by omega⟩) (by first | exact x_rb b_b rfl rfl | exact ⟨by omega, by omega⟩) (by first | exact x_rb b_d rfl rfl | exact ⟨by omega, by omega⟩) ⟨by decide, by decide⟩ ⟨by decide, by decide⟩ ⟨by decide, by decide⟩ (by first | exact x_rbe e_z584 g_z584 rfl rfl | exact x_rb g_z584 rfl rfl | exact ⟨by omega, by omega⟩) (by omega) (by omega) (by omega) (by omega) (by omega) (by omega) (by omega) exI_0 exI_0 (e_z584.symm).symm  (by omega)
set_option maxHeartbeats 8000000 in
theorem L_E_X11_isBarred_256_4 (s0 : xS) (hJ0 : J s0) (a : Int) (b_a : (-2147483648) ≤ a ∧ a ≤ 2147483647) (pe : Int) (pR : R1 s0) (pf : FrZ s0 s0 pe)  : ∀ (n : Nat) (s : xS) (x1 : Int) (x2 : Int) (x3 : Int) (x1000 : Int) (hG : GI s) (f : FL [] s0 s) (b_x1 : (-2147483648) ≤ x1 ∧ x1 ≤ 2147483647) (b_x2 : 0 ≤ x2 ∧ x2 ≤ 1) (b_x3 : 0 ≤ x3 ∧ x3 ≤ 64) (b_x1000 : 0 ≤ x1000 ∧ x1000 ≤ 64) (r_2_3 : x2 ≤ x3 + 0) (r_3_1000 : x3 ≤ x1000 + 0) (r_2_1000 : x2 ≤ x1000 + 0) (w_0 : x1 = a ∧ x1000 = s0 256 20 ∧ x3 ≤ x1000 ∧ x1000 ≤ 64) (w_1 : exI (brR s0 pe a) x2 x3) (e_x1000 : x1000 = s 256 20)  (hm : (64 - x3) < (n : Int)), xe none 163 4 [(0, .ref 256), (1, vi x1), (2, vi x2), (3, vi x3)] [] s 0 0 (fun s' v => GI s' ∧ FL [] s0 s' ∧ ∃ z, v = some (vi z) ∧ (0 ≤ z ∧ z ≤ 1) ∧ ((z = 1 ∧ twC s0 pe a) ∨ (z = 0 ∧ ¬ twC s0 pe a))) := by
  intro n
  induction n with
  | zero => intro s x1 x2 x3 x1000 hG f b_x1 b_x2 b_x3 b_x1000 r_2_3 r_3_1000 r_2_1000 w_0 w_1 e_x1000  hm; exfalso; omega
  | succ n ih =>
    intro s x1 x2 x3 x1000 hG f b_x1 b_x2 b_x3 b_x1000 r_2_3 r_3_1000 r_2_1000 w_0 w_1 e_x1000  hm
    refine x_A k163_4 (fun _ => rfl) ?_
    refine x_A k163_5 (fun _ => rfl) ?_
    refine x_getI k163_6 (f := 20) rfl (q := 256) (n := 62) (kd := 15) ⟨by decide, rfl⟩ (by decide) rfl ?_
    refine x_rw (e_x1000.symm) ?_
    refine x_ic_ge k163_9 (t := 87) rfl (by first | exact x_rb b_x3 rfl rfl | exact ⟨by omega, by omega⟩) (by first | exact x_rb b_x1000 rfl rfl | exact ⟨by omega, by omega⟩) (fun c336 => ?_) (fun c336 => ?_)
    · skip
      refine x_A k163_87 (fun _ => rfl) ?_
      exact x_zret k163_88 rfl ⟨by omega, by omega⟩ ⟨hG, f, x2, rfl, (by first | exact x_rb b_x2 rfl rfl | exact ⟨by omega, by omega⟩), (by rw [← pR.br hJ0]; rw [← show x3 = s0 256 20 by omega]; exact w_1)⟩
    · skip
      refine x_A k163_12 (fun _ => rfl) ?_
      refine x_A k163_13 (fun _ => rfl) ?_
      refine x_getR k163_14 (f := 22) rfl (q := 256) (n := 62) (kd := 15) ⟨by decide, rfl⟩ (q2 := 273) (by decide) rfl ?_
      refine x_A k163_17 (fun _ => rfl) ?_
      refine x_iald k163_18 (q := 273) (n := 72) ⟨by decide, rfl⟩ (by decide) (by first | exact x_rbl b_x3 rfl rfl | exact ⟨by omega, by omega⟩) ?_
      refine x_top (fun z337 e_z337 => ?_)
      have g_z337 : (-2147483648) ≤ s 273 x3.toNat ∧ s 273 x3.toNat ≤ 2147483647 := hG 273 x3.toNat
      refine x_ishr_p k163_19 (fun z338 i_z338 u_z338 => ?_)
      have g_z338 := i_z338
      unfold in32 at g_z338
      refine x_A k163_20 (fun _ => rfl) ?_
      refine x_A k163_21 (fun _ => rfl) ?_
      refine x_getR k163_22 (f := 23) rfl (q := 256) (n := 62) (kd := 15) ⟨by decide, rfl⟩ (q2 := 274) (by decide) rfl ?_
      refine x_A k163_25 (fun _ => rfl) ?_
      refine x_iald k163_26 (q := 274) (n := 72) ⟨by decide, rfl⟩ (by decide) (by first | exact x_rbl b_x3 rfl rfl | exact ⟨by omega, by omega⟩) ?_
      refine x_top (fun z339 e_z339 => ?_)
      have g_z339 : (-2147483648) ≤ s 274 x3.toNat ∧ s 274 x3.toNat ≤ 2147483647 := hG 274 x3.toNat
      refine x_ishr_p k163_27 (fun z340 i_z340 u_z340 => ?_)
      have g_z340 := i_z340
      unfold in32 at g_z340
      refine x_iand_b k163_28 (fun z341 i_z341 u_z341 => ?_)
      have g_z341 := i_z341
      unfold in32 at g_z341
      refine x_A k163_29 (fun _ => rfl) ?_
      refine x_iand_b k163_30 (fun z342 i_z342 u_z342 => ?_)
      have g_z342 := i_z342
      unfold in32 at g_z342
      refine x_A k163_31 (fun _ => rfl) ?_
      refine x_ic_ne k163_32 (t := 39) rfl (by first | exact x_rbe e_z342 g_z342 rfl rfl | exact x_rb g_z342 rfl rfl | exact ⟨by omega, by omega⟩) ⟨by decide, by decide⟩ (fun c343 => ?_) (fun c343 => ?_)
      · skip
        refine x_A k163_39 (fun _ => rfl) ?_
        refine x_istore k163_40 (ls' := [(4, vi 0), (0, .ref 256), (1, vi x1), (2, vi x2), (3, vi x3)]) (by decide) rfl ?_
        refine x_A k163_42 (fun _ => rfl) ?_
        refine x_if_ne k163_43 (t := 75) rfl (by first | exact x_rb b_x2 rfl rfl | exact ⟨by omega, by omega⟩) (fun c344 => ?_) (fun c344 => ?_)
        · skip
          refine x_A k163_75 (fun _ => rfl) ?_
          refine x_goto k163_76 (t := 80) rfl ?_
          refine x_istore_n k163_80 (ls' := [(2, vi 1), (4, vi 0), (0, .ref 256), (1, vi x1), (3, vi x3)]) (by decide) rfl ?_
          refine x_iinc k163_81 (ls' := [(3, vi (x3 + 1)), (2, vi 1), (4, vi 0), (0, .ref 256), (1, vi x1)]) rfl (by decide) rfl ?_
          refine x_goto k163_84 (t := 4) rfl ?_
          refine x_ls (l := [(0, .ref 256), (1, vi x1), (2, vi 1), (3, vi (x3 + 1))]) (show ([0, 1, 2, 3] : List Nat).Nodup from by decide) ⟨rfl, rfl, rfl, rfl, trivial⟩ ?_
          exact ih s x1 1 (x3 + 1) x1000 hG f (by first | exact x_rb b_x1 rfl rfl | exact ⟨by omega, by omega⟩) ⟨by decide, by decide⟩ ⟨by omega, by omega⟩ (by first | exact x_rb b_x1000 rfl rfl | exact ⟨by omega, by omega⟩) (by omega) (by omega) (by omega) (by omega) (w_1.on (by omega)) (e_x1000.symm).symm  (by omega)
        · skip
          refine x_A k163_46 (fun _ => rfl) ?_
          refine x_A k163_47 (fun _ => rfl) ?_
          refine x_A k163_48 (fun _ => rfl) ?_
          refine x_callV k163_49 (y := 162) (n := 2) (w0 := 0) (w1 := 2) (as := [vi x3, vi 2]) (rest := []) (by decide +kernel) (q := 256) (nq := 62) (kq := 15) ⟨by decide, rfl⟩ rfl rfl rfl rfl (xe_mono (E_X11_holds_256 s hG (hJ0.fl f (by decide)) x3 (by first | exact x_rb b_x3 rfl rfl | exact ⟨by omega, by omega⟩) 2 ⟨by decide, by decide⟩ (by omega) (pR.fl f (by decide))) ?_)
          rintro s346 v ⟨-, t_s346, z345, rfl, g_z345, xp_z345⟩
          rw [t_s346.nil]
          try rw [t_s346.nil] at xp_z345
          show xe none 163 52 [(4, vi 0), (0, .ref 256), (1, vi x1), (2, vi x2), (3, vi x3)] [vi z345] s 0 0 _
          have ho := xp_z345
          rw [f.nil, pf.ho] at ho
          refine x_if_eq k163_52 (t := 79) rfl (by first | exact x_rbe e_z345 g_z345 rfl rfl | exact x_rb g_z345 rfl rfl | exact ⟨by omega, by omega⟩) (fun c347 => ?_) (fun c347 => ?_)
          · skip
            refine x_A k163_79 (fun _ => rfl) ?_
            refine x_istore_n k163_80 (ls' := [(2, vi 0), (4, vi 0), (0, .ref 256), (1, vi x1), (3, vi x3)]) (by decide) rfl ?_
            refine x_iinc k163_81 (ls' := [(3, vi (x3 + 1)), (2, vi 0), (4, vi 0), (0, .ref 256), (1, vi x1)]) rfl (by decide) rfl ?_
            refine x_goto k163_84 (t := 4) rfl ?_
            refine x_ls (l := [(0, .ref 256), (1, vi x1), (2, vi 0), (3, vi (x3 + 1))]) (show ([0, 1, 2, 3] : List Nat).Nodup from by decide) ⟨rfl, rfl, rfl, rfl, trivial⟩ ?_
            exact ih s x1 0 (x3 + 1) x1000 hG f (by first | exact x_rb b_x1 rfl rfl | exact ⟨by omega, by omega⟩) ⟨by decide, by decide⟩ ⟨by omega, by omega⟩ (by first | exact x_rb b_x1000 rfl rfl | exact ⟨by omega, by omega⟩) (by omega) (by omega) (by omega) (by omega) (w_1.no (by omega) (fun q => (ho.resolve_left (fun q => by omega)).2 q.1)) (e_x1000.symm).symm  (by omega)
          · skip
            have hp := (ho.resolve_right (fun q => by omega)).2
            obtain ⟨rx, rr, rg1, rg2⟩ := pR.rng hJ0 ⟨by omega, by omega⟩ hp
            rw [rg2 (by omega)] at rg1
            unfold okS at rg1
            have eA : s0 273 x3.toNat = z337 := by rw [← f.nil]; exact e_z337.symm
            have eB : s0 274 x3.toNat = z339 := by rw [← f.nil]; exact e_z339.symm
            rw [eA, eB] at rg1
            have b2_ := bi_two (a := x1) (p := z337) (q := z339) ⟨by omega, by omega⟩ ⟨by omega, by omega⟩ u_z338 u_z340 u_z341 i_z342 u_z342
            rw [show x1 = a by omega] at b2_
            refine x_A k163_55 (fun _ => rfl) ?_
            refine x_getR k163_56 (f := 22) rfl (q := 256) (n := 62) (kd := 15) ⟨by decide, rfl⟩ (q2 := 273) (by decide) rfl ?_
            refine x_A k163_59 (fun _ => rfl) ?_
            refine x_iald k163_60 (q := 273) (n := 72) ⟨by decide, rfl⟩ (by decide) (by first | exact x_rbl b_x3 rfl rfl | exact ⟨by omega, by omega⟩) ?_
            refine x_rw (e_z337.symm) ?_
            refine x_A k163_61 (fun _ => rfl) ?_
            refine x_getR k163_62 (f := 23) rfl (q := 256) (n := 62) (kd := 15) ⟨by decide, rfl⟩ (q2 := 274) (by decide) rfl ?_
            refine x_A k163_65 (fun _ => rfl) ?_
            refine x_iald k163_66 (q := 274) (n := 72) ⟨by decide, rfl⟩ (by decide) (by first | exact x_rbl b_x3 rfl rfl | exact ⟨by omega, by omega⟩) ?_
            refine x_rw (e_z339.symm) ?_
            refine x_ic_eq k163_67 (t := 79) rfl (by first | exact x_rbe e_z337 g_z337 rfl rfl | exact x_rb g_z337 rfl rfl | exact ⟨by omega, by omega⟩) (by first | exact x_rbe e_z339 g_z339 rfl rfl | exact x_rb g_z339 rfl rfl | exact ⟨by omega, by omega⟩) (fun c348 => ?_) (fun c348 => ?_)
            · skip
              refine x_A k163_79 (fun _ => rfl) ?_
              refine x_istore_n k163_80 (ls' := [(2, vi 0), (4, vi 0), (0, .ref 256), (1, vi x1), (3, vi x3)]) (by decide) rfl ?_
              refine x_iinc k163_81 (ls' := [(3, vi (x3 + 1)), (2, vi 0), (4, vi 0), (0, .ref 256), (1, vi x1)]) rfl (by decide) rfl ?_
              refine x_goto k163_84 (t := 4) rfl ?_
              refine x_ls (l := [(0, .ref 256), (1, vi x1), (2, vi 0), (3, vi (x3 + 1))]) (show ([0, 1, 2, 3] : List Nat).Nodup from by decide) ⟨rfl, rfl, rfl, rfl, trivial⟩ ?_
              exact ih s x1 0 (x3 + 1) x1000 hG f (by first | exact x_rb b_x1 rfl rfl | exact ⟨by omega, by omega⟩) ⟨by decide, by decide⟩ ⟨by omega, by omega⟩ (by first | exact x_rb b_x1000 rfl rfl | exact ⟨by omega, by omega⟩) (by omega) (by omega) (by omega) (by omega) (w_1.no (by omega) (fun ⟨_, q1, q2, q3⟩ => by rw [eA] at q2; rw [eB] at q3; have w := b2_.mpr ⟨q2, q3⟩; omega)) (e_x1000.symm).symm  (by omega)
            · skip
              refine x_A k163_70 (fun _ => rfl) ?_
              refine x_if_eq k163_72 (t := 79) rfl ⟨by decide, by decide⟩ (fun c349 => ?_) (fun c349 => by exfalso; omega)
              refine x_A k163_79 (fun _ => rfl) ?_
              refine x_istore_n k163_80 (ls' := [(2, vi 0), (4, vi 0), (0, .ref 256), (1, vi x1), (3, vi x3)]) (by decide) rfl ?_
              refine x_iinc k163_81 (ls' := [(3, vi (x3 + 1)), (2, vi 0), (4, vi 0), (0, .ref 256), (1, vi x1)]) rfl (by decide) rfl ?_
              refine x_goto k163_84 (t := 4) rfl ?_
              refine x_ls (l := [(0, .ref 256), (1, vi x1), (2, vi 0), (3, vi (x3 + 1))]) (show ([0, 1, 2, 3] : List Nat).Nodup from by decide) ⟨rfl, rfl, rfl, rfl, trivial⟩ ?_
              exact ih s x1 0 (x3 + 1) x1000 hG f (by first | exact x_rb b_x1 rfl rfl | exact ⟨by omega, by omega⟩) ⟨by decide, by decide⟩ ⟨by omega, by omega⟩ (by first | exact x_rb b_x1000 rfl rfl | exact ⟨by omega, by omega⟩) (by omega) (by omega) (by omega) (by omega) (w_1.no (by omega) (fun ⟨_, q1, q2, q3⟩ => by rw [eA] at q2; rw [eB] at q3; have w := b2_.mpr ⟨q2, q3⟩; omega)) (e_x1000.symm).symm  (by omega)
      · skip
        refine x_A k163_35 (fun _ => rfl) ?_
        refine x_goto k163_36 (t := 40) rfl ?_
        refine x_istore k163_40 (ls' := [(4, vi 1), (0, .ref 256), (1, vi x1), (2, vi x2), (3, vi x3)]) (by decide) rfl ?_
        refine x_A k163_42 (fun _ => rfl) ?_
        refine x_if_ne k163_43 (t := 75) rfl (by first | exact x_rb b_x2 rfl rfl | exact ⟨by omega, by omega⟩) (fun c350 => ?_) (fun c350 => ?_)
        · skip
          refine x_A k163_75 (fun _ => rfl) ?_
          refine x_goto k163_76 (t := 80) rfl ?_
          refine x_istore_n k163_80 (ls' := [(2, vi 1), (4, vi 1), (0, .ref 256), (1, vi x1), (3, vi x3)]) (by decide) rfl ?_
          refine x_iinc k163_81 (ls' := [(3, vi (x3 + 1)), (2, vi 1), (4, vi 1), (0, .ref 256), (1, vi x1)]) rfl (by decide) rfl ?_
          refine x_goto k163_84 (t := 4) rfl ?_
          refine x_ls (l := [(0, .ref 256), (1, vi x1), (2, vi 1), (3, vi (x3 + 1))]) (show ([0, 1, 2, 3] : List Nat).Nodup from by decide) ⟨rfl, rfl, rfl, rfl, trivial⟩ ?_
          exact ih s x1 1 (x3 + 1) x1000 hG f (by first | exact x_rb b_x1 rfl rfl | exact ⟨by omega, by omega⟩) ⟨by decide, by decide⟩ ⟨by omega, by omega⟩ (by first | exact x_rb b_x1000 rfl rfl | exact ⟨by omega, by omega⟩) (by omega) (by omega) (by omega) (by omega) (w_1.on (by omega)) (e_x1000.symm).symm  (by omega)
        · skip
          refine x_A k163_46 (fun _ => rfl) ?_
          refine x_A k163_47 (fun _ => rfl) ?_
          refine x_A k163_48 (fun _ => rfl) ?_
          refine x_callV k163_49 (y := 162) (n := 2) (w0 := 0) (w1 := 2) (as := [vi x3, vi 2]) (rest := []) (by decide +kernel) (q := 256) (nq := 62) (kq := 15) ⟨by decide, rfl⟩ rfl rfl rfl rfl (xe_mono (E_X11_holds_256 s hG (hJ0.fl f (by decide)) x3 (by first | exact x_rb b_x3 rfl rfl | exact ⟨by omega, by omega⟩) 2 ⟨by decide, by decide⟩ (by omega) (pR.fl f (by decide))) ?_)
          rintro s352 v ⟨-, t_s352, z351, rfl, g_z351, xp_z351⟩
          rw [t_s352.nil]
          try rw [t_s352.nil] at xp_z351
          show xe none 163 52 [(4, vi 1), (0, .ref 256), (1, vi x1), (2, vi x2), (3, vi x3)] [vi z351] s 0 0 _
          have ho := xp_z351
          rw [f.nil, pf.ho] at ho
          refine x_if_eq k163_52 (t := 79) rfl (by first | exact x_rbe e_z351 g_z351 rfl rfl | exact x_rb g_z351 rfl rfl | exact ⟨by omega, by omega⟩) (fun c353 => ?_) (fun c353 => ?_)
          · skip
            refine x_A k163_79 (fun _ => rfl) ?_
            refine x_istore_n k163_80 (ls' := [(2, vi 0), (4, vi 1), (0, .ref 256), (1, vi x1), (3, vi x3)]) (by decide) rfl ?_
            refine x_iinc k163_81 (ls' := [(3, vi (x3 + 1)), (2, vi 0), (4, vi 1), (0, .ref 256), (1, vi x1)]) rfl (by decide) rfl ?_
            refine x_goto k163_84 (t := 4) rfl ?_
            refine x_ls (l := [(0, .ref 256), (1, vi x1), (2, vi 0), (3, vi (x3 + 1))]) (show ([0, 1, 2, 3] : List Nat).Nodup from by decide) ⟨rfl, rfl, rfl, rfl, trivial⟩ ?_
            exact ih s x1 0 (x3 + 1) x1000 hG f (by first | exact x_rb b_x1 rfl rfl | exact ⟨by omega, by omega⟩) ⟨by decide, by decide⟩ ⟨by omega, by omega⟩ (by first | exact x_rb b_x1000 rfl rfl | exact ⟨by omega, by omega⟩) (by omega) (by omega) (by omega) (by omega) (w_1.no (by omega) (fun q => (ho.resolve_left (fun q => by omega)).2 q.1)) (e_x1000.symm).symm  (by omega)
          · skip
            have hp := (ho.resolve_right (fun q => by omega)).2
            obtain ⟨rx, rr, rg1, rg2⟩ := pR.rng hJ0 ⟨by omega, by omega⟩ hp
            rw [rg2 (by omega)] at rg1
            unfold okS at rg1
            have eA : s0 273 x3.toNat = z337 := by rw [← f.nil]; exact e_z337.symm
            have eB : s0 274 x3.toNat = z339 := by rw [← f.nil]; exact e_z339.symm
            rw [eA, eB] at rg1
            have b2_ := bi_two (a := x1) (p := z337) (q := z339) ⟨by omega, by omega⟩ ⟨by omega, by omega⟩ u_z338 u_z340 u_z341 i_z342 u_z342
            rw [show x1 = a by omega] at b2_
            refine x_A k163_55 (fun _ => rfl) ?_
            refine x_getR k163_56 (f := 22) rfl (q := 256) (n := 62) (kd := 15) ⟨by decide, rfl⟩ (q2 := 273) (by decide) rfl ?_
            refine x_A k163_59 (fun _ => rfl) ?_
            refine x_iald k163_60 (q := 273) (n := 72) ⟨by decide, rfl⟩ (by decide) (by first | exact x_rbl b_x3 rfl rfl | exact ⟨by omega, by omega⟩) ?_
            refine x_rw (e_z337.symm) ?_
            refine x_A k163_61 (fun _ => rfl) ?_
            refine x_getR k163_62 (f := 23) rfl (q := 256) (n := 62) (kd := 15) ⟨by decide, rfl⟩ (q2 := 274) (by decide) rfl ?_
            refine x_A k163_65 (fun _ => rfl) ?_
            refine x_iald k163_66 (q := 274) (n := 72) ⟨by decide, rfl⟩ (by decide) (by first | exact x_rbl b_x3 rfl rfl | exact ⟨by omega, by omega⟩) ?_
            refine x_rw (e_z339.symm) ?_
            refine x_ic_eq k163_67 (t := 79) rfl (by first | exact x_rbe e_z337 g_z337 rfl rfl | exact x_rb g_z337 rfl rfl | exact ⟨by omega, by omega⟩) (by first | exact x_rbe e_z339 g_z339 rfl rfl | exact x_rb g_z339 rfl rfl | exact ⟨by omega, by omega⟩) (fun c354 => ?_) (fun c354 => ?_)
            · skip
              refine x_A k163_79 (fun _ => rfl) ?_
              refine x_istore_n k163_80 (ls' := [(2, vi 0), (4, vi 1), (0, .ref 256), (1, vi x1), (3, vi x3)]) (by decide) rfl ?_
              refine x_iinc k163_81 (ls' := [(3, vi (x3 + 1)), (2, vi 0), (4, vi 1), (0, .ref 256), (1, vi x1)]) rfl (by decide) rfl ?_
              refine x_goto k163_84 (t := 4) rfl ?_
              refine x_ls (l := [(0, .ref 256), (1, vi x1), (2, vi 0), (3, vi (x3 + 1))]) (show ([0, 1, 2, 3] : List Nat).Nodup from by decide) ⟨rfl, rfl, rfl, rfl, trivial⟩ ?_
              exact ih s x1 0 (x3 + 1) x1000 hG f (by first | exact x_rb b_x1 rfl rfl | exact ⟨by omega, by omega⟩) ⟨by decide, by decide⟩ ⟨by omega, by omega⟩ (by first | exact x_rb b_x1000 rfl rfl | exact ⟨by omega, by omega⟩) (by omega) (by omega) (by omega) (by omega) (w_1.no (by omega) (fun ⟨_, q1, q2, q3⟩ => by rw [eA] at q2; rw [eB] at q3; have w := b2_.mpr ⟨q2, q3⟩; omega)) (e_x1000.symm).symm  (by omega)
            · skip
              refine x_A k163_70 (fun _ => rfl) ?_
              refine x_if_eq k163_72 (t := 79) rfl ⟨by decide, by decide⟩ (fun c355 => by exfalso; omega) (fun c355 => ?_)
              refine x_A k163_75 (fun _ => rfl) ?_
              refine x_goto k163_76 (t := 80) rfl ?_
              refine x_istore_n k163_80 (ls' := [(2, vi 1), (4, vi 1), (0, .ref 256), (1, vi x1), (3, vi x3)]) (by decide) rfl ?_
              refine x_iinc k163_81 (ls' := [(3, vi (x3 + 1)), (2, vi 1), (4, vi 1), (0, .ref 256), (1, vi x1)]) rfl (by decide) rfl ?_
              refine x_goto k163_84 (t := 4) rfl ?_
              refine x_ls (l := [(0, .ref 256), (1, vi x1), (2, vi 1), (3, vi (x3 + 1))]) (show ([0, 1, 2, 3] : List Nat).Nodup from by decide) ⟨rfl, rfl, rfl, rfl, trivial⟩ ?_
              exact ih s x1 1 (x3 + 1) x1000 hG f (by first | exact x_rb b_x1 rfl rfl | exact ⟨by omega, by omega⟩) ⟨by decide, by decide⟩ ⟨by omega, by omega⟩ (by first | exact x_rb b_x1000 rfl rfl | exact ⟨by omega, by omega⟩) (by omega) (by omega) (by omega) (by omega) (exI_yes (by omega) ⟨hp, by omega, by rw [eA]; exact (b2_.mp (by omega)).1, by rw [eB]; exact (b2_.mp (by omega)).2⟩) (e_x1000.symm).symm  (by omega)
set_option maxHeartbeats 8000000 in
theorem E_X11_isBarred_256 (s0 : xS) (hG0 : GI s0) (hJ0 : J s0) (a : Int) (b_a : (-2147483648) ≤ a ∧ a ≤ 2147483647) (pe : Int) (pR : R1 s0) (pf : FrZ s0 s0 pe) : xe none 163 0 (lv_args 0 [.ref 256, vi a]) [] s0 0 0 (fun s' v => GI s' ∧ FL [] s0 s' ∧ ∃ z, v = some (vi z) ∧ (0 ≤ z ∧ z ≤ 1) ∧ ((z = 1 ∧ twC s0 pe a) ∨ (z = 0 ∧ ¬ twC s0 pe a))) := by
  have f0 : FL [] s0 s0 := FL.rf
  show xe none 163 0 [(0, .ref 256), (1, vi a)] [] s0 0 0 _
  refine x_A k163_0 (fun _ => rfl) ?_
  refine x_istore_n k163_1 (ls' := [(2, vi 0), (0, .ref 256), (1, vi a)]) (by decide) rfl ?_
  refine x_A k163_2 (fun _ => rfl) ?_
  refine x_istore_n k163_3 (ls' := [(3, vi 0), (2, vi 0), (0, .ref 256), (1, vi a)]) (by decide) rfl ?_
  obtain ⟨z356, e_z356⟩ : ∃ z, z = s0 256 20 := ⟨_, rfl⟩
  have g_z356 : (0 : Int) ≤ s0 256 20 ∧ s0 256 20 ≤ 64 := hG0 256 20
  refine x_ls (l := [(0, .ref 256), (1, vi a), (2, vi 0), (3, vi 0)]) (show ([0, 1, 2, 3] : List Nat).Nodup from by decide) ⟨rfl, rfl, rfl, rfl, trivial⟩ ?_
  exact L_E_X11_isBarred_256_4 s0 hJ0 a b_a pe pR pf  (((64 - 0) + 1 : Int)).toNat s0 a 0 0 z356 hG0 f0 (by first | exact x_rb b_a rfl rfl | exact ⟨by omega, by omega⟩) ⟨by decide, by decide⟩ ⟨by decide, by decide⟩ (by first | exact x_rbe e_z356 g_z356 rfl rfl | exact x_rb g_z356 rfl rfl | exact ⟨by omega, by omega⟩) (by omega) (by omega) (by omega) (by omega) exI_0 (e_z356.symm).symm  (by omega)
