set_option maxHeartbeats 8000000 in
theorem E_X10_oneIf (s0 : xS) (hG0 : GI s0) (a : Int) (b_a : 0 ≤ a ∧ a ≤ 1) : xe none 126 0 (lv_args 0 [vi a]) [] s0 0 0 (fun s' v => GI s' ∧ FL [] s0 s' ∧ ∃ z, v = some (vi z) ∧ (0 ≤ z ∧ z ≤ 1) ∧ (z = a)) := by
  have f0 : FL [] s0 s0 := FL.rf
  show xe none 126 0 [(0, vi a)] [] s0 0 0 _
  refine x_A k126_0 (fun _ => rfl) ?_
  refine x_if_eq k126_1 (t := 8) rfl (by first | exact x_rb b_a rfl rfl | exact ⟨by omega, by omega⟩) (fun c1 => ?_) (fun c1 => ?_)
  · skip
    refine x_A k126_8 (fun _ => rfl) ?_
    exact x_iret k126_9 rfl ⟨hG0, f0, 0, rfl, ⟨by decide, by decide⟩, by omega⟩
  · skip
    refine x_A k126_4 (fun _ => rfl) ?_
    refine x_goto k126_5 (t := 9) rfl ?_
    exact x_iret k126_9 rfl ⟨hG0, f0, 1, rfl, ⟨by decide, by decide⟩, by omega⟩
set_option maxHeartbeats 8000000 in
theorem L_E_X8_isLacking_243_209_51 (s0 : xS) (hG0 : GI s0) (a : Int) (b_a : 0 ≤ a ∧ a ≤ 119) (pa : a < s0 50 6 ∧ s0 55 a.toNat ≤ s0 243 12) (pF : Fo s0 s0 209 (s0 243 12)) (pV : VJ s0 s0) (pL : VL s0 s0 (s0 243 12))  : ∀ (n : Nat) (s : xS) (x1 : Int) (x3 : Int) (x5 : Int) (hG : GI s) (f : FL [] s0 s) (b_x1 : 0 ≤ x1 ∧ x1 ≤ 119) (b_x3 : in64 x3) (b_x5 : 0 ≤ x5 ∧ x5 ≤ 40) (w_0 : x1 = a) (w_1 : ∀ k : Nat, k < 64 → (bt x3 k = true ↔ onp s0 (s0 243 12) 40 (s0 52 a.toNat) k)) (w_2 : wrC s0 a = 0) (w_3 : ∀ i : Nat, (i : Int) < x5 → ¬ laK s0 (s0 243 12) a i)  (hm : (40 - x5) < (n : Int)), xe none 83 51 [(0, .ref 243), (1, vi x1), (2, .ref 209), (3, vj x3), (5, vi x5)] [] s 0 0 (fun s' v => GI s' ∧ FL [] s0 s' ∧ ∃ z, v = some (vi z) ∧ (0 ≤ z ∧ z ≤ 1) ∧ ((z = 1 ∧ laC s0 (s0 243 12) a) ∨ (z = 0 ∧ ¬ laC s0 (s0 243 12) a))) := by
  intro n
  induction n with
  | zero => intro s x1 x3 x5 hG f b_x1 b_x3 b_x5 w_0 w_1 w_2 w_3  hm; exfalso; omega
  | succ n ih =>
    intro s x1 x3 x5 hG f b_x1 b_x3 b_x5 w_0 w_1 w_2 w_3  hm
    refine x_A k83_51 (fun _ => rfl) ?_
    refine x_bipush k83_53 (by decide +kernel) ?_
    refine x_ic_ge k83_55 (t := 111) rfl (by first | exact x_rb b_x5 rfl rfl | exact ⟨by omega, by omega⟩) ⟨by decide, by decide⟩ (fun c245 => ?_) (fun c245 => ?_)
    · skip
      refine x_A k83_111 (fun _ => rfl) ?_
      exact x_zret k83_112 rfl ⟨by omega, by omega⟩ ⟨hG, f, 0, rfl, ⟨by decide, by decide⟩, (Or.inr ⟨rfl, fun q => by obtain ⟨k, hk, q2⟩ := (laK.ex w_2).mp q; exact w_3 k (by omega) q2⟩)⟩
    · skip
      refine x_A k83_58 (fun _ => rfl) ?_
      refine x_A k83_59 (fun _ => rfl) ?_
      refine x_lushr_b k83_61 ⟨by omega, by omega⟩ (fun z246 b_z246 g_z246 => ?_)
      refine x_lconst k83_62 (z := 1) (by decide +kernel) ?_
      refine x_land_b k83_63 (fun z247 b_z247 g_z247 => ?_)
      refine x_lconst k83_64 (z := 0) (by decide +kernel) ?_
      refine x_lc_ne k83_65 k83_66 (t := 72) rfl b_z247 ⟨by omega, by omega⟩ (fun c248 => ?_) (fun c248 => ?_)
      · skip
        have bl := bt_low b_z247 g_z247
        have bu : bt z246 0 = bt x3 x5.toNat := g_z246 0
        have on_ : onp s0 (s0 243 12) 40 (s0 52 a.toNat) ((x5.toNat : Nat) : Int) := (w_1 x5.toNat (by omega)).mp (bl.elim (fun q => absurd q.1 (by omega)) (fun q => bu.symm.trans q.2))
        refine x_A k83_72 (fun _ => rfl) ?_
        refine x_getR k83_73 (f := 4) rfl (q := 209) (n := 8) (kd := 9) ⟨by decide, rfl⟩ (q2 := 213) (by decide) rfl ?_
        refine x_A k83_76 (fun _ => rfl) ?_
        refine x_lald k83_78 (q := 213) (n := 40) ⟨by decide, rfl⟩ (by decide) (by first | exact x_rbl b_x5 rfl rfl | exact ⟨by omega, by omega⟩) ?_
        refine x_topL (fun z249 e_z249 => ?_)
        have b_z249 : in64 z249 := by rw [e_z249]; exact hG 213 x5.toNat
        refine x_A k83_79 (fun _ => rfl) ?_
        refine x_getR k83_80 (f := 10) rfl (q := 243) (n := 13) (kd := 13) ⟨by decide, rfl⟩ (q2 := 255) (by decide) rfl ?_
        refine x_A k83_83 (fun _ => rfl) ?_
        refine x_getR k83_84 (f := 1) rfl (q := 243) (n := 13) (kd := 13) ⟨by decide, rfl⟩ (q2 := 50) (by decide) rfl ?_
        refine x_getR k83_87 (f := 0) rfl (q := 50) (n := 7) (kd := 6) ⟨by decide, rfl⟩ (q2 := 51) (by decide) rfl ?_
        refine x_A k83_90 (fun _ => rfl) ?_
        refine x_iald k83_91 (q := 51) (n := 120) ⟨by decide, rfl⟩ (by decide) (by first | exact x_rbl b_x1 rfl rfl | exact ⟨by omega, by omega⟩) ?_
        refine x_top (fun z250 e_z250 => ?_)
        have g_z250 : (0 : Int) ≤ s 51 x1.toNat ∧ s 51 x1.toNat ≤ 39 := hG 51 x1.toNat
        refine x_lald k83_92 (q := 255) (n := 40) ⟨by decide, rfl⟩ (by decide) (by first | exact x_rbel e_z250 g_z250 rfl rfl | exact x_rbl g_z250 rfl rfl | exact ⟨by omega, by omega⟩) ?_
        refine x_topL (fun z251 e_z251 => ?_)
        have b_z251 : in64 z251 := by rw [e_z251]; exact hG 255 z250.toNat
        refine x_ldc2 k83_93 (z := (-1)) rfl (by decide +kernel) ?_
        refine x_lxor_m1 k83_96 (fun z252 b_z252 g_z252 => ?_)
        refine x_land_b k83_97 (fun z253 b_z253 g_z253 => ?_)
        have p51_ : s0 51 a.toNat = z250 := by rw [← f.nil, ← show x1 = a by omega]; exact e_z250.symm
        have lk_ := laK.of (k := x5.toNat) (g := a) (by omega) pF pL ⟨by omega, by omega⟩ (by rw [← f.nil]; exact e_z249) (by rw [p51_, ← f.nil]; exact e_z251) g_z252 b_z253 g_z253
        refine x_lconst k83_98 (z := 0) (by decide +kernel) ?_
        refine x_lc_eq k83_99 k83_100 (t := 105) rfl b_z253 ⟨by omega, by omega⟩ (fun c254 => ?_) (fun c254 => ?_)
        · skip
          refine x_iinc k83_105 (ls' := [(5, vi (x5 + 1)), (0, .ref 243), (1, vi x1), (2, .ref 209), (3, vj x3)]) rfl (by decide) rfl ?_
          refine x_goto k83_108 (t := 51) rfl ?_
          refine x_ls (l := [(0, .ref 243), (1, vi x1), (2, .ref 209), (3, vj x3), (5, vi (x5 + 1))]) (show ([0, 1, 2, 3, 5] : List Nat).Nodup from by decide) ⟨rfl, rfl, rfl, rfl, rfl, trivial⟩ ?_
          exact ih s x1 x3 (x5 + 1) hG f (by first | exact x_rb b_x1 rfl rfl | exact ⟨by omega, by omega⟩) b_x3 ⟨by omega, by omega⟩ (by omega) w_1 w_2 (no_st w_3 (by omega) (fun q => absurd (lk_.mpr q.2) (by omega)))  (by omega)
        · skip
          refine x_A k83_103 (fun _ => rfl) ?_
          exact x_zret k83_104 rfl ⟨by omega, by omega⟩ ⟨hG, f, 1, rfl, ⟨by decide, by decide⟩, (Or.inl ⟨rfl, (laK.ex w_2).mpr ⟨x5.toNat, by omega, on_, lk_.mp (by omega)⟩⟩)⟩
      · skip
        have bl := bt_low b_z247 g_z247
        have bu : bt z246 0 = bt x3 x5.toNat := g_z246 0
        have non_ : ¬ onp s0 (s0 243 12) 40 (s0 52 a.toNat) ((x5.toNat : Nat) : Int) := fun w => bl.elim (fun q => by have h9 := (w_1 x5.toNat (by omega)).mpr w; rw [show bt x3 x5.toNat = false from bu.symm.trans q.2] at h9; cases h9) (fun q => absurd (show z247 = 0 by omega) q.1)
        refine x_goto k83_69 (t := 105) rfl ?_
        refine x_iinc k83_105 (ls' := [(5, vi (x5 + 1)), (0, .ref 243), (1, vi x1), (2, .ref 209), (3, vj x3)]) rfl (by decide) rfl ?_
        refine x_goto k83_108 (t := 51) rfl ?_
        refine x_ls (l := [(0, .ref 243), (1, vi x1), (2, .ref 209), (3, vj x3), (5, vi (x5 + 1))]) (show ([0, 1, 2, 3, 5] : List Nat).Nodup from by decide) ⟨rfl, rfl, rfl, rfl, rfl, trivial⟩ ?_
        exact ih s x1 x3 (x5 + 1) hG f (by first | exact x_rb b_x1 rfl rfl | exact ⟨by omega, by omega⟩) b_x3 ⟨by omega, by omega⟩ (by omega) w_1 w_2 (no_st w_3 (by omega) (fun q => non_ q.1))  (by omega)
set_option maxHeartbeats 8000000 in
theorem E_X8_isLacking_243_209 (s0 : xS) (hG0 : GI s0) (a : Int) (b_a : 0 ≤ a ∧ a ≤ 119) (pa : a < s0 50 6 ∧ s0 55 a.toNat ≤ s0 243 12) (pF : Fo s0 s0 209 (s0 243 12)) (pV : VJ s0 s0) (pL : VL s0 s0 (s0 243 12)) : xe none 83 0 (lv_args 0 [.ref 243, vi a, .ref 209]) [] s0 0 0 (fun s' v => GI s' ∧ FL [] s0 s' ∧ ∃ z, v = some (vi z) ∧ (0 ≤ z ∧ z ≤ 1) ∧ ((z = 1 ∧ laC s0 (s0 243 12) a) ∨ (z = 0 ∧ ¬ laC s0 (s0 243 12) a))) := by
  have f0 : FL [] s0 s0 := FL.rf
  show xe none 83 0 [(0, .ref 243), (1, vi a), (2, .ref 209)] [] s0 0 0 _
  refine x_A k83_0 (fun _ => rfl) ?_
  refine x_getR k83_1 (f := 1) rfl (q := 243) (n := 13) (kd := 13) ⟨by decide, rfl⟩ (q2 := 50) (by decide) rfl ?_
  refine x_getR k83_4 (f := 4) rfl (q := 50) (n := 7) (kd := 6) ⟨by decide, rfl⟩ (q2 := 55) (by decide) rfl ?_
  refine x_A k83_7 (fun _ => rfl) ?_
  refine x_iald k83_8 (q := 55) (n := 120) ⟨by decide, rfl⟩ (by decide) (by first | exact x_rbl b_a rfl rfl | exact ⟨by omega, by omega⟩) ?_
  refine x_top (fun z255 e_z255 => ?_)
  have g_z255 : (0 : Int) ≤ s0 55 a.toNat ∧ s0 55 a.toNat ≤ 9 := hG0 55 a.toNat
  refine x_A k83_9 (fun _ => rfl) ?_
  refine x_getI k83_10 (f := 12) rfl (q := 243) (n := 13) (kd := 13) ⟨by decide, rfl⟩ (by decide) rfl ?_
  refine x_top (fun z256 e_z256 => ?_)
  have g_z256 : (-1) ≤ s0 243 12 ∧ s0 243 12 ≤ 9 := hG0 243 12
  refine x_ic_gt k83_13 (t := 25) rfl (by first | exact x_rbe e_z255 g_z255 rfl rfl | exact x_rb g_z255 rfl rfl | exact ⟨by omega, by omega⟩) (by first | exact x_rbe e_z256 g_z256 rfl rfl | exact x_rb g_z256 rfl rfl | exact ⟨by omega, by omega⟩) (fun c257 => ?_) (fun c257 => ?_)
  · skip
    refine x_A k83_25 (fun _ => rfl) ?_
    exact x_zret k83_26 rfl ⟨by omega, by omega⟩ ⟨hG0, f0, 0, rfl, ⟨by decide, by decide⟩, (Or.inr ⟨rfl, fun q => absurd q.1 (by rw [← (pV a (by omega) (by omega)).1]; omega)⟩)⟩
  · skip
    refine x_A k83_16 (fun _ => rfl) ?_
    refine x_getR k83_17 (f := 7) rfl (q := 243) (n := 13) (kd := 13) ⟨by decide, rfl⟩ (q2 := 252) (by decide) rfl ?_
    refine x_A k83_20 (fun _ => rfl) ?_
    refine x_iald k83_21 (q := 252) (n := 120) ⟨by decide, rfl⟩ (by decide) (by first | exact x_rbl b_a rfl rfl | exact ⟨by omega, by omega⟩) ?_
    refine x_top (fun z258 e_z258 => ?_)
    have g_z258 : (0 : Int) ≤ s0 252 a.toNat ∧ s0 252 a.toNat ≤ 4 := hG0 252 a.toNat
    refine x_if_eq k83_22 (t := 27) rfl (by first | exact x_rbe e_z258 g_z258 rfl rfl | exact x_rb g_z258 rfl rfl | exact ⟨by omega, by omega⟩) (fun c259 => ?_) (fun c259 => ?_)
    · skip
      refine x_A k83_27 (fun _ => rfl) ?_
      refine x_getR k83_28 (f := 0) rfl (q := 243) (n := 13) (kd := 13) ⟨by decide, rfl⟩ (q2 := 1) (by decide) rfl ?_
      refine x_A k83_31 (fun _ => rfl) ?_
      refine x_getR k83_32 (f := 1) rfl (q := 243) (n := 13) (kd := 13) ⟨by decide, rfl⟩ (q2 := 50) (by decide) rfl ?_
      refine x_getR k83_35 (f := 1) rfl (q := 50) (n := 7) (kd := 6) ⟨by decide, rfl⟩ (q2 := 52) (by decide) rfl ?_
      refine x_A k83_38 (fun _ => rfl) ?_
      refine x_iald k83_39 (q := 52) (n := 120) ⟨by decide, rfl⟩ (by decide) (by first | exact x_rbl b_a rfl rfl | exact ⟨by omega, by omega⟩) ?_
      refine x_top (fun z260 e_z260 => ?_)
      have g_z260 : (0 : Int) ≤ s0 52 a.toNat ∧ s0 52 a.toNat ≤ 39 := hG0 52 a.toNat
      refine x_A k83_40 (fun _ => rfl) ?_
      refine x_getI k83_41 (f := 12) rfl (q := 243) (n := 13) (kd := 13) ⟨by decide, rfl⟩ (by decide) rfl ?_
      refine x_rw (e_z256.symm) ?_
      refine x_callV k83_44 (y := 65) (n := 2) (w0 := 0) (w1 := 2) (as := [vi z260, vi z256]) (rest := []) (by decide +kernel) (q := 1) (nq := 5) (kq := 4) ⟨by decide, rfl⟩ rfl rfl rfl rfl (xe_mono (E_X7_pathUp_1 s0 hG0 z260 (by first | exact x_rbe e_z260 g_z260 rfl rfl | exact x_rb g_z260 rfl rfl | exact ⟨by omega, by omega⟩) z256 (by first | exact x_rbe e_z256 g_z256 rfl rfl | exact x_rb g_z256 rfl rfl | exact ⟨by omega, by omega⟩)) ?_)
      rintro s262 v ⟨-, t_s262, z261, rfl, b_z261, xp_z261⟩
      rw [t_s262.nil]
      try rw [t_s262.nil] at xp_z261
      show xe none 83 47 [(0, .ref 243), (1, vi a), (2, .ref 209)] [vj z261] s0 0 0 _
      refine x_lstore_n k83_47 (ls' := [(3, vj z261), (0, .ref 243), (1, vi a), (2, .ref 209)]) (by decide) rfl ?_
      refine x_A k83_48 (fun _ => rfl) ?_
      refine x_istore k83_49 (ls' := [(5, vi 0), (3, vj z261), (0, .ref 243), (1, vi a), (2, .ref 209)]) (by decide) rfl ?_
      refine x_ls (l := [(0, .ref 243), (1, vi a), (2, .ref 209), (3, vj z261), (5, vi 0)]) (show ([0, 1, 2, 3, 5] : List Nat).Nodup from by decide) ⟨rfl, rfl, rfl, rfl, rfl, trivial⟩ ?_
      exact L_E_X8_isLacking_243_209_51 s0 hG0 a b_a pa pF pV pL  (((40 - 0) + 1 : Int)).toNat s0 a z261 0 hG0 f0 (by first | exact x_rb b_a rfl rfl | exact ⟨by omega, by omega⟩) b_z261 ⟨by decide, by decide⟩ (by omega) (fun k hk => by rw [xp_z261 k hk, ← e_z260.symm, ← e_z256.symm]) (by rw [← (pV a (by omega) (by omega)).1]; omega) (fun i hi => by omega)  (by omega)
    · skip
      refine x_A k83_25 (fun _ => rfl) ?_
      exact x_zret k83_26 rfl ⟨by omega, by omega⟩ ⟨hG0, f0, 0, rfl, ⟨by decide, by decide⟩, (Or.inr ⟨rfl, fun q => absurd q.1 (by rw [← (pV a (by omega) (by omega)).1]; omega)⟩)⟩
set_option maxHeartbeats 8000000 in
theorem E_X11_shows_256 (s0 : xS) (hG0 : GI s0) (a : Int) (b_a : 0 ≤ a ∧ a ≤ 39) (b : Int) (b_b : 0 ≤ b ∧ b ≤ 2147483647) : xe none 169 0 (lv_args 0 [.ref 256, vi a, vi b]) [] s0 0 0 (fun s' v => GI s' ∧ FL [] s0 s' ∧ ∃ z, v = some (vi z) ∧ (0 ≤ z ∧ z ≤ 1) ∧ ((z = 1 ∧ shR s0 a b) ∨ (z = 0 ∧ ¬ shR s0 a b))) := by
  have f0 : FL [] s0 s0 := FL.rf
  show xe none 169 0 [(0, .ref 256), (1, vi a), (2, vi b)] [] s0 0 0 _
  refine x_A k169_0 (fun _ => rfl) ?_
  refine x_bipush k169_1 (by decide +kernel) ?_
  refine x_ic_ge k169_3 (t := 25) rfl (by first | exact x_rb b_b rfl rfl | exact ⟨by omega, by omega⟩) ⟨by decide, by decide⟩ (fun c1 => ?_) (fun c1 => ?_)
  · skip
    refine x_A k169_25 (fun _ => rfl) ?_
    exact x_zret k169_26 rfl ⟨by omega, by omega⟩ ⟨hG0, f0, 0, rfl, ⟨by decide, by decide⟩, (Or.inr ⟨rfl, fun q => by have q1 := q.1; omega⟩)⟩
  · skip
    refine x_A k169_6 (fun _ => rfl) ?_
    refine x_getR k169_7 (f := 32) rfl (q := 256) (n := 62) (kd := 15) ⟨by decide, rfl⟩ (q2 := 282) (by decide) rfl ?_
    refine x_A k169_10 (fun _ => rfl) ?_
    refine x_lald k169_11 (q := 282) (n := 40) ⟨by decide, rfl⟩ (by decide) (by first | exact x_rbl b_a rfl rfl | exact ⟨by omega, by omega⟩) ?_
    refine x_topL (fun z2 e_z2 => ?_)
    have b_z2 : in64 z2 := by rw [e_z2]; exact hG0 282 a.toNat
    refine x_A k169_12 (fun _ => rfl) ?_
    refine x_lshr_b k169_13 ⟨by omega, by omega⟩ (fun z3 b_z3 u_z3 => ?_)
    refine x_lconst k169_14 (z := 1) (by decide +kernel) ?_
    refine x_land_b k169_15 (fun z4 b_z4 g_z4 => ?_)
    refine x_lconst k169_16 (z := 1) (by decide +kernel) ?_
    refine x_lc_ne k169_17 k169_18 (t := 25) rfl b_z4 ⟨by omega, by omega⟩ (fun c5 => ?_) (fun c5 => ?_)
    · skip
      refine x_A k169_25 (fun _ => rfl) ?_
      exact x_zret k169_26 rfl ⟨by omega, by omega⟩ ⟨hG0, f0, 0, rfl, ⟨by decide, by decide⟩, (by have bl := bt_low1 b_z4 g_z4; have bu : bt z3 0 = bt z2 b.toNat := u_z3 0 (by omega); exact Or.inr ⟨rfl, fun q => by have q2 := q.2; rw [← e_z2, ← bu, (bl.resolve_right (fun q => by omega)).2] at q2; cases q2⟩)⟩
    · skip
      refine x_A k169_21 (fun _ => rfl) ?_
      refine x_goto k169_22 (t := 26) rfl ?_
      exact x_zret k169_26 rfl ⟨by omega, by omega⟩ ⟨hG0, f0, 1, rfl, ⟨by decide, by decide⟩, (by have bl := bt_low1 b_z4 g_z4; have bu : bt z3 0 = bt z2 b.toNat := u_z3 0 (by omega); exact Or.inl ⟨rfl, by omega, by rw [← e_z2]; exact bu.symm.trans (bl.resolve_left (fun q => by omega)).2⟩)⟩
set_option maxHeartbeats 8000000 in
theorem L_E_X11_lacks_256_10 (s0 : xS) (hJ0 : J s0) (hG0 : GI s0) (a : Int) (b_a : 0 ≤ a ∧ a ≤ 119) (b : Int) (b_b : 0 ≤ b ∧ b ≤ 9) (pR : R1 s0) (pT : TR s0) (pG1 : G1 s0) (pG3 : G3 s0) (pa : a < s0 256 10) (pe : s0 55 a.toNat ≤ b) (pz : FdZ s0 s0 b)  : ∀ (n : Nat) (s : xS) (x1 : Int) (x2 : Int) (x3 : Int) (x4 : Int) (x1000 : Int) (hG : GI s) (f : FL [5312, 5376, 4123] s0 s) (b_x1 : 0 ≤ x1 ∧ x1 ≤ 119) (b_x2 : 0 ≤ x2 ∧ x2 ≤ 9) (b_x3 : 0 ≤ x3 ∧ x3 ≤ 1) (b_x4 : 0 ≤ x4 ∧ x4 ≤ 64) (b_x1000 : 0 ≤ x1000 ∧ x1000 ≤ 64) (r_3_4 : x3 ≤ x4 + 0) (r_4_1000 : x4 ≤ x1000 + 0) (r_3_1000 : x3 ≤ x1000 + 0) (w_0 : x1 = a ∧ x2 = b ∧ x1000 = s0 256 20 ∧ x4 ≤ x1000 ∧ x1000 ≤ 64) (w_1 : FrZ s s0 b) (w_2 : exI (fun c => HpR s0 b c 3 ∧ onp s0 b 40 (s0 52 a.toNat) (s0 273 c.toNat) ∧ ¬ shC s0 b (s0 51 a.toNat) (s0 274 c.toNat)) x3 x4) (e_x1000 : x1000 = s 256 20)  (hm : (64 - x4) < (n : Int)), xe none 171 10 [(0, .ref 256), (1, vi x1), (2, vi x2), (3, vi x3), (4, vi x4)] [] s 0 0 (fun s' v => GI s' ∧ FL [5312, 5376, 4123] s0 s' ∧ ∃ z, v = some (vi z) ∧ (0 ≤ z ∧ z ≤ 1) ∧ ((z = 1 ∧ laC s0 b a) ∨ (z = 0 ∧ ¬ laC s0 b a))) := by
  intro n
  induction n with
  | zero => intro s x1 x2 x3 x4 x1000 hG f b_x1 b_x2 b_x3 b_x4 b_x1000 r_3_4 r_4_1000 r_3_1000 w_0 w_1 w_2 e_x1000  hm; exfalso; omega
  | succ n ih =>
    intro s x1 x2 x3 x4 x1000 hG f b_x1 b_x2 b_x3 b_x4 b_x1000 r_3_4 r_4_1000 r_3_1000 w_0 w_1 w_2 e_x1000  hm
    refine x_A k171_10 (fun _ => rfl) ?_
    refine x_A k171_12 (fun _ => rfl) ?_
    refine x_getI k171_13 (f := 20) rfl (q := 256) (n := 62) (kd := 15) ⟨by decide, rfl⟩ (by decide) rfl ?_
    refine x_rw (e_x1000.symm) ?_
    refine x_ic_ge k171_16 (t := 86) rfl (by first | exact x_rb b_x4 rfl rfl | exact ⟨by omega, by omega⟩) (by first | exact x_rb b_x1000 rfl rfl | exact ⟨by omega, by omega⟩) (fun c332 => ?_) (fun c332 => ?_)
    · skip
      refine x_A k171_86 (fun _ => rfl) ?_
      refine x_if_eq k171_87 (t := 103) rfl (by first | exact x_rb b_x3 rfl rfl | exact ⟨by omega, by omega⟩) (fun c333 => ?_) (fun c333 => ?_)
      · skip
        refine x_A k171_103 (fun _ => rfl) ?_
        exact x_zret k171_104 rfl ⟨by omega, by omega⟩ ⟨hG, f, 0, rfl, ⟨by decide, by decide⟩, (Or.inr ⟨rfl, fun q => by first | (have w := w_2.y0 (by omega); rw [show x4 = s0 256 20 by omega] at w; exact w ((pR.la hJ0).mpr q.2)) | (have w := q.1; rw [← (pz.1 a (by omega) pa).1, ← f 277 a.toNat (show 5440 ∉ [5312, 5376, 4123] from by decide), show a = x1 by omega] at w; omega)⟩)⟩
      · skip
        refine x_A k171_90 (fun _ => rfl) ?_
        refine x_getR k171_91 (f := 27) rfl (q := 256) (n := 62) (kd := 15) ⟨by decide, rfl⟩ (q2 := 277) (by decide) rfl ?_
        refine x_A k171_94 (fun _ => rfl) ?_
        refine x_iald k171_95 (q := 277) (n := 120) ⟨by decide, rfl⟩ (by decide) (by first | exact x_rbl b_x1 rfl rfl | exact ⟨by omega, by omega⟩) ?_
        refine x_top (fun z334 e_z334 => ?_)
        have g_z334 : (0 : Int) ≤ s 277 x1.toNat ∧ s 277 x1.toNat ≤ 4 := hG 277 x1.toNat
        refine x_if_ne k171_96 (t := 103) rfl (by first | exact x_rbe e_z334 g_z334 rfl rfl | exact x_rb g_z334 rfl rfl | exact ⟨by omega, by omega⟩) (fun c335 => ?_) (fun c335 => ?_)
        · skip
          refine x_A k171_103 (fun _ => rfl) ?_
          exact x_zret k171_104 rfl ⟨by omega, by omega⟩ ⟨hG, f, 0, rfl, ⟨by decide, by decide⟩, (Or.inr ⟨rfl, fun q => by first | (have w := w_2.y0 (by omega); rw [show x4 = s0 256 20 by omega] at w; exact w ((pR.la hJ0).mpr q.2)) | (have w := q.1; rw [← (pz.1 a (by omega) pa).1, ← f 277 a.toNat (show 5440 ∉ [5312, 5376, 4123] from by decide), show a = x1 by omega] at w; omega)⟩)⟩
        · skip
          refine x_A k171_99 (fun _ => rfl) ?_
          refine x_goto k171_100 (t := 104) rfl ?_
          exact x_zret k171_104 rfl ⟨by omega, by omega⟩ ⟨hG, f, 1, rfl, ⟨by decide, by decide⟩, (Or.inl ⟨rfl, by rw [← (pz.1 a (by omega) pa).1, ← f 277 a.toNat (show 5440 ∉ [5312, 5376, 4123] from by decide), show a = x1 by omega]; omega, (pR.la hJ0).mp (by rw [← show x4 = s0 256 20 by omega]; exact w_2.y1 (by omega))⟩)⟩
    · skip
      refine x_A k171_19 (fun _ => rfl) ?_
      refine x_if_ne k171_20 (t := 74) rfl (by first | exact x_rb b_x3 rfl rfl | exact ⟨by omega, by omega⟩) (fun c336 => ?_) (fun c336 => ?_)
      · skip
        refine x_A k171_74 (fun _ => rfl) ?_
        refine x_goto k171_75 (t := 79) rfl ?_
        refine x_istore_n k171_79 (ls' := [(3, vi 1), (0, .ref 256), (1, vi x1), (2, vi x2), (4, vi x4)]) (by decide) rfl ?_
        refine x_iinc k171_80 (ls' := [(4, vi (x4 + 1)), (3, vi 1), (0, .ref 256), (1, vi x1), (2, vi x2)]) rfl (by decide) rfl ?_
        refine x_goto k171_83 (t := 10) rfl ?_
        refine x_ls (l := [(0, .ref 256), (1, vi x1), (2, vi x2), (3, vi 1), (4, vi (x4 + 1))]) (show ([0, 1, 2, 3, 4] : List Nat).Nodup from by decide) ⟨rfl, rfl, rfl, rfl, rfl, trivial⟩ ?_
        exact ih s x1 x2 1 (x4 + 1) x1000 hG f (by first | exact x_rb b_x1 rfl rfl | exact ⟨by omega, by omega⟩) (by first | exact x_rb b_x2 rfl rfl | exact ⟨by omega, by omega⟩) ⟨by decide, by decide⟩ ⟨by omega, by omega⟩ (by first | exact x_rb b_x1000 rfl rfl | exact ⟨by omega, by omega⟩) (by omega) (by omega) (by omega) (by omega) w_1 (w_2.on (by omega)) (e_x1000.symm).symm  (by omega)
      · skip
        refine x_A k171_23 (fun _ => rfl) ?_
        refine x_A k171_24 (fun _ => rfl) ?_
        refine x_A k171_26 (fun _ => rfl) ?_
        refine x_callV k171_27 (y := 162) (n := 2) (w0 := 0) (w1 := 2) (as := [vi x4, vi 3]) (rest := []) (by decide +kernel) (q := 256) (nq := 62) (kq := 15) ⟨by decide, rfl⟩ rfl rfl rfl rfl (xe_mono (E_X11_holds_256 s hG (hJ0.fl f (by decide)) x4 (by first | exact x_rb b_x4 rfl rfl | exact ⟨by omega, by omega⟩) 3 ⟨by decide, by decide⟩ (by omega) (pR.fl f (by decide))) ?_)
        rintro s338 v ⟨-, t_s338, z337, rfl, g_z337, xp_z337⟩
        rw [t_s338.nil]
        try rw [t_s338.nil] at xp_z337
        show xe none 171 30 [(0, .ref 256), (1, vi x1), (2, vi x2), (3, vi x3), (4, vi x4)] [vi z337] s 0 0 _
        have ho := xp_z337
        rw [HoR.eq w_1 (FL.rre f (by decide))] at ho
        refine x_if_eq k171_30 (t := 78) rfl (by first | exact x_rbe e_z337 g_z337 rfl rfl | exact x_rb g_z337 rfl rfl | exact ⟨by omega, by omega⟩) (fun c339 => ?_) (fun c339 => ?_)
        · skip
          refine x_A k171_78 (fun _ => rfl) ?_
          refine x_istore_n k171_79 (ls' := [(3, vi 0), (0, .ref 256), (1, vi x1), (2, vi x2), (4, vi x4)]) (by decide) rfl ?_
          refine x_iinc k171_80 (ls' := [(4, vi (x4 + 1)), (3, vi 0), (0, .ref 256), (1, vi x1), (2, vi x2)]) rfl (by decide) rfl ?_
          refine x_goto k171_83 (t := 10) rfl ?_
          refine x_ls (l := [(0, .ref 256), (1, vi x1), (2, vi x2), (3, vi 0), (4, vi (x4 + 1))]) (show ([0, 1, 2, 3, 4] : List Nat).Nodup from by decide) ⟨rfl, rfl, rfl, rfl, rfl, trivial⟩ ?_
          exact ih s x1 x2 0 (x4 + 1) x1000 hG f (by first | exact x_rb b_x1 rfl rfl | exact ⟨by omega, by omega⟩) (by first | exact x_rb b_x2 rfl rfl | exact ⟨by omega, by omega⟩) ⟨by decide, by decide⟩ ⟨by omega, by omega⟩ (by first | exact x_rb b_x1000 rfl rfl | exact ⟨by omega, by omega⟩) (by omega) (by omega) (by omega) (by omega) w_1 (w_2.no (by omega) (fun q => (ho.resolve_left (fun q => by omega)).2 q.1)) (e_x1000.symm).symm  (by omega)
        · skip
          have hp : HpR s0 b x4 3 := (ho.resolve_right (fun q => by omega)).2
          obtain ⟨rx, rr, rg1, rg2⟩ := pR.rng hJ0 ⟨by omega, by omega⟩ hp
          rw [rg2 (by omega)] at rg1
          unfold okS at rg1
          obtain ⟨⟨y51, y52, y54, y55⟩, y46, ytd, ynow⟩ := pG3.2 a (by omega) (by omega) (by have q := pG1.1; omega)
          have td_ : tdC s0 b (s0 52 a.toNat) := ⟨ytd.1, by have := ytd.2; omega⟩
          refine x_A k171_33 (fun _ => rfl) ?_
          refine x_A k171_34 (fun _ => rfl) ?_
          refine x_getR k171_35 (f := 12) rfl (q := 256) (n := 62) (kd := 15) ⟨by decide, rfl⟩ (q2 := 265) (by decide) rfl ?_
          refine x_A k171_38 (fun _ => rfl) ?_
          refine x_iald k171_39 (q := 265) (n := 120) ⟨by decide, rfl⟩ (by decide) (by first | exact x_rbl b_x1 rfl rfl | exact ⟨by omega, by omega⟩) ?_
          refine x_top (fun z340 e_z340 => ?_)
          have g_z340 : (0 : Int) ≤ s 265 x1.toNat ∧ s 265 x1.toNat ≤ 39 := hG 265 x1.toNat
          refine x_A k171_40 (fun _ => rfl) ?_
          refine x_getR k171_41 (f := 22) rfl (q := 256) (n := 62) (kd := 15) ⟨by decide, rfl⟩ (q2 := 273) (by decide) rfl ?_
          refine x_A k171_44 (fun _ => rfl) ?_
          refine x_iald k171_46 (q := 273) (n := 72) ⟨by decide, rfl⟩ (by decide) (by first | exact x_rbl b_x4 rfl rfl | exact ⟨by omega, by omega⟩) ?_
          refine x_top (fun z341 e_z341 => ?_)
          have g_z341 : (-2147483648) ≤ s 273 x4.toNat ∧ s 273 x4.toNat ≤ 2147483647 := hG 273 x4.toNat
          refine x_A k171_47 (fun _ => rfl) ?_
          have eA : s0 273 x4.toNat = z341 := by rw [← f 273 _ (show 5184 ∉ [5312, 5376, 4123] from by decide)]; exact e_z341.symm
          rw [eA] at rg1
          have e52_ : s0 52 a.toNat = z340 := by rw [y52, ← f 265 a.toNat (show 4672 ∉ [5312, 5376, 4123] from by decide), show a = x1 by omega]; exact e_z340.symm
          refine x_callV k171_48 (y := 143) (n := 3) (w0 := 0) (w1 := 3) (as := [vi z340, vi z341, vi x2]) (rest := []) (by decide +kernel) (q := 256) (nq := 62) (kq := 15) ⟨by decide, rfl⟩ rfl rfl rfl rfl (xe_mono (E_X11_isBelow_256 s hG (hJ0.fl f (by decide)) z340 (by first | exact x_rbe e_z340 g_z340 rfl rfl | exact x_rb g_z340 rfl rfl | exact ⟨by omega, by omega⟩) z341 (by first | exact x_rbe e_z341 g_z341 rfl rfl | exact x_rb g_z341 rfl rfl | exact ⟨by omega, by omega⟩) x2 (by first | exact x_rb b_x2 rfl rfl | exact ⟨by omega, by omega⟩)) ?_)
          rintro s343 v ⟨-, t_s343, z342, rfl, g_z342, xp_z342⟩
          rw [t_s343.nil]
          try rw [t_s343.nil] at xp_z342
          show xe none 171 51 [(0, .ref 256), (1, vi x1), (2, vi x2), (3, vi x3), (4, vi x4)] [vi z342] s 0 0 _
          have be := xp_z342
          have f57_ : s 257 = s0 257 := funext fun i => f 257 i (show 4160 ∉ [5312, 5376, 4123] from by decide)
          have f60_ : s 260 = s0 260 := funext fun i => f 260 i (show 4352 ∉ [5312, 5376, 4123] from by decide)
          have f1_ : s 256 1 = s0 256 1 := f 256 1 (show 4098 ∉ [5312, 5376, 4123] from by decide)
          rw [f57_, f1_] at be
          simp only [xup_eq f60_] at be
          rw [← e52_, ← eA, show x2 = b by omega, TR.bel pT hJ0 hG0 ⟨by omega, by omega⟩ td_ (by omega)] at be
          refine x_if_eq k171_51 (t := 78) rfl (by first | exact x_rbe e_z342 g_z342 rfl rfl | exact x_rb g_z342 rfl rfl | exact ⟨by omega, by omega⟩) (fun c344 => ?_) (fun c344 => ?_)
          · skip
            refine x_A k171_78 (fun _ => rfl) ?_
            refine x_istore_n k171_79 (ls' := [(3, vi 0), (0, .ref 256), (1, vi x1), (2, vi x2), (4, vi x4)]) (by decide) rfl ?_
            refine x_iinc k171_80 (ls' := [(4, vi (x4 + 1)), (3, vi 0), (0, .ref 256), (1, vi x1), (2, vi x2)]) rfl (by decide) rfl ?_
            refine x_goto k171_83 (t := 10) rfl ?_
            refine x_ls (l := [(0, .ref 256), (1, vi x1), (2, vi x2), (3, vi 0), (4, vi (x4 + 1))]) (show ([0, 1, 2, 3, 4] : List Nat).Nodup from by decide) ⟨rfl, rfl, rfl, rfl, rfl, trivial⟩ ?_
            exact ih s x1 x2 0 (x4 + 1) x1000 hG f (by first | exact x_rb b_x1 rfl rfl | exact ⟨by omega, by omega⟩) (by first | exact x_rb b_x2 rfl rfl | exact ⟨by omega, by omega⟩) ⟨by decide, by decide⟩ ⟨by omega, by omega⟩ (by first | exact x_rb b_x1000 rfl rfl | exact ⟨by omega, by omega⟩) (by omega) (by omega) (by omega) (by omega) w_1 (w_2.no (by omega) (fun q => (be.resolve_left (fun q => by omega)).2 q.2.1)) (e_x1000.symm).symm  (by omega)
          · skip
            refine x_A k171_54 (fun _ => rfl) ?_
            refine x_A k171_55 (fun _ => rfl) ?_
            refine x_getR k171_56 (f := 11) rfl (q := 256) (n := 62) (kd := 15) ⟨by decide, rfl⟩ (q2 := 264) (by decide) rfl ?_
            refine x_A k171_59 (fun _ => rfl) ?_
            refine x_iald k171_60 (q := 264) (n := 120) ⟨by decide, rfl⟩ (by decide) (by first | exact x_rbl b_x1 rfl rfl | exact ⟨by omega, by omega⟩) ?_
            refine x_top (fun z345 e_z345 => ?_)
            have g_z345 : (0 : Int) ≤ s 264 x1.toNat ∧ s 264 x1.toNat ≤ 39 := hG 264 x1.toNat
            refine x_A k171_61 (fun _ => rfl) ?_
            refine x_getR k171_62 (f := 23) rfl (q := 256) (n := 62) (kd := 15) ⟨by decide, rfl⟩ (q2 := 274) (by decide) rfl ?_
            refine x_A k171_65 (fun _ => rfl) ?_
            refine x_iald k171_67 (q := 274) (n := 72) ⟨by decide, rfl⟩ (by decide) (by first | exact x_rbl b_x4 rfl rfl | exact ⟨by omega, by omega⟩) ?_
            refine x_top (fun z346 e_z346 => ?_)
            have g_z346 : (-2147483648) ≤ s 274 x4.toNat ∧ s 274 x4.toNat ≤ 2147483647 := hG 274 x4.toNat
            have eB : s0 274 x4.toNat = z346 := by rw [← f 274 _ (show 5248 ∉ [5312, 5376, 4123] from by decide)]; exact e_z346.symm
            rw [eB] at rg1
            have e51_ : s0 51 a.toNat = z345 := by rw [y51, ← f 264 a.toNat (show 4608 ∉ [5312, 5376, 4123] from by decide), show a = x1 by omega]; exact e_z345.symm
            refine x_callV k171_68 (y := 169) (n := 2) (w0 := 0) (w1 := 2) (as := [vi z345, vi z346]) (rest := []) (by decide +kernel) (q := 256) (nq := 62) (kq := 15) ⟨by decide, rfl⟩ rfl rfl rfl rfl (xe_mono (E_X11_shows_256 s hG z345 (by first | exact x_rbe e_z345 g_z345 rfl rfl | exact x_rb g_z345 rfl rfl | exact ⟨by omega, by omega⟩) z346 (by first | exact x_rbe e_z346 g_z346 rfl rfl | exact x_rb g_z346 rfl rfl | exact ⟨by omega, by omega⟩)) ?_)
            rintro s348 v ⟨-, t_s348, z347, rfl, g_z347, xp_z347⟩
            rw [t_s348.nil]
            try rw [t_s348.nil] at xp_z347
            show xe none 171 71 [(0, .ref 256), (1, vi x1), (2, vi x2), (3, vi x3), (4, vi x4)] [vi z347] s 0 0 _
            have sw := xp_z347
            have g46 := pG3.1
            rw [(pz.fl f (by decide)).sh ⟨by omega, by omega⟩ ⟨by omega, by omega⟩, ← e51_, ← eB] at sw
            refine x_if_ne k171_71 (t := 78) rfl (by first | exact x_rbe e_z347 g_z347 rfl rfl | exact x_rb g_z347 rfl rfl | exact ⟨by omega, by omega⟩) (fun c349 => ?_) (fun c349 => ?_)
            · skip
              refine x_A k171_78 (fun _ => rfl) ?_
              refine x_istore_n k171_79 (ls' := [(3, vi 0), (0, .ref 256), (1, vi x1), (2, vi x2), (4, vi x4)]) (by decide) rfl ?_
              refine x_iinc k171_80 (ls' := [(4, vi (x4 + 1)), (3, vi 0), (0, .ref 256), (1, vi x1), (2, vi x2)]) rfl (by decide) rfl ?_
              refine x_goto k171_83 (t := 10) rfl ?_
              refine x_ls (l := [(0, .ref 256), (1, vi x1), (2, vi x2), (3, vi 0), (4, vi (x4 + 1))]) (show ([0, 1, 2, 3, 4] : List Nat).Nodup from by decide) ⟨rfl, rfl, rfl, rfl, rfl, trivial⟩ ?_
              exact ih s x1 x2 0 (x4 + 1) x1000 hG f (by first | exact x_rb b_x1 rfl rfl | exact ⟨by omega, by omega⟩) (by first | exact x_rb b_x2 rfl rfl | exact ⟨by omega, by omega⟩) ⟨by decide, by decide⟩ ⟨by omega, by omega⟩ (by first | exact x_rb b_x1000 rfl rfl | exact ⟨by omega, by omega⟩) (by omega) (by omega) (by omega) (by omega) w_1 (w_2.no (by omega) (fun q => q.2.2 (sw.resolve_right (fun q => by omega)).2)) (e_x1000.symm).symm  (by omega)
            · skip
              refine x_A k171_74 (fun _ => rfl) ?_
              refine x_goto k171_75 (t := 79) rfl ?_
              refine x_istore_n k171_79 (ls' := [(3, vi 1), (0, .ref 256), (1, vi x1), (2, vi x2), (4, vi x4)]) (by decide) rfl ?_
              refine x_iinc k171_80 (ls' := [(4, vi (x4 + 1)), (3, vi 1), (0, .ref 256), (1, vi x1), (2, vi x2)]) rfl (by decide) rfl ?_
              refine x_goto k171_83 (t := 10) rfl ?_
              refine x_ls (l := [(0, .ref 256), (1, vi x1), (2, vi x2), (3, vi 1), (4, vi (x4 + 1))]) (show ([0, 1, 2, 3, 4] : List Nat).Nodup from by decide) ⟨rfl, rfl, rfl, rfl, rfl, trivial⟩ ?_
              exact ih s x1 x2 1 (x4 + 1) x1000 hG f (by first | exact x_rb b_x1 rfl rfl | exact ⟨by omega, by omega⟩) (by first | exact x_rb b_x2 rfl rfl | exact ⟨by omega, by omega⟩) ⟨by decide, by decide⟩ ⟨by omega, by omega⟩ (by first | exact x_rb b_x1000 rfl rfl | exact ⟨by omega, by omega⟩) (by omega) (by omega) (by omega) (by omega) w_1 (exI_yes (by omega) ⟨hp, (be.resolve_right (fun q => by omega)).2, (sw.resolve_left (fun q => by omega)).2⟩) (e_x1000.symm).symm  (by omega)
set_option maxHeartbeats 8000000 in
theorem E_X11_lacks_256 (s0 : xS) (hG0 : GI s0) (hJ0 : J s0) (a : Int) (b_a : 0 ≤ a ∧ a ≤ 119) (b : Int) (b_b : 0 ≤ b ∧ b ≤ 9) (pR : R1 s0) (pT : TR s0) (pG1 : G1 s0) (pG3 : G3 s0) (pa : a < s0 256 10) (pe : s0 55 a.toNat ≤ b) (pz : FdZ s0 s0 b) : xe none 171 0 (lv_args 0 [.ref 256, vi a, vi b]) [] s0 0 0 (fun s' v => GI s' ∧ FL [5312, 5376, 4123] s0 s' ∧ ∃ z, v = some (vi z) ∧ (0 ≤ z ∧ z ≤ 1) ∧ ((z = 1 ∧ laC s0 b a) ∨ (z = 0 ∧ ¬ laC s0 b a))) := by
  have f0 : FL [5312, 5376, 4123] s0 s0 := FL.rf
  show xe none 171 0 [(0, .ref 256), (1, vi a), (2, vi b)] [] s0 0 0 _
  refine x_A k171_0 (fun _ => rfl) ?_
  refine x_istore_n k171_1 (ls' := [(3, vi 0), (0, .ref 256), (1, vi a), (2, vi b)]) (by decide) rfl ?_
  refine x_A k171_2 (fun _ => rfl) ?_
  refine x_A k171_3 (fun _ => rfl) ?_
  refine x_callV k171_4 (y := 160) (n := 1) (w0 := 0) (w1 := 1) (as := [vi b]) (rest := []) (by decide +kernel) (q := 256) (nq := 62) (kq := 15) ⟨by decide, rfl⟩ rfl rfl rfl rfl (xe_mono (E_X11_findRules_256 s0 hG0 (hJ0.fl f0 (by decide)) b (by first | exact x_rb b_b rfl rfl | exact ⟨by omega, by omega⟩) (pR.fl f0 (by decide))) ?_)
  rintro s351 v ⟨hG_s351, t_s351, rfl, xp_z350⟩
  have f_s351 : FL [5312, 5376, 4123] s0 s351 := f0.tr t_s351 (by decide)
  show xe none 171 7 [(3, vi 0), (0, .ref 256), (1, vi a), (2, vi b)] [] s351 0 0 _
  have e20_ : s351 256 20 = s0 256 20 := f_s351 256 20 (show 4117 ∉ [5312, 5376, 4123] from by decide)
  refine x_A k171_7 (fun _ => rfl) ?_
  refine x_istore k171_8 (ls' := [(4, vi 0), (3, vi 0), (0, .ref 256), (1, vi a), (2, vi b)]) (by decide) rfl ?_
  obtain ⟨z352, e_z352⟩ : ∃ z, z = s351 256 20 := ⟨_, rfl⟩
  have g_z352 : (0 : Int) ≤ s351 256 20 ∧ s351 256 20 ≤ 64 := hG_s351 256 20
  refine x_ls (l := [(0, .ref 256), (1, vi a), (2, vi b), (3, vi 0), (4, vi 0)]) (show ([0, 1, 2, 3, 4] : List Nat).Nodup from by decide) ⟨rfl, rfl, rfl, rfl, rfl, trivial⟩ ?_
  exact L_E_X11_lacks_256_10 s0 hJ0 hG0 a b_a b b_b pR pT pG1 pG3 pa pe pz  (((64 - 0) + 1 : Int)).toNat s351 a b 0 0 z352 hG_s351 f_s351 (by first | exact x_rb b_a rfl rfl | exact ⟨by omega, by omega⟩) (by first | exact x_rb b_b rfl rfl | exact ⟨by omega, by omega⟩) ⟨by decide, by decide⟩ ⟨by decide, by decide⟩ (by first | exact x_rbe e_z352 g_z352 rfl rfl | exact x_rb g_z352 rfl rfl | exact ⟨by omega, by omega⟩) (by omega) (by omega) (by omega) (by omega) (xp_z350) exI_0 (e_z352.symm).symm  (by omega)
