set_option maxHeartbeats 8000000 in
theorem L_W_X11_met_256_43 (s0 : xS) (hJ0 : J s0) (hG0 : GI s0) (a : Int) (b_a : (-2147483648) ≤ a ∧ a ≤ 2147483647) (b : Int) (b_b : (-2147483648) ≤ b ∧ b ≤ 2147483647) (d : Int) (b_d : (-2147483648) ≤ d ∧ d ≤ 2147483647) (pR : R1 s0) (pT : TR s0) (pG1 : G1 s0) (pG3 : G3 s0) (pY : Y1 s0) (pX : X1 s0) (pW : W1 s0) (pq : Q1 s0)  : ∀ (n : Nat) (s : xS) (x1 : Int) (x2 : Int) (x3 : Int) (x4 : Int) (x5 : Int) (x1000 : Int) (hG : GI s) (f : FL [5312, 5376, 4123, 5440, 5504, 5568, 5632, 5696, 5760, 6272] s0 s) (b_x1 : 0 ≤ x1 ∧ x1 ≤ 7) (b_x2 : 0 ≤ x2 ∧ x2 ≤ 9) (b_x3 : (-2147483648) ≤ x3 ∧ x3 ≤ 2147483647) (b_x4 : 0 ≤ x4 ∧ x4 ≤ 60) (b_x5 : 0 ≤ x5 ∧ x5 ≤ 40) (b_x1000 : 0 ≤ x1000 ∧ x1000 ≤ 40) (r_4_5 : x4 ≤ x5 + 0) (r_5_1000 : x5 ≤ x1000 + 0) (w_0 : x1 = a ∧ x2 = b ∧ x3 = d ∧ x1000 = s0 256 6 ∧ x5 ≤ x1000) (w_1 : 0 ≤ a ∧ a < s0 256 43 ∧ 0 ≤ b ∧ b ≤ s0 256 0) (w_2 : x4 = ctp (fun k : Nat => MetP s0 b a (k : Int)) x5.toNat) (w_3 : ∀ i : Nat, (i : Int) < x5 → ¬ ((fun k : Nat => MetP s0 b a (k : Int)) i ∧ ctp (fun k : Nat => MetP s0 b a (k : Int)) i = d)) (w_4 : FdZ s s0 b) (e_x1000 : x1000 = s 256 6)  (hm : (40 - x5) < (n : Int)), xe none 204 43 [(0, .ref 256), (1, vi x1), (2, vi x2), (3, vi x3), (4, vi x4), (5, vi x5)] [] s 0 0 (fun s' v => GI s' ∧ FL [5312, 5376, 4123, 5440, 5504, 5568, 5632, 5696, 5760, 6272] s0 s' ∧ ∃ z, v = some (vi z) ∧ ((-1004) ≤ z ∧ z ≤ 120) ∧ (MtS s0 a b d z)) := by
  intro n
  induction n with
  | zero => intro s x1 x2 x3 x4 x5 x1000 hG f b_x1 b_x2 b_x3 b_x4 b_x5 b_x1000 r_4_5 r_5_1000 w_0 w_1 w_2 w_3 w_4 e_x1000  hm; exfalso; omega
  | succ n ih =>
    intro s x1 x2 x3 x4 x5 x1000 hG f b_x1 b_x2 b_x3 b_x4 b_x5 b_x1000 r_4_5 r_5_1000 w_0 w_1 w_2 w_3 w_4 e_x1000  hm
    refine x_A k204_43 (fun _ => rfl) ?_
    refine x_A k204_45 (fun _ => rfl) ?_
    refine x_getI k204_46 (f := 6) rfl (q := 256) (n := 62) (kd := 15) ⟨by decide, rfl⟩ (by decide) rfl ?_
    refine x_rw (e_x1000.symm) ?_
    refine x_ic_ge k204_49 (t := 81) rfl ⟨by omega, by omega⟩ ⟨by omega, by omega⟩ (fun c344 => ?_) (fun c344 => ?_)
    · skip
      refine x_A k204_81 (fun _ => rfl) ?_
      refine x_A k204_82 (fun _ => rfl) ?_
      refine x_ic_ne k204_83 (t := 91) rfl ⟨by omega, by omega⟩ ⟨by omega, by omega⟩ (fun c345 => ?_) (fun c345 => ?_)
      · skip
        refine x_A k204_91 (fun _ => rfl) ?_
        exact x_iret k204_92 rfl ⟨hG, f, (-1), rfl, ⟨by omega, by omega⟩, (by have q0 := pT.1.1; have q2 := pX.2.2.2.1; have q3 := pG3.1; unfold MtS; exact Or.inr (Or.inr ⟨by omega, by omega, Or.inr ⟨by omega, Or.inl ⟨rfl, fun i hi hp hq => w_3 i (by omega) ⟨hp, hq⟩⟩⟩⟩))⟩
      · skip
        refine x_A k204_86 (fun _ => rfl) ?_
        refine x_goto k204_88 (t := 92) rfl ?_
        exact x_iret k204_92 rfl ⟨hG, f, x4, rfl, ⟨by omega, by omega⟩, (by have q0 := pT.1.1; have q2 := pX.2.2.2.1; have q3 := pG3.1; unfold MtS; exact Or.inr (Or.inr ⟨by omega, by omega, Or.inl ⟨by omega, by rw [show (s0 46 3).toNat = x5.toNat by omega]; exact w_2⟩⟩))⟩
    · skip
      refine x_A k204_52 (fun _ => rfl) ?_
      refine x_A k204_53 (fun _ => rfl) ?_
      refine x_A k204_54 (fun _ => rfl) ?_
      refine x_A k204_56 (fun _ => rfl) ?_
      have ve_ : VE s s0 := FL.ve f hG0 (by decide)
      have g506_ := pG1.1
      have k10_ := f 256 10 (show 4107 ∉ [5312, 5376, 4123, 5440, 5504, 5568, 5632, 5696, 5760, 6272] from by decide)
      have k6_ := f 256 6 (show 4103 ∉ [5312, 5376, 4123, 5440, 5504, 5568, 5632, 5696, 5760, 6272] from by decide)
      have k43_ := f 256 43 (show 4140 ∉ [5312, 5376, 4123, 5440, 5504, 5568, 5632, 5696, 5760, 6272] from by decide)
      have k506_ := f 50 6 (show 711 ∉ [5312, 5376, 4123, 5440, 5504, 5568, 5632, 5696, 5760, 6272] from by decide)
      refine x_callV k204_57 (y := 203) (n := 3) (w0 := 0) (w1 := 3) (as := [vi x1, vi x5, vi x2]) (rest := []) (by decide +kernel) (q := 256) (nq := 62) (kq := 15) ⟨by decide, rfl⟩ rfl rfl rfl rfl (xe_mono (W_X11_isMet_256 s hG (hJ0.fl f (by decide)) x1 ⟨by omega, by omega⟩ x5 ⟨by omega, by omega⟩ x2 ⟨by omega, by omega⟩ (by omega) (pG1.fl f (by decide)) (pG3.fl f (by decide)) (pY.fl f (by decide)) (pX.fl f (by decide)) (pW.fl f (by decide)) (pq.fl f (by decide)) (by rw [show x2 = b by omega]; exact FdZ.ve w_4 ve_.sy k10_.symm k6_.symm (by omega))) ?_)
      rintro s347 v ⟨hG_s347, t_s347, z346, rfl, g_z346, xp_z346⟩
      have f_s347 : FL [5312, 5376, 4123, 5440, 5504, 5568, 5632, 5696, 5760, 6272] s0 s347 := f.tr t_s347 (by decide)
      have q348 : s347 256 6 = x1000 := (t_s347 256 6 (show 4103 ∉ [6272] from by decide)).trans e_x1000.symm
      have FDb_s347 : FdZ s347 s0 b := FdZ.fl w_4 t_s347 (by decide)
      show xe none 204 60 [(0, .ref 256), (1, vi x1), (2, vi x2), (3, vi x3), (4, vi x4), (5, vi x5)] [vi z346] s347 0 0 _
      have al := xp_z346
      rw [show x2 = b by omega, show x1 = a by omega, show MetP s b a x5 = MetP s0 b a x5 from (by unfold MetP; rw [mP_fl f hG0 (by decide), show s 219 = s0 219 from funext fun i => f 219 i (show 2560 ∉ [5312, 5376, 4123, 5440, 5504, 5568, 5632, 5696, 5760, 6272] from by decide), show s (220 + 1 + a.toNat) = s0 (220 + 1 + a.toNat) from funext fun i => rowsA f (by decide) a.toNat i (by omega)])] at al
      refine x_if_eq k204_60 (t := 75) rfl ⟨by omega, by omega⟩ (fun c349 => ?_) (fun c349 => ?_)
      · skip
        refine x_iinc k204_75 (ls' := [(5, vi (x5 + 1)), (0, .ref 256), (1, vi x1), (2, vi x2), (3, vi x3), (4, vi x4)]) rfl (by decide) rfl ?_
        refine x_goto k204_78 (t := 43) rfl ?_
        refine x_ls (l := [(0, .ref 256), (1, vi x1), (2, vi x2), (3, vi x3), (4, vi x4), (5, vi (x5 + 1))]) (show ([0, 1, 2, 3, 4, 5] : List Nat).Nodup from by decide) ⟨rfl, rfl, rfl, rfl, rfl, rfl, trivial⟩ ?_
        exact ih s347 x1 x2 x3 x4 (x5 + 1) x1000 hG_s347 f_s347 ⟨by omega, by omega⟩ ⟨by omega, by omega⟩ ⟨by omega, by omega⟩ ⟨by omega, by omega⟩ ⟨by omega, by omega⟩ ⟨by omega, by omega⟩ (by omega) (by omega) (by omega) (by omega) (by have cs := ctp_s (fun k : Nat => MetP s0 b a (k : Int)) (k := x5) (by omega); rw [show ((x5.toNat : Nat) : Int) = x5 by omega] at cs; have q := cs.2 ((al.resolve_left (fun q => by omega)).2); omega) (no_st w_3 (by omega) (fun q => absurd (show MetP s0 b a x5 from by rw [← show ((x5.toNat : Nat) : Int) = x5 by omega]; exact q.1) (al.resolve_left (fun q => by omega)).2)) FDb_s347 (q348).symm  (by omega)
      · skip
        refine x_A k204_63 (fun _ => rfl) ?_
        refine x_A k204_65 (fun _ => rfl) ?_
        refine x_ic_ne k204_66 (t := 72) rfl ⟨by omega, by omega⟩ ⟨by omega, by omega⟩ (fun c350 => ?_) (fun c350 => ?_)
        · skip
          refine x_iinc k204_72 (ls' := [(4, vi (x4 + 1)), (0, .ref 256), (1, vi x1), (2, vi x2), (3, vi x3), (5, vi x5)]) rfl (by decide) rfl ?_
          refine x_iinc k204_75 (ls' := [(5, vi (x5 + 1)), (4, vi (x4 + 1)), (0, .ref 256), (1, vi x1), (2, vi x2), (3, vi x3)]) rfl (by decide) rfl ?_
          refine x_goto k204_78 (t := 43) rfl ?_
          refine x_ls (l := [(0, .ref 256), (1, vi x1), (2, vi x2), (3, vi x3), (4, vi (x4 + 1)), (5, vi (x5 + 1))]) (show ([0, 1, 2, 3, 4, 5] : List Nat).Nodup from by decide) ⟨rfl, rfl, rfl, rfl, rfl, rfl, trivial⟩ ?_
          exact ih s347 x1 x2 x3 (x4 + 1) (x5 + 1) x1000 hG_s347 f_s347 ⟨by omega, by omega⟩ ⟨by omega, by omega⟩ ⟨by omega, by omega⟩ ⟨by omega, by omega⟩ ⟨by omega, by omega⟩ ⟨by omega, by omega⟩ (by omega) (by omega) (by omega) (by omega) (by have cs := ctp_s (fun k : Nat => MetP s0 b a (k : Int)) (k := x5) (by omega); rw [show ((x5.toNat : Nat) : Int) = x5 by omega] at cs; have q := cs.1 ((al.resolve_right (fun q => by omega)).2); omega) (no_st w_3 (by omega) (fun q => by have q2 := q.2; omega)) FDb_s347 (q348).symm  (by omega)
        · skip
          refine x_A k204_69 (fun _ => rfl) ?_
          exact x_iret k204_71 rfl ⟨hG_s347, f_s347, x5, rfl, ⟨by omega, by omega⟩, (by have q0 := pT.1.1; have q2 := pX.2.2.2.1; have q3 := pG3.1; unfold MtS; exact Or.inr (Or.inr ⟨by omega, by omega, Or.inr ⟨by omega, Or.inr ⟨x5.toNat, by omega, by omega, by show MetP s0 b a ((x5.toNat : Nat) : Int); rw [show ((x5.toNat : Nat) : Int) = x5 by omega]; exact (al.resolve_right (fun q => by omega)).2, by omega⟩⟩⟩))⟩
set_option maxHeartbeats 8000000 in
theorem W_X11_met_256 (s0 : xS) (hG0 : GI s0) (hJ0 : J s0) (a : Int) (b_a : (-2147483648) ≤ a ∧ a ≤ 2147483647) (b : Int) (b_b : (-2147483648) ≤ b ∧ b ≤ 2147483647) (d : Int) (b_d : (-2147483648) ≤ d ∧ d ≤ 2147483647) (p_256_43 : 0 ≤ s0 256 43 ∧ s0 256 43 ≤ 8) (p_256_6 : 0 ≤ s0 256 6 ∧ s0 256 6 ≤ 40) (p_256_0 : 0 ≤ s0 256 0 ∧ s0 256 0 ≤ 9) (pR : R1 s0) (pT : TR s0) (pG1 : G1 s0) (pG3 : G3 s0) (pY : Y1 s0) (pX : X1 s0) (pW : W1 s0) (pq : Q1 s0) : xe none 204 0 (lv_args 0 [.ref 256, vi a, vi b, vi d]) [] s0 0 0 (fun s' v => GI s' ∧ FL [5312, 5376, 4123, 5440, 5504, 5568, 5632, 5696, 5760, 6272] s0 s' ∧ ∃ z, v = some (vi z) ∧ ((-1004) ≤ z ∧ z ≤ 120) ∧ (MtS s0 a b d z)) := by
  have f0 : FL [5312, 5376, 4123, 5440, 5504, 5568, 5632, 5696, 5760, 6272] s0 s0 := FL.rf
  show xe none 204 0 [(0, .ref 256), (1, vi a), (2, vi b), (3, vi d)] [] s0 0 0 _
  obtain ⟨z351, e_z351⟩ : ∃ z, z = s0 256 43 := ⟨_, rfl⟩
  have g_z351 : (0 : Int) ≤ s0 256 43 ∧ s0 256 43 ≤ 8 := hG0 256 43
  obtain ⟨z352, e_z352⟩ : ∃ z, z = s0 256 6 := ⟨_, rfl⟩
  have g_z352 : (0 : Int) ≤ s0 256 6 ∧ s0 256 6 ≤ 40 := hG0 256 6
  obtain ⟨z353, e_z353⟩ : ∃ z, z = s0 256 0 := ⟨_, rfl⟩
  have g_z353 : (0 : Int) ≤ s0 256 0 ∧ s0 256 0 ≤ 9 := hG0 256 0
  refine x_A k204_0 (fun _ => rfl) ?_
  refine x_i2l k204_1 ⟨by omega, by omega⟩ ?_
  refine x_lconst k204_2 (z := 0) (by decide +kernel) ?_
  refine x_A k204_3 (fun _ => rfl) ?_
  refine x_getI k204_4 (f := 43) rfl (q := 256) (n := 62) (kd := 15) ⟨by decide, rfl⟩ (by decide) rfl ?_
  refine x_rw (e_z351.symm) ?_
  refine x_A k204_7 (fun _ => rfl) ?_
  refine x_isub k204_8 ?_
  refine x_top (fun z354 e_z354 => ?_)
  refine x_i2l k204_9 ⟨by omega, by omega⟩ ?_
  refine x_callS k204_10 (y := 136) (n := 3) (w0 := 0) (w1 := 6) (as := [vj a, vj 0, vj z354]) (rest := []) (by decide +kernel) rfl rfl rfl rfl (xe_mono (C_X11_in s0 hG0 a ⟨by omega, by omega⟩ 0 ⟨by omega, by omega⟩ z354 ⟨by omega, by omega⟩) ?_)
  rintro s356 v ⟨h_s356, z355, rfl, hz_z355⟩
  rw [h_s356]
  rcases hz_z355 with ⟨c_z355, e_z355⟩ | ⟨c_z355, e_z355⟩
  · rw [e_z355]
    show xe none 204 13 [(0, .ref 256), (1, vi a), (2, vi b), (3, vi d)] [vi 1] s0 0 0 _
    refine x_if_ne k204_13 (t := 20) rfl ⟨by omega, by omega⟩ (fun c357 => ?_) (fun c357 => by exfalso; omega)
    refine x_A k204_20 (fun _ => rfl) ?_
    refine x_A k204_21 (fun _ => rfl) ?_
    refine x_callV k204_22 (y := 138) (n := 1) (w0 := 0) (w1 := 1) (as := [vi b]) (rest := []) (by decide +kernel) (q := 256) (nq := 62) (kq := 15) ⟨by decide, rfl⟩ rfl rfl rfl rfl (xe_mono (C_X11_isEdition_256 s0 hG0 b ⟨by omega, by omega⟩) ?_)
    rintro s359 v ⟨h_s359, z358, rfl, hz_z358⟩
    rw [h_s359]
    rcases hz_z358 with ⟨c_z358, e_z358⟩ | ⟨c_z358, e_z358⟩
    · rw [e_z358]
      show xe none 204 25 [(0, .ref 256), (1, vi a), (2, vi b), (3, vi d)] [vi 1] s0 0 0 _
      refine x_if_ne k204_25 (t := 32) rfl ⟨by omega, by omega⟩ (fun c360 => ?_) (fun c360 => by exfalso; omega)
      refine x_A k204_32 (fun _ => rfl) ?_
      refine x_A k204_33 (fun _ => rfl) ?_
      refine x_callV k204_34 (y := 168) (n := 1) (w0 := 0) (w1 := 1) (as := [vi b]) (rest := []) (by decide +kernel) (q := 256) (nq := 62) (kq := 15) ⟨by decide, rfl⟩ rfl rfl rfl rfl (xe_mono (E_X11_find_256 s0 hG0 (hJ0.fl f0 (by decide)) b ⟨by omega, by omega⟩ (pR.fl f0 (by decide)) (pT.fl (hG0 256 1).2 f0 (by decide)) (pG1.fl f0 (by decide)) (pG3.fl f0 (by decide))) ?_)
      rintro s362 v ⟨hG_s362, t_s362, rfl, xp_z361⟩
      have f_s362 : FL [5312, 5376, 4123, 5440, 5504, 5568, 5632, 5696, 5760, 6272] s0 s362 := f0.tr t_s362 (by decide)
      have q363 : s362 256 43 = z351 := (t_s362 256 43 (show 4140 ∉ [5312, 5376, 4123, 5440, 5504, 5568, 5632, 5696, 5760] from by decide)).trans e_z351.symm
      have q364 : s362 256 6 = z352 := (t_s362 256 6 (show 4103 ∉ [5312, 5376, 4123, 5440, 5504, 5568, 5632, 5696, 5760] from by decide)).trans e_z352.symm
      have q365 : s362 256 0 = z353 := (t_s362 256 0 (show 4097 ∉ [5312, 5376, 4123, 5440, 5504, 5568, 5632, 5696, 5760] from by decide)).trans e_z353.symm
      show xe none 204 37 [(0, .ref 256), (1, vi a), (2, vi b), (3, vi d)] [] s362 0 0 _
      have e6_ : s362 256 6 = s0 256 6 := f_s362 256 6 (show 4103 ∉ [5312, 5376, 4123, 5440, 5504, 5568, 5632, 5696, 5760, 6272] from by decide)
      have e10_ : s362 256 10 = s0 256 10 := f_s362 256 10 (show 4107 ∉ [5312, 5376, 4123, 5440, 5504, 5568, 5632, 5696, 5760, 6272] from by decide)
      have e43_ : s362 256 43 = s0 256 43 := f_s362 256 43 (show 4140 ∉ [5312, 5376, 4123, 5440, 5504, 5568, 5632, 5696, 5760, 6272] from by decide)
      refine x_A k204_37 (fun _ => rfl) ?_
      refine x_istore k204_38 (ls' := [(4, vi 0), (0, .ref 256), (1, vi a), (2, vi b), (3, vi d)]) (by decide) rfl ?_
      refine x_A k204_40 (fun _ => rfl) ?_
      refine x_istore k204_41 (ls' := [(5, vi 0), (4, vi 0), (0, .ref 256), (1, vi a), (2, vi b), (3, vi d)]) (by decide) rfl ?_
      refine x_ls (l := [(0, .ref 256), (1, vi a), (2, vi b), (3, vi d), (4, vi 0), (5, vi 0)]) (show ([0, 1, 2, 3, 4, 5] : List Nat).Nodup from by decide) ⟨rfl, rfl, rfl, rfl, rfl, rfl, trivial⟩ ?_
      exact L_W_X11_met_256_43 s0 hJ0 hG0 a b_a b b_b d b_d pR pT pG1 pG3 pY pX pW pq  (((40 - 0) + 1 : Int)).toNat s362 a b d 0 0 z352 hG_s362 f_s362 ⟨by omega, by omega⟩ ⟨by omega, by omega⟩ ⟨by omega, by omega⟩ ⟨by omega, by omega⟩ ⟨by omega, by omega⟩ ⟨by omega, by omega⟩ (by omega) (by omega) (by omega) (by omega) (show _ = _ from rfl) (fun i hi => by omega) xp_z361 (q364).symm  (by omega)
    · rw [e_z358]
      show xe none 204 25 [(0, .ref 256), (1, vi a), (2, vi b), (3, vi d)] [vi 0] s0 0 0 _
      refine x_if_ne k204_25 (t := 32) rfl ⟨by omega, by omega⟩ (fun c366 => by exfalso; omega) (fun c366 => ?_)
      refine x_sipush k204_28 (by decide +kernel) ?_
      exact x_iret k204_31 rfl ⟨hG0, f0, (-1002), rfl, ⟨by omega, by omega⟩, (by have q0 := pT.1.1; have q2 := pX.2.2.2.1; have q3 := pG3.1; unfold MtS; exact Or.inr (Or.inl ⟨by omega, by omega, rfl⟩))⟩
  · rw [e_z355]
    show xe none 204 13 [(0, .ref 256), (1, vi a), (2, vi b), (3, vi d)] [vi 0] s0 0 0 _
    refine x_if_ne k204_13 (t := 20) rfl ⟨by omega, by omega⟩ (fun c367 => by exfalso; omega) (fun c367 => ?_)
    refine x_sipush k204_16 (by decide +kernel) ?_
    exact x_iret k204_19 rfl ⟨hG0, f0, (-1001), rfl, ⟨by omega, by omega⟩, (by have q0 := pT.1.1; have q2 := pX.2.2.2.1; have q3 := pG3.1; unfold MtS; exact Or.inl ⟨by omega, rfl⟩)⟩
