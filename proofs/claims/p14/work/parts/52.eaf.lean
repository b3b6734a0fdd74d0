set_option maxHeartbeats 8000000 in
theorem E_X7_setParent_1 (s0 : xS) (hG0 : GI s0) (a : Int) (b_a : (-2147483648) ≤ a ∧ a ≤ 2147483647) (b : Int) (b_b : (-1) ≤ b ∧ b ≤ 39) (d : Int) (b_d : 0 ≤ d ∧ d ≤ 9) (p_1_4 : 1 ≤ s0 1 4 ∧ s0 1 4 ≤ 40) : xe none 61 0 (lv_args 0 [.ref 1, vi a, vi b, vi d]) [] s0 0 0 (fun s' v => GI s' ∧ FL [384] s0 s' ∧ v = none ∧ ((¬ (0 ≤ a ∧ a < s0 1 4) ∧ ∀ r j : Nat, 6 ≤ r → r ≤ 45 → s' r j = s0 r j) ∨ ((0 ≤ a ∧ a < s0 1 4) ∧ ∀ r j : Nat, 6 ≤ r → r ≤ 45 → s' r j = if r = 5 + 1 + a.toNat ∧ d ≤ (j : Int) ∧ (j : Int) < 10 then b else s0 r j))) := by
  have f0 : FL [384] s0 s0 := FL.rf
  show xe none 61 0 [(0, .ref 1), (1, vi a), (2, vi b), (3, vi d)] [] s0 0 0 _
  obtain ⟨z31, e_z31⟩ : ∃ z, z = s0 1 4 := ⟨_, rfl⟩
  have g_z31 : (1 : Int) ≤ s0 1 4 ∧ s0 1 4 ≤ 40 := hG0 1 4
  refine x_A k61_0 (fun _ => rfl) ?_
  refine x_A k61_1 (fun _ => rfl) ?_
  refine x_callV k61_2 (y := 59) (n := 1) (w0 := 0) (w1 := 1) (as := [vi a]) (rest := []) (by decide +kernel) (q := 1) (nq := 5) (kq := 4) ⟨by decide, rfl⟩ rfl rfl rfl rfl (xe_mono (C_X7_has_1 s0 hG0 a (by first | exact x_rb b_a rfl rfl | exact ⟨by omega, by omega⟩)) ?_)
  rintro s33 v ⟨h_s33, z32, rfl, hz_z32⟩
  rw [h_s33]
  rcases hz_z32 with ⟨c_z32, e_z32⟩ | ⟨c_z32, e_z32⟩
  · rw [e_z32]
    show xe none 61 5 [(0, .ref 1), (1, vi a), (2, vi b), (3, vi d)] [vi 1] s0 0 0 _
    refine x_if_ne k61_5 (t := 9) rfl ⟨by decide, by decide⟩ (fun c34 => ?_) (fun c34 => by exfalso; omega)
    refine x_A k61_9 (fun _ => rfl) ?_
    refine x_A k61_10 (fun _ => rfl) ?_
    refine x_callS k61_11 (y := 220) (n := 2) (w0 := 0) (w1 := 2) (as := [vi 0, vi d]) (rest := []) (by decide +kernel) rfl rfl rfl rfl (xe_mono (C_J9_max_7cf53 s0 hG0 0 ⟨by decide, by decide⟩ d (by first | exact x_rb b_d rfl rfl | exact ⟨by omega, by omega⟩)) ?_)
    rintro s36 v ⟨h_s36, z35, rfl, g_z35⟩
    rw [h_s36]
    show xe none 61 14 [(0, .ref 1), (1, vi a), (2, vi b), (3, vi d)] [vi z35] s0 0 0 _
    refine x_istore k61_14 (ls' := [(4, vi z35), (0, .ref 1), (1, vi a), (2, vi b), (3, vi d)]) (by decide) rfl ?_
    refine x_ls (l := [(0, .ref 1), (1, vi a), (2, vi b), (3, vi d), (4, vi z35)]) (show ([0, 1, 2, 3, 4] : List Nat).Nodup from by decide +kernel) ⟨rfl, rfl, rfl, rfl, rfl, trivial⟩ ?_
    exact L_E_X7_setParent_1_16 s0 a b_a b b_b d b_d  (((10 - z35) + 1 : Int)).toNat s0 a b d z35 hG0 f0 (by first | exact x_rb b_a rfl rfl | exact ⟨by omega, by omega⟩) (by first | exact x_rb b_b rfl rfl | exact ⟨by omega, by omega⟩) (by first | exact x_rb b_d rfl rfl | exact ⟨by omega, by omega⟩) (by first | exact x_rbe e_z35 g_z35 rfl rfl | exact x_rb g_z35 rfl rfl | exact ⟨by omega, by omega⟩) (by omega) (by omega) (by omega) (by omega) (fun r j _ _ => by rw [if_neg (by omega)])  (by omega)
  · rw [e_z32]
    show xe none 61 5 [(0, .ref 1), (1, vi a), (2, vi b), (3, vi d)] [vi 0] s0 0 0 _
    refine x_if_ne k61_5 (t := 9) rfl ⟨by decide, by decide⟩ (fun c37 => by exfalso; omega) (fun c37 => ?_)
    exact x_vret k61_8 rfl ⟨hG0, f0, rfl, Or.inl ⟨by omega, fun _ _ _ _ => rfl⟩⟩
set_option maxHeartbeats 8000000 in
theorem L_E_X11_isBelow_256_25 (s0 : xS) (hJ0 : J s0) (a : Int) (b_a : (-2147483648) ≤ a ∧ a ≤ 2147483647) (b : Int) (b_b : 0 ≤ b ∧ b ≤ 39) (d : Int) (b_d : 0 ≤ d ∧ d ≤ 9) (rk : Int → Int → Nat) (hrk : JP1 s0 rk)  : ∀ (n : Nat) (s : xS) (x1 : Int) (x2 : Int) (x3 : Int) (x4 : Int) (hG : GI s) (f : FL [] s0 s) (b_x1 : (-2147483648) ≤ x1 ∧ x1 ≤ 2147483647) (b_x2 : 0 ≤ x2 ∧ x2 ≤ 39) (b_x3 : 0 ≤ x3 ∧ x3 ≤ 9) (b_x4 : (-1) ≤ x4 ∧ x4 ≤ 39) (w_0 : x2 = b) (w_1 : x3 = d) (w_2 : 0 ≤ x4 → ((0 ≤ a ∧ a < s0 256 1 ∧ s0 257 a.toNat ≤ d) ∧ b < s0 256 1 ∧ s0 257 b.toNat ≤ d)) (w_3 : ((0 ≤ a ∧ a < s0 256 1 ∧ s0 257 a.toNat ≤ d) ∧ b < s0 256 1 ∧ s0 257 b.toNat ≤ d) → ((∃ k, xup s0 d k a = b) ↔ ∃ k, xup s0 d k x4 = b))  (hm : ((rkm (rk x3) x4 : Nat) : Int) < (n : Int)), xe none 143 25 [(0, .ref 256), (1, vi x1), (2, vi x2), (3, vi x3), (4, vi x4)] [] s 0 0 (fun s' v => GI s' ∧ FL [] s0 s' ∧ ∃ z, v = some (vi z) ∧ (0 ≤ z ∧ z ≤ 1) ∧ ((z = 1 ∧ ((0 ≤ a ∧ a < s0 256 1 ∧ s0 257 a.toNat ≤ d) ∧ b < s0 256 1 ∧ s0 257 b.toNat ≤ d) ∧ ∃ k, xup s0 d k a = b) ∨ (z = 0 ∧ ¬ (((0 ≤ a ∧ a < s0 256 1 ∧ s0 257 a.toNat ≤ d) ∧ b < s0 256 1 ∧ s0 257 b.toNat ≤ d) ∧ ∃ k, xup s0 d k a = b)))) := by
  intro n
  induction n with
  | zero => intro s x1 x2 x3 x4 hG f b_x1 b_x2 b_x3 b_x4 w_0 w_1 w_2 w_3  hm; exfalso; omega
  | succ n ih =>
    intro s x1 x2 x3 x4 hG f b_x1 b_x2 b_x3 b_x4 w_0 w_1 w_2 w_3  hm
    refine x_A k143_25 (fun _ => rfl) ?_
    refine x_if_lt k143_27 (t := 53) rfl (by first | exact x_rb b_x4 rfl rfl | exact ⟨by omega, by omega⟩) (fun c40 => ?_) (fun c40 => ?_)
    · skip
      refine x_A k143_53 (fun _ => rfl) ?_
      refine x_if_lt k143_55 (t := 62) rfl (by first | exact x_rb b_x4 rfl rfl | exact ⟨by omega, by omega⟩) (fun c41 => ?_) (fun c41 => by exfalso; omega)
      refine x_A k143_62 (fun _ => rfl) ?_
      exact x_zret k143_63 rfl ⟨by omega, by omega⟩ ⟨hG, f, 0, rfl, ⟨by decide, by decide⟩, Or.inr ⟨rfl, fun w => by obtain ⟨k, hk⟩ := (w_3 w.1).mp w.2; rw [xup_neg k (by omega)] at hk; omega⟩⟩
    · skip
      refine x_A k143_30 (fun _ => rfl) ?_
      refine x_A k143_32 (fun _ => rfl) ?_
      refine x_ic_eq k143_33 (t := 53) rfl (by first | exact x_rb b_x4 rfl rfl | exact ⟨by omega, by omega⟩) (by first | exact x_rb b_x2 rfl rfl | exact ⟨by omega, by omega⟩) (fun c42 => ?_) (fun c42 => ?_)
      · skip
        refine x_A k143_53 (fun _ => rfl) ?_
        refine x_if_lt k143_55 (t := 62) rfl (by first | exact x_rb b_x4 rfl rfl | exact ⟨by omega, by omega⟩) (fun c43 => by exfalso; omega) (fun c43 => ?_)
        refine x_A k143_58 (fun _ => rfl) ?_
        refine x_goto k143_59 (t := 63) rfl ?_
        exact x_zret k143_63 rfl ⟨by omega, by omega⟩ ⟨hG, f, 1, rfl, ⟨by decide, by decide⟩, Or.inl ⟨rfl, w_2 (by omega), (w_3 (w_2 (by omega))).mpr ⟨0, (show x4 = b by omega)⟩⟩⟩
      · skip
        refine x_A k143_36 (fun _ => rfl) ?_
        refine x_getR k143_37 (f := 5) rfl (q := 256) (n := 62) (kd := 15) ⟨by decide, rfl⟩ (q2 := 260) (by decide) rfl ?_
        refine x_bipush k143_40 (by decide +kernel) ?_
        refine x_A k143_42 (fun _ => rfl) ?_
        refine x_imul k143_44 ?_
        refine x_top (fun z44 e_z44 => ?_)
        refine x_A k143_45 (fun _ => rfl) ?_
        refine x_iadd k143_46 ?_
        refine x_top (fun z45 e_z45 => ?_)
        refine x_iald k143_47 (q := 260) (n := 400) ⟨by decide, rfl⟩ (by decide) (by first | exact x_rbel e_z45 g_z45 rfl rfl | exact x_rbl g_z45 rfl rfl | exact ⟨by omega, by omega⟩) ?_
        refine x_top (fun z46 e_z46 => ?_)
        have g_z46 : (-1) ≤ s 260 z45.toNat ∧ s 260 z45.toNat ≤ 39 := hG 260 z45.toNat
        have d_z46 := (hrk.fl f (by decide +kernel)).dn x4 x3 ⟨by omega, by omega⟩ ⟨by omega, by omega⟩
        rw [show 10 * x4 + x3 = z45 by omega, e_z46.symm] at d_z46
        have pe_z46 : s0 260 (10 * x4 + d).toNat = z46 := by rw [← f 260 _ (show 4352 ∉ _ from by decide), show 10 * x4 + d = z45 by omega]; exact e_z46.symm
        refine x_istore k143_48 (ls' := [(4, vi z46), (0, .ref 256), (1, vi x1), (2, vi x2), (3, vi x3)]) (by decide) rfl ?_
        refine x_goto k143_50 (t := 25) rfl ?_
        refine x_ls (l := [(0, .ref 256), (1, vi x1), (2, vi x2), (3, vi x3), (4, vi z46)]) (show ([0, 1, 2, 3, 4] : List Nat).Nodup from by decide +kernel) ⟨rfl, rfl, rfl, rfl, rfl, trivial⟩ ?_
        exact ih s x1 x2 x3 z46 hG f (by first | exact x_rb b_x1 rfl rfl | exact ⟨by omega, by omega⟩) (by first | exact x_rb b_x2 rfl rfl | exact ⟨by omega, by omega⟩) (by first | exact x_rb b_x3 rfl rfl | exact ⟨by omega, by omega⟩) (by first | exact x_rbe e_z46 g_z46 rfl rfl | exact x_rb g_z46 rfl rfl | exact ⟨by omega, by omega⟩) (by omega) (by omega) (fun _ => w_2 (by omega)) (fun h1 => (w_3 h1).trans ((xup_ex (by omega) (by omega)).trans (by rw [pe_z46])))  (by omega)
set_option maxHeartbeats 8000000 in
theorem E_X11_isBelow_256 (s0 : xS) (hG0 : GI s0) (hJ0 : J s0) (a : Int) (b_a : (-2147483648) ≤ a ∧ a ≤ 2147483647) (b : Int) (b_b : 0 ≤ b ∧ b ≤ 39) (d : Int) (b_d : 0 ≤ d ∧ d ≤ 9) : xe none 143 0 (lv_args 0 [.ref 256, vi a, vi b, vi d]) [] s0 0 0 (fun s' v => GI s' ∧ FL [] s0 s' ∧ ∃ z, v = some (vi z) ∧ (0 ≤ z ∧ z ≤ 1) ∧ ((z = 1 ∧ ((0 ≤ a ∧ a < s0 256 1 ∧ s0 257 a.toNat ≤ d) ∧ b < s0 256 1 ∧ s0 257 b.toNat ≤ d) ∧ ∃ k, xup s0 d k a = b) ∨ (z = 0 ∧ ¬ (((0 ≤ a ∧ a < s0 256 1 ∧ s0 257 a.toNat ≤ d) ∧ b < s0 256 1 ∧ s0 257 b.toNat ≤ d) ∧ ∃ k, xup s0 d k a = b)))) := by
  have f0 : FL [] s0 s0 := FL.rf
  show xe none 143 0 [(0, .ref 256), (1, vi a), (2, vi b), (3, vi d)] [] s0 0 0 _
  obtain ⟨rk, hrk⟩ := hJ0.2.1
  refine x_A k143_0 (fun _ => rfl) ?_
  refine x_A k143_1 (fun _ => rfl) ?_
  refine x_A k143_2 (fun _ => rfl) ?_
  obtain ⟨z47, e_z47⟩ : ∃ z, z = s0 256 1 := ⟨_, rfl⟩
  have g_z47 : (1 : Int) ≤ s0 256 1 ∧ s0 256 1 ≤ 40 := hG0 256 1
  refine x_callV k143_3 (y := 141) (n := 2) (w0 := 0) (w1 := 2) (as := [vi a, vi d]) (rest := []) (by decide +kernel) (q := 256) (nq := 62) (kq := 15) ⟨by decide, rfl⟩ rfl rfl rfl rfl (xe_mono (C_X11_isTold_256 s0 hG0 a (by first | exact x_rb b_a rfl rfl | exact ⟨by omega, by omega⟩) d (by first | exact x_rb b_d rfl rfl | exact ⟨by omega, by omega⟩)) ?_)
  rintro s49 v ⟨h_s49, z48, rfl, hz_z48⟩
  rw [h_s49]
  rcases hz_z48 with ⟨c_z48, e_z48, m_z48⟩ | ⟨e_z48, m_z48⟩
  · rw [e_z48]
    show xe none 143 6 [(0, .ref 256), (1, vi a), (2, vi b), (3, vi d)] [vi 1] s0 0 0 _
    refine x_if_eq k143_6 (t := 22) rfl ⟨by decide, by decide⟩ (fun c50 => by exfalso; omega) (fun c50 => ?_)
    refine x_A k143_9 (fun _ => rfl) ?_
    refine x_A k143_10 (fun _ => rfl) ?_
    refine x_A k143_11 (fun _ => rfl) ?_
    refine x_callV k143_12 (y := 141) (n := 2) (w0 := 0) (w1 := 2) (as := [vi b, vi d]) (rest := []) (by decide +kernel) (q := 256) (nq := 62) (kq := 15) ⟨by decide, rfl⟩ rfl rfl rfl rfl (xe_mono (C_X11_isTold_256 s0 hG0 b (by first | exact x_rb b_b rfl rfl | exact ⟨by omega, by omega⟩) d (by first | exact x_rb b_d rfl rfl | exact ⟨by omega, by omega⟩)) ?_)
    rintro s52 v ⟨h_s52, z51, rfl, hz_z51⟩
    rw [h_s52]
    rcases hz_z51 with ⟨c_z51, e_z51, m_z51⟩ | ⟨e_z51, m_z51⟩
    · rw [e_z51]
      show xe none 143 15 [(0, .ref 256), (1, vi a), (2, vi b), (3, vi d)] [vi 1] s0 0 0 _
      refine x_if_eq k143_15 (t := 22) rfl ⟨by decide, by decide⟩ (fun c53 => by exfalso; omega) (fun c53 => ?_)
      refine x_A k143_18 (fun _ => rfl) ?_
      refine x_goto k143_19 (t := 23) rfl ?_
      refine x_istore k143_23 (ls' := [(4, vi a), (0, .ref 256), (1, vi a), (2, vi b), (3, vi d)]) (by decide) rfl ?_
      refine x_ls (l := [(0, .ref 256), (1, vi a), (2, vi b), (3, vi d), (4, vi a)]) (show ([0, 1, 2, 3, 4] : List Nat).Nodup from by decide +kernel) ⟨rfl, rfl, rfl, rfl, rfl, trivial⟩ ?_
      exact L_E_X11_isBelow_256_25 s0 hJ0 a b_a b b_b d b_d rk hrk  ((((rkm (rk d) a : Nat) : Int) + 1 : Int)).toNat s0 a b d a hG0 f0 (by first | exact x_rb b_a rfl rfl | exact ⟨by omega, by omega⟩) (by first | exact x_rb b_b rfl rfl | exact ⟨by omega, by omega⟩) (by first | exact x_rb b_d rfl rfl | exact ⟨by omega, by omega⟩) (by first | exact x_rb b_a rfl rfl | exact ⟨by omega, by omega⟩) (by omega) (by omega) (fun _ => by omega) (fun _ => Iff.rfl)  (by omega)
    · rw [e_z51]
      show xe none 143 15 [(0, .ref 256), (1, vi a), (2, vi b), (3, vi d)] [vi 0] s0 0 0 _
      refine x_if_eq k143_15 (t := 22) rfl ⟨by decide, by decide⟩ (fun c54 => ?_) (fun c54 => by exfalso; omega)
      refine x_A k143_22 (fun _ => rfl) ?_
      refine x_istore k143_23 (ls' := [(4, vi (-1)), (0, .ref 256), (1, vi a), (2, vi b), (3, vi d)]) (by decide) rfl ?_
      refine x_ls (l := [(0, .ref 256), (1, vi a), (2, vi b), (3, vi d), (4, vi (-1))]) (show ([0, 1, 2, 3, 4] : List Nat).Nodup from by decide +kernel) ⟨rfl, rfl, rfl, rfl, rfl, trivial⟩ ?_
      exact L_E_X11_isBelow_256_25 s0 hJ0 a b_a b b_b d b_d rk hrk  ((((rkm (rk d) (-1) : Nat) : Int) + 1 : Int)).toNat s0 a b d (-1) hG0 f0 (by first | exact x_rb b_a rfl rfl | exact ⟨by omega, by omega⟩) (by first | exact x_rb b_b rfl rfl | exact ⟨by omega, by omega⟩) (by first | exact x_rb b_d rfl rfl | exact ⟨by omega, by omega⟩) ⟨by decide, by decide⟩ (by omega) (by omega) (fun _ => by omega) (fun h1 => by exfalso; omega)  (by omega)
  · rw [e_z48]
    show xe none 143 6 [(0, .ref 256), (1, vi a), (2, vi b), (3, vi d)] [vi 0] s0 0 0 _
    refine x_if_eq k143_6 (t := 22) rfl ⟨by decide, by decide⟩ (fun c55 => ?_) (fun c55 => by exfalso; omega)
    refine x_A k143_22 (fun _ => rfl) ?_
    refine x_istore k143_23 (ls' := [(4, vi (-1)), (0, .ref 256), (1, vi a), (2, vi b), (3, vi d)]) (by decide) rfl ?_
    refine x_ls (l := [(0, .ref 256), (1, vi a), (2, vi b), (3, vi d), (4, vi (-1))]) (show ([0, 1, 2, 3, 4] : List Nat).Nodup from by decide +kernel) ⟨rfl, rfl, rfl, rfl, rfl, trivial⟩ ?_
    exact L_E_X11_isBelow_256_25 s0 hJ0 a b_a b b_b d b_d rk hrk  ((((rkm (rk d) (-1) : Nat) : Int) + 1 : Int)).toNat s0 a b d (-1) hG0 f0 (by first | exact x_rb b_a rfl rfl | exact ⟨by omega, by omega⟩) (by first | exact x_rb b_b rfl rfl | exact ⟨by omega, by omega⟩) (by first | exact x_rb b_d rfl rfl | exact ⟨by omega, by omega⟩) ⟨by decide, by decide⟩ (by omega) (by omega) (fun _ => by omega) (fun h1 => by exfalso; omega)  (by omega)
set_option maxHeartbeats 8000000 in
theorem F_X7_add_1 (s0 : xS) (hG0 : GI s0) (a : Int) (b_a : (-1) ≤ a ∧ a ≤ 39) (b : Int) (b_b : 0 ≤ b ∧ b ≤ 9) : xe none 60 0 (lv_args 0 [.ref 1, vi a, vi b]) [] s0 0 0 (fun s' v => GI s' ∧ FL [69, 128, 384] s0 s' ∧ ∃ z, v = some (vi z) ∧ ((-1004) ≤ z ∧ z ≤ 39) ∧ ((40 ≤ s0 1 4 ∧ z = -1004 ∧ s' 1 4 = s0 1 4 ∧ s' 2 = s0 2 ∧ ∀ r j : Nat, 6 ≤ r → r ≤ 45 → s' r j = s0 r j) ∨ (s0 1 4 < 40 ∧ z = s0 1 4 ∧ s' 1 4 = s0 1 4 + 1 ∧ (∀ j, s' 2 j = if j = (s0 1 4).toNat then b else s0 2 j) ∧ ∀ r j : Nat, 6 ≤ r → r ≤ 45 → s' r j = if r = 5 + 1 + (s0 1 4).toNat ∧ b ≤ (j : Int) ∧ (j : Int) < 10 then a else s0 r j))) := by
  have f0 : FL [69, 128, 384] s0 s0 := FL.rf
  show xe none 60 0 [(0, .ref 1), (1, vi a), (2, vi b)] [] s0 0 0 _
  refine x_A k60_0 (fun _ => rfl) ?_
  refine x_getI k60_1 (f := 4) rfl (q := 1) (n := 5) (kd := 4) ⟨by decide, rfl⟩ (by decide) rfl ?_
  refine x_top (fun z1 e_z1 => ?_)
  have g_z1 : (1 : Int) ≤ s0 1 4 ∧ s0 1 4 ≤ 40 := hG0 1 4
  refine x_istore_n k60_4 (ls' := [(3, vi z1), (0, .ref 1), (1, vi a), (2, vi b)]) (by decide) rfl ?_
  refine x_A k60_5 (fun _ => rfl) ?_
  refine x_bipush k60_6 (by decide +kernel) ?_
  refine x_ic_lt k60_8 (t := 15) rfl (by first | exact x_rbe e_z1 g_z1 rfl rfl | exact x_rb g_z1 rfl rfl | exact ⟨by omega, by omega⟩) ⟨by decide, by decide⟩ (fun c2 => ?_) (fun c2 => ?_)
  · skip
    refine x_A k60_15 (fun _ => rfl) ?_
    refine x_getR k60_16 (f := 0) rfl (q := 1) (n := 5) (kd := 4) ⟨by decide, rfl⟩ (q2 := 2) (by decide) rfl ?_
    refine x_A k60_19 (fun _ => rfl) ?_
    refine x_A k60_20 (fun _ => rfl) ?_
    refine x_iast k60_21 (q := 2) (n := 40) ⟨by decide, rfl⟩ (by decide) (by first | exact x_rbel e_z1 g_z1 rfl rfl | exact x_rbl g_z1 rfl rfl | exact ⟨by omega, by omega⟩) ?_
    refine x_nh (fun s3 e_s3 => ?_)
    have hG_s3 : GI s3 := by rw [e_s3]; exact hG0.up (show 0 ≤ b ∧ b ≤ 9 from (by first | exact x_rb b_b rfl rfl | exact ⟨by omega, by omega⟩))
    have f_s3 : FL [69, 128, 384] s0 s3 := by rw [e_s3]; exact f0.up (show 128 ∈ [69, 128, 384] from by decide +kernel)
    have q4 : s3 1 4 = z1 := by rw [e_s3, x_up_q (by decide)]; exact e_z1.symm
    have q5 : s3 2 z1.toNat = b := by rw [e_s3]; exact x_up_same
    refine x_A k60_22 (fun _ => rfl) ?_
    refine x_A k60_23 (fun _ => rfl) ?_
    refine x_getI k60_24 (f := 4) rfl (q := 1) (n := 5) (kd := 4) ⟨by decide, rfl⟩ (by decide) rfl ?_
    refine x_rw (q4) ?_
    refine x_A k60_27 (fun _ => rfl) ?_
    refine x_iadd k60_28 ?_
    refine x_top (fun z6 e_z6 => ?_)
    refine x_putI k60_29 (f := 4) rfl (q := 1) (n := 5) (kd := 4) ⟨by decide, rfl⟩ rfl rfl rfl ?_
    refine x_nh (fun s7 e_s7 => ?_)
    have hG_s7 : GI s7 := by rw [e_s7]; exact hG_s3.up (show 1 ≤ z6 ∧ z6 ≤ 40 from (by first | exact x_rbe e_z6 g_z6 rfl rfl | exact x_rb g_z6 rfl rfl | exact ⟨by omega, by omega⟩))
    have f_s7 : FL [69, 128, 384] s0 s7 := by rw [e_s7]; exact f_s3.up (show 69 ∈ [69, 128, 384] from by decide +kernel)
    have q8 : s7 1 4 = z6 := by rw [e_s7]; exact x_up_same
    have q9 : s7 2 z1.toNat = b := by rw [e_s7, x_up_q (by first | decide | omega)]; exact q5
    refine x_A k60_32 (fun _ => rfl) ?_
    refine x_A k60_33 (fun _ => rfl) ?_
    refine x_A k60_34 (fun _ => rfl) ?_
    refine x_A k60_35 (fun _ => rfl) ?_
    refine x_callV k60_36 (y := 61) (n := 3) (w0 := 0) (w1 := 3) (as := [vi z1, vi a, vi b]) (rest := []) (by decide +kernel) (q := 1) (nq := 5) (kq := 4) ⟨by decide, rfl⟩ rfl rfl rfl rfl (xe_mono (E_X7_setParent_1 s7 hG_s7 z1 (by first | exact x_rbe e_z1 g_z1 rfl rfl | exact x_rb g_z1 rfl rfl | exact ⟨by omega, by omega⟩) a (by first | exact x_rb b_a rfl rfl | exact ⟨by omega, by omega⟩) b (by first | exact x_rb b_b rfl rfl | exact ⟨by omega, by omega⟩) ⟨by omega, by omega⟩) ?_)
    rintro s11 v ⟨hG_s11, t_s11, rfl, xp_z10⟩
    have f_s11 : FL [69, 128, 384] s0 s11 := f_s7.tr t_s11 (by decide +kernel)
    have q12 : s11 1 4 = z6 := (t_s11 1 4 (show 69 ∉ [384] from by decide +kernel)).trans q8
    have q13 : s11 2 z1.toNat = b := (t_s11 2 z1.toNat (show 128 ∉ [384] from by decide +kernel)).trans q9
    show xe none 60 39 [(3, vi z1), (0, .ref 1), (1, vi a), (2, vi b)] [] s11 0 0 _
    refine x_A k60_39 (fun _ => rfl) ?_
    exact x_iret k60_40 rfl ⟨hG_s11, f_s11, z1, rfl, (by first | exact x_rbe e_z1 g_z1 rfl rfl | exact x_rb g_z1 rfl rfl | exact ⟨by omega, by omega⟩), xp_z10.elim (fun ⟨u1, u2⟩ => by exfalso; omega) (fun ⟨u1, u2⟩ => Or.inr ⟨by omega, by omega, by omega, fun j => by rw [t_s11 2 j (show 128 ∉ _ from by decide), e_s7, x_up_q (by decide), e_s3, x_up_at, show z1 = s0 1 4 by omega], fun r j h1 h2 => by rw [u2 r j h1 h2, e_s7, x_up_q (by omega), e_s3, x_up_q (by omega), show z1 = s0 1 4 by omega]⟩)⟩
  · skip
    refine x_sipush k60_11 (by decide +kernel) ?_
    exact x_iret k60_14 rfl ⟨hG0, f0, (-1004), rfl, ⟨by decide, by decide⟩, Or.inl ⟨by omega, rfl, rfl, rfl, fun _ _ _ _ => rfl⟩⟩
set_option maxHeartbeats 8000000 in
theorem F_X10_mark_0 (s0 : xS) (hG0 : GI s0) (a : Int) (b_a : (-2147483648) ≤ a ∧ a ≤ 2147483647) (p_1_4 : 1 ≤ s0 1 4 ∧ s0 1 4 ≤ 40) (p_0_10 : 0 ≤ s0 0 10 ∧ s0 0 10 ≤ 9) : xe none 92 0 (lv_args 0 [.ref 0, vi a]) [] s0 0 0 (fun s' v => GI s' ∧ FL [69, 128, 384, 3276, 3277] s0 s' ∧ ∃ z, v = some (vi z) ∧ ((-1004) ≤ z ∧ z ≤ 39) ∧ (MkC s0 s' a z ∧ MkP s0 s' a z)) := by
  have f0 : FL [69, 128, 384, 3276, 3277] s0 s0 := FL.rf
  show xe none 92 0 [(0, .ref 0), (1, vi a)] [] s0 0 0 _
  obtain ⟨z1, e_z1⟩ : ∃ z, z = s0 1 4 := ⟨_, rfl⟩
  have g_z1 : (1 : Int) ≤ s0 1 4 ∧ s0 1 4 ≤ 40 := hG0 1 4
  obtain ⟨z2, e_z2⟩ : ∃ z, z = s0 0 10 := ⟨_, rfl⟩
  have g_z2 : (0 : Int) ≤ s0 0 10 ∧ s0 0 10 ≤ 9 := hG0 0 10
  refine x_A k92_0 (fun _ => rfl) ?_
  refine x_getR k92_1 (f := 0) rfl (q := 0) (n := 12) (kd := 3) ⟨by decide, rfl⟩ (q2 := 1) (by decide) rfl ?_
  refine x_A k92_4 (fun _ => rfl) ?_
  refine x_callV k92_5 (y := 59) (n := 1) (w0 := 0) (w1 := 1) (as := [vi a]) (rest := []) (by decide +kernel) (q := 1) (nq := 5) (kq := 4) ⟨by decide, rfl⟩ rfl rfl rfl rfl (xe_mono (C_X7_has_1 s0 hG0 a (by first | exact x_rb b_a rfl rfl | exact ⟨by omega, by omega⟩)) ?_)
  rintro s4 v ⟨h_s4, z3, rfl, hz_z3⟩
  rw [h_s4]
  rcases hz_z3 with ⟨c_z3, e_z3⟩ | ⟨c_z3, e_z3⟩
  · rw [e_z3]
    show xe none 92 8 [(0, .ref 0), (1, vi a)] [vi 1] s0 0 0 _
    refine x_if_ne k92_8 (t := 15) rfl ⟨by decide, by decide⟩ (fun c5 => ?_) (fun c5 => by exfalso; omega)
    refine x_A k92_15 (fun _ => rfl) ?_
    refine x_getR k92_16 (f := 0) rfl (q := 0) (n := 12) (kd := 3) ⟨by decide, rfl⟩ (q2 := 1) (by decide) rfl ?_
    refine x_A k92_19 (fun _ => rfl) ?_
    refine x_A k92_20 (fun _ => rfl) ?_
    refine x_getI k92_21 (f := 10) rfl (q := 0) (n := 12) (kd := 3) ⟨by decide, rfl⟩ (by decide) rfl ?_
    refine x_rw (e_z2.symm) ?_
    refine x_callV k92_24 (y := 64) (n := 2) (w0 := 0) (w1 := 2) (as := [vi a, vi z2]) (rest := []) (by decide +kernel) (q := 1) (nq := 5) (kq := 4) ⟨by decide, rfl⟩ rfl rfl rfl rfl (xe_mono (E_X7_isThere_1 s0 hG0 a (by first | exact x_rb b_a rfl rfl | exact ⟨by omega, by omega⟩) z2 (by first | exact x_rbe e_z2 g_z2 rfl rfl | exact x_rb g_z2 rfl rfl | exact ⟨by omega, by omega⟩)) ?_)
    rintro s7 v ⟨h_s7, z6, rfl, hz_z6⟩
    rw [h_s7]
    rcases hz_z6 with ⟨c_z6, e_z6, m_z6⟩ | ⟨e_z6, m_z6⟩
    · rw [e_z6]
      show xe none 92 27 [(0, .ref 0), (1, vi a)] [vi 1] s0 0 0 _
      refine x_if_ne k92_27 (t := 34) rfl ⟨by decide, by decide⟩ (fun c8 => ?_) (fun c8 => by exfalso; omega)
      refine x_A k92_34 (fun _ => rfl) ?_
      refine x_getR k92_35 (f := 9) rfl (q := 0) (n := 12) (kd := 3) ⟨by decide, rfl⟩ (q2 := 243) (by decide) rfl ?_
      refine x_callV k92_38 (y := 73) (n := 0) (w0 := 0) (w1 := 0) (as := []) (rest := []) (by decide +kernel) (q := 243) (nq := 13) (kq := 13) ⟨by decide, rfl⟩ rfl rfl rfl rfl (xe_mono (C_X8_forget_243 s0 hG0) ?_)
      rintro s10 v ⟨hG_s10, t_s10, rfl⟩
      have f_s10 : FL [69, 128, 384, 3276, 3277] s0 s10 := f0.tr t_s10 (by decide +kernel)
      have q11 : s10 1 4 = z1 := (t_s10 1 4 (show 69 ∉ [3276, 3277] from by decide +kernel)).trans e_z1.symm
      have q12 : s10 0 10 = z2 := (t_s10 0 10 (show 11 ∉ [3276, 3277] from by decide +kernel)).trans e_z2.symm
      show xe none 92 41 [(0, .ref 0), (1, vi a)] [] s10 0 0 _
      refine x_A k92_41 (fun _ => rfl) ?_
      refine x_getR k92_42 (f := 0) rfl (q := 0) (n := 12) (kd := 3) ⟨by decide, rfl⟩ (q2 := 1) (by decide) rfl ?_
      refine x_A k92_45 (fun _ => rfl) ?_
      refine x_A k92_46 (fun _ => rfl) ?_
      refine x_getI k92_47 (f := 10) rfl (q := 0) (n := 12) (kd := 3) ⟨by decide, rfl⟩ (by decide) rfl ?_
      refine x_rw (q12) ?_
      refine x_callV k92_50 (y := 60) (n := 2) (w0 := 0) (w1 := 2) (as := [vi a, vi z2]) (rest := []) (by decide +kernel) (q := 1) (nq := 5) (kq := 4) ⟨by decide, rfl⟩ rfl rfl rfl rfl (xe_mono (F_X7_add_1 s10 hG_s10 a (by first | exact x_rb b_a rfl rfl | exact ⟨by omega, by omega⟩) z2 (by first | exact x_rbe e_z2 g_z2 rfl rfl | exact x_rb g_z2 rfl rfl | exact ⟨by omega, by omega⟩)) ?_)
      rintro s14 v ⟨hG_s14, t_s14, z13, rfl, g_z13, xp_z13⟩
      have f_s14 : FL [69, 128, 384, 3276, 3277] s0 s14 := f_s10.tr t_s14 (by decide +kernel)
      have q15 : s14 0 10 = z2 := (t_s14 0 10 (show 11 ∉ [69, 128, 384] from by decide +kernel)).trans q12
      obtain ⟨z16, e_z16⟩ : ∃ z, z = s14 1 4 := ⟨_, rfl⟩
      have g_z16 : (1 : Int) ≤ s14 1 4 ∧ s14 1 4 ≤ 40 := hG_s14 1 4
      show xe none 92 53 [(0, .ref 0), (1, vi a)] [vi z13] s14 0 0 _
      have F2 : s10 2 = s0 2 := funext fun i => t_s10 2 i (show 128 ∉ _ from by decide)
      have FR := rows40 t_s10 (by decide)
      exact x_iret k92_53 rfl ⟨hG_s14, f_s14, z13, rfl, (by first | exact x_rbe e_z13 g_z13 rfl rfl | exact x_rb g_z13 rfl rfl | exact ⟨by omega, by omega⟩), ⟨(by unfold MkC; exact xp_z13.elim (fun ⟨u1, u2, u3, u4, u5⟩ => Or.inr (Or.inr (Or.inl ⟨by omega, by omega, by omega, by omega, by omega, u4.trans F2⟩))) (fun ⟨u1, u2, u3, u4, u5⟩ => Or.inr (Or.inr (Or.inr ⟨by omega, by omega, by omega, by omega, by omega, fun j => by rw [u4, show s10 1 4 = s0 1 4 by omega, show z2 = s0 0 10 by omega, F2]⟩)))), xp_z13.elim (fun ⟨u1, u2, u3, u4, u5⟩ => ⟨fun _ r j h1 h2 => (u5 r j h1 h2).trans (FR r j h1 h2), fun w => by exfalso; omega⟩) (fun ⟨u1, u2, u3, u4, u5⟩ => ⟨fun w => by exfalso; omega, fun _ r j h1 h2 => by rw [u5 r j h1 h2, FR r j h1 h2, ← u2, show z2 = s0 0 10 by omega]⟩)⟩⟩
    · rw [e_z6]
      show xe none 92 27 [(0, .ref 0), (1, vi a)] [vi 0] s0 0 0 _
      refine x_if_ne k92_27 (t := 34) rfl ⟨by decide, by decide⟩ (fun c17 => by exfalso; omega) (fun c17 => ?_)
      refine x_sipush k92_30 (by decide +kernel) ?_
      exact x_iret k92_33 rfl ⟨hG0, f0, (-1003), rfl, ⟨by decide, by decide⟩, ⟨(by unfold MkC; exact Or.inr (Or.inl ⟨by omega, by omega, rfl, rfl, rfl⟩)), ⟨fun _ _ _ _ _ => rfl, fun w => absurd w (by decide)⟩⟩⟩
  · rw [e_z3]
    show xe none 92 8 [(0, .ref 0), (1, vi a)] [vi 0] s0 0 0 _
    refine x_if_ne k92_8 (t := 15) rfl ⟨by decide, by decide⟩ (fun c18 => by exfalso; omega) (fun c18 => ?_)
    refine x_sipush k92_11 (by decide +kernel) ?_
    exact x_iret k92_14 rfl ⟨hG0, f0, (-1001), rfl, ⟨by decide, by decide⟩, ⟨(by unfold MkC; exact Or.inl ⟨by omega, rfl, rfl, rfl⟩), ⟨fun _ _ _ _ _ => rfl, fun w => absurd w (by decide)⟩⟩⟩
set_option maxHeartbeats 8000000 in
theorem L_E_X11_belowMany_256_5 (s0 : xS) (hJ0 : J s0) (a : Int) (b_a : 0 ≤ a ∧ a ≤ 39) (b : Int) (b_b : 0 ≤ b ∧ b ≤ 9)  : ∀ (n : Nat) (s : xS) (x1 : Int) (x2 : Int) (x3 : Int) (x4 : Int) (x1000 : Int) (hG : GI s) (f : FL [] s0 s) (b_x1 : 0 ≤ x1 ∧ x1 ≤ 39) (b_x2 : 0 ≤ x2 ∧ x2 ≤ 9) (b_x3 : 0 ≤ x3 ∧ x3 ≤ 60) (b_x4 : 0 ≤ x4 ∧ x4 ≤ 40) (b_x1000 : 1 ≤ x1000 ∧ x1000 ≤ 40) (r_3_4 : x3 ≤ x4 + 0) (r_4_1000 : x4 ≤ x1000 + 0) (w_0 : x1 = a) (w_1 : x2 = b) (w_2 : x1000 = s0 256 1) (w_3 : x4 ≤ x1000) (w_4 : x3 = ctp (fun k => (((k : Int) < s0 256 1 ∧ s0 257 k ≤ b) ∧ a < s0 256 1 ∧ s0 257 a.toNat ≤ b) ∧ ∃ j, xup s0 b j (k : Int) = a) x4.toNat) (e_x1000 : x1000 = s 256 1)  (hm : (40 - x4) < (n : Int)), xe none 144 5 [(0, .ref 256), (1, vi x1), (2, vi x2), (3, vi x3), (4, vi x4)] [] s 0 0 (fun s' v => GI s' ∧ FL [] s0 s' ∧ ∃ z, v = some (vi z) ∧ (0 ≤ z ∧ z ≤ 40) ∧ (z = ctp (fun k => (((k : Int) < s0 256 1 ∧ s0 257 k ≤ b) ∧ a < s0 256 1 ∧ s0 257 a.toNat ≤ b) ∧ ∃ j, xup s0 b j (k : Int) = a) (s0 256 1).toNat)) := by
  intro n
  induction n with
  | zero => intro s x1 x2 x3 x4 x1000 hG f b_x1 b_x2 b_x3 b_x4 b_x1000 r_3_4 r_4_1000 w_0 w_1 w_2 w_3 w_4 e_x1000  hm; exfalso; omega
  | succ n ih =>
    intro s x1 x2 x3 x4 x1000 hG f b_x1 b_x2 b_x3 b_x4 b_x1000 r_3_4 r_4_1000 w_0 w_1 w_2 w_3 w_4 e_x1000  hm
    refine x_A k144_5 (fun _ => rfl) ?_
    refine x_A k144_7 (fun _ => rfl) ?_
    refine x_getI k144_8 (f := 1) rfl (q := 256) (n := 62) (kd := 15) ⟨by decide, rfl⟩ (by decide) rfl ?_
    refine x_rw (e_x1000.symm) ?_
    refine x_ic_ge k144_11 (t := 39) rfl (by first | exact x_rb b_x4 rfl rfl | exact ⟨by omega, by omega⟩) (by first | exact x_rb b_x1000 rfl rfl | exact ⟨by omega, by omega⟩) (fun c105 => ?_) (fun c105 => ?_)
    · skip
      refine x_A k144_39 (fun _ => rfl) ?_
      exact x_iret k144_40 rfl ⟨hG, f, x3, rfl, (by first | exact x_rb b_x3 rfl rfl | exact ⟨by omega, by omega⟩), (by rw [show (s0 256 1).toNat = x4.toNat by omega]; exact w_4)⟩
    · skip
      refine x_A k144_14 (fun _ => rfl) ?_
      refine x_A k144_15 (fun _ => rfl) ?_
      refine x_A k144_16 (fun _ => rfl) ?_
      refine x_A k144_18 (fun _ => rfl) ?_
      refine x_A k144_19 (fun _ => rfl) ?_
      refine x_callV k144_20 (y := 143) (n := 3) (w0 := 1) (w1 := 3) (as := [vi x4, vi x1, vi x2]) (rest := [vi x3]) (by decide +kernel) (q := 256) (nq := 62) (kq := 15) ⟨by decide, rfl⟩ rfl rfl rfl rfl (xe_mono (E_X11_isBelow_256 s hG (hJ0.fl f (by decide +kernel)) x4 (by first | exact x_rb b_x4 rfl rfl | exact ⟨by omega, by omega⟩) x1 (by first | exact x_rb b_x1 rfl rfl | exact ⟨by omega, by omega⟩) x2 (by first | exact x_rb b_x2 rfl rfl | exact ⟨by omega, by omega⟩)) ?_)
      rintro s107 v ⟨-, t_s107, z106, rfl, g_z106, xp_z106⟩
      rw [t_s107.nil]
      try rw [t_s107.nil] at xp_z106
      show xe none 144 23 [(0, .ref 256), (1, vi x1), (2, vi x2), (3, vi x3), (4, vi x4)] [vi z106, vi x3] s 0 0 _
      have cs := ctp_s (fun k => (((k : Int) < s0 256 1 ∧ s0 257 k ≤ b) ∧ a < s0 256 1 ∧ s0 257 a.toNat ≤ b) ∧ ∃ j, xup s0 b j (k : Int) = a) (k := x4) (by omega)
      have ck : (z106 = 1 → ctp (fun k => (((k : Int) < s0 256 1 ∧ s0 257 k ≤ b) ∧ a < s0 256 1 ∧ s0 257 a.toNat ≤ b) ∧ ∃ j, xup s0 b j (k : Int) = a) (x4 + 1).toNat = ctp (fun k => (((k : Int) < s0 256 1 ∧ s0 257 k ≤ b) ∧ a < s0 256 1 ∧ s0 257 a.toNat ≤ b) ∧ ∃ j, xup s0 b j (k : Int) = a) x4.toNat + 1) ∧ (z106 = 0 → ctp (fun k => (((k : Int) < s0 256 1 ∧ s0 257 k ≤ b) ∧ a < s0 256 1 ∧ s0 257 a.toNat ≤ b) ∧ ∃ j, xup s0 b j (k : Int) = a) (x4 + 1).toNat = ctp (fun k => (((k : Int) < s0 256 1 ∧ s0 257 k ≤ b) ∧ a < s0 256 1 ∧ s0 257 a.toNat ≤ b) ∧ ∃ j, xup s0 b j (k : Int) = a) x4.toNat) := by
        have e4 : ((x4.toNat : Nat) : Int) = x4 := by omega
        have e1 : x1 = a := by omega
        have e2 : x2 = b := by omega
        have xq := xp_z106
        rw [f.nil, e1, e2] at xq
        rw [e4] at cs
        exact ⟨fun hz => cs.1 (xq.elim (fun q => ⟨⟨⟨q.2.1.1.2.1, q.2.1.1.2.2⟩, q.2.1.2⟩, q.2.2⟩) (fun q => by exfalso; omega)), fun hz => cs.2 (xq.elim (fun q => by exfalso; omega) (fun q w => q.2 ⟨⟨⟨by omega, w.1.1⟩, w.1.2⟩, w.2⟩))⟩
      refine x_if_eq k144_23 (t := 30) rfl (by first | exact x_rbe e_z106 g_z106 rfl rfl | exact x_rb g_z106 rfl rfl | exact ⟨by omega, by omega⟩) (fun c108 => ?_) (fun c108 => ?_)
      · skip
        refine x_A k144_30 (fun _ => rfl) ?_
        refine x_iadd k144_31 ?_
        refine x_top (fun z109 e_z109 => ?_)
        refine x_istore_n k144_32 (ls' := [(3, vi z109), (0, .ref 256), (1, vi x1), (2, vi x2), (4, vi x4)]) (by decide) rfl ?_
        refine x_iinc k144_33 (ls' := [(4, vi (x4 + 1)), (3, vi z109), (0, .ref 256), (1, vi x1), (2, vi x2)]) rfl (by decide) rfl ?_
        refine x_goto k144_36 (t := 5) rfl ?_
        refine x_ls (l := [(0, .ref 256), (1, vi x1), (2, vi x2), (3, vi z109), (4, vi (x4 + 1))]) (show ([0, 1, 2, 3, 4] : List Nat).Nodup from by decide +kernel) ⟨rfl, rfl, rfl, rfl, rfl, trivial⟩ ?_
        exact ih s x1 x2 z109 (x4 + 1) x1000 hG f (by first | exact x_rb b_x1 rfl rfl | exact ⟨by omega, by omega⟩) (by first | exact x_rb b_x2 rfl rfl | exact ⟨by omega, by omega⟩) (by first | exact x_rbe e_z109 g_z109 rfl rfl | exact x_rb g_z109 rfl rfl | exact ⟨by omega, by omega⟩) ⟨by omega, by omega⟩ (by first | exact x_rb b_x1000 rfl rfl | exact ⟨by omega, by omega⟩) (by omega) (by omega) (by omega) (by omega) (by omega) (by omega) (by omega) (e_x1000.symm).symm  (by omega)
      · skip
        refine x_A k144_26 (fun _ => rfl) ?_
        refine x_goto k144_27 (t := 31) rfl ?_
        refine x_iadd k144_31 ?_
        refine x_top (fun z110 e_z110 => ?_)
        refine x_istore_n k144_32 (ls' := [(3, vi z110), (0, .ref 256), (1, vi x1), (2, vi x2), (4, vi x4)]) (by decide) rfl ?_
        refine x_iinc k144_33 (ls' := [(4, vi (x4 + 1)), (3, vi z110), (0, .ref 256), (1, vi x1), (2, vi x2)]) rfl (by decide) rfl ?_
        refine x_goto k144_36 (t := 5) rfl ?_
        refine x_ls (l := [(0, .ref 256), (1, vi x1), (2, vi x2), (3, vi z110), (4, vi (x4 + 1))]) (show ([0, 1, 2, 3, 4] : List Nat).Nodup from by decide +kernel) ⟨rfl, rfl, rfl, rfl, rfl, trivial⟩ ?_
        exact ih s x1 x2 z110 (x4 + 1) x1000 hG f (by first | exact x_rb b_x1 rfl rfl | exact ⟨by omega, by omega⟩) (by first | exact x_rb b_x2 rfl rfl | exact ⟨by omega, by omega⟩) (by first | exact x_rbe e_z110 g_z110 rfl rfl | exact x_rb g_z110 rfl rfl | exact ⟨by omega, by omega⟩) ⟨by omega, by omega⟩ (by first | exact x_rb b_x1000 rfl rfl | exact ⟨by omega, by omega⟩) (by omega) (by omega) (by omega) (by omega) (by omega) (by omega) (by omega) (e_x1000.symm).symm  (by omega)
set_option maxHeartbeats 8000000 in
theorem E_X11_belowMany_256 (s0 : xS) (hG0 : GI s0) (hJ0 : J s0) (a : Int) (b_a : 0 ≤ a ∧ a ≤ 39) (b : Int) (b_b : 0 ≤ b ∧ b ≤ 9) : xe none 144 0 (lv_args 0 [.ref 256, vi a, vi b]) [] s0 0 0 (fun s' v => GI s' ∧ FL [] s0 s' ∧ ∃ z, v = some (vi z) ∧ (0 ≤ z ∧ z ≤ 40) ∧ (z = ctp (fun k => (((k : Int) < s0 256 1 ∧ s0 257 k ≤ b) ∧ a < s0 256 1 ∧ s0 257 a.toNat ≤ b) ∧ ∃ j, xup s0 b j (k : Int) = a) (s0 256 1).toNat)) := by
  have f0 : FL [] s0 s0 := FL.rf
  show xe none 144 0 [(0, .ref 256), (1, vi a), (2, vi b)] [] s0 0 0 _
  refine x_A k144_0 (fun _ => rfl) ?_
  refine x_istore_n k144_1 (ls' := [(3, vi 0), (0, .ref 256), (1, vi a), (2, vi b)]) (by decide) rfl ?_
  refine x_A k144_2 (fun _ => rfl) ?_
  refine x_istore k144_3 (ls' := [(4, vi 0), (3, vi 0), (0, .ref 256), (1, vi a), (2, vi b)]) (by decide) rfl ?_
  obtain ⟨z111, e_z111⟩ : ∃ z, z = s0 256 1 := ⟨_, rfl⟩
  have g_z111 : (1 : Int) ≤ s0 256 1 ∧ s0 256 1 ≤ 40 := hG0 256 1
  refine x_ls (l := [(0, .ref 256), (1, vi a), (2, vi b), (3, vi 0), (4, vi 0)]) (show ([0, 1, 2, 3, 4] : List Nat).Nodup from by decide +kernel) ⟨rfl, rfl, rfl, rfl, rfl, trivial⟩ ?_
  exact L_E_X11_belowMany_256_5 s0 hJ0 a b_a b b_b  (((40 - 0) + 1 : Int)).toNat s0 a b 0 0 z111 hG0 f0 (by first | exact x_rb b_a rfl rfl | exact ⟨by omega, by omega⟩) (by first | exact x_rb b_b rfl rfl | exact ⟨by omega, by omega⟩) ⟨by decide, by decide⟩ ⟨by decide, by decide⟩ (by first | exact x_rbe e_z111 g_z111 rfl rfl | exact x_rb g_z111 rfl rfl | exact ⟨by omega, by omega⟩) (by omega) (by omega) (by omega) (by omega) (by omega) (by omega) (show _ = _ from rfl) (e_z111.symm).symm  (by omega)
set_option maxHeartbeats 8000000 in
theorem F_X11_tell_256 (s0 : xS) (hG0 : GI s0) (a : Int) (b_a : (-1) ≤ a ∧ a ≤ 39) (p_256_1 : 1 ≤ s0 256 1 ∧ s0 256 1 ≤ 39) (pa : 0 ≤ a ∧ a < s0 256 1) (i0_J : J s0) : xe none 139 0 (lv_args 0 [.ref 256, vi a]) [] s0 0 0 (fun s' v => GI s' ∧ FL [4098, 4160, 4224, 4288, 4352] s0 s' ∧ v = none ∧ (s' 256 1 = s0 256 1 + 1 ∧ (∀ j, s' 257 j = if j = (s0 256 1).toNat then s0 256 0 else s0 257 j) ∧ (∀ j, s' 258 j = if j = (s0 256 1).toNat then -1 else s0 258 j) ∧ ∀ j : Nat, s' 260 j = if 10 * s0 256 1 + s0 256 0 ≤ (j : Int) ∧ (j : Int) < 10 * s0 256 1 + 10 then a else s0 260 j) ∧ J s') := by
  have f0 : FL [4098, 4160, 4224, 4288, 4352] s0 s0 := FL.rf
  show xe none 139 0 [(0, .ref 256), (1, vi a)] [] s0 0 0 _
  obtain ⟨z1, e_z1⟩ : ∃ z, z = s0 256 1 := ⟨_, rfl⟩
  have g_z1 : (1 : Int) ≤ s0 256 1 ∧ s0 256 1 ≤ 40 := hG0 256 1
  refine x_A k139_0 (fun _ => rfl) ?_
  refine x_getR k139_1 (f := 2) rfl (q := 256) (n := 62) (kd := 15) ⟨by decide, rfl⟩ (q2 := 257) (by decide) rfl ?_
  refine x_A k139_4 (fun _ => rfl) ?_
  refine x_getI k139_5 (f := 1) rfl (q := 256) (n := 62) (kd := 15) ⟨by decide, rfl⟩ (by decide) rfl ?_
  refine x_rw (e_z1.symm) ?_
  refine x_A k139_8 (fun _ => rfl) ?_
  refine x_getI k139_9 (f := 0) rfl (q := 256) (n := 62) (kd := 15) ⟨by decide, rfl⟩ (by decide) rfl ?_
  refine x_top (fun z2 e_z2 => ?_)
  have g_z2 : (0 : Int) ≤ s0 256 0 ∧ s0 256 0 ≤ 9 := hG0 256 0
  refine x_iast k139_12 (q := 257) (n := 40) ⟨by decide, rfl⟩ (by decide) (by first | exact x_rbel e_z1 g_z1 rfl rfl | exact x_rbl g_z1 rfl rfl | exact ⟨by omega, by omega⟩) ?_
  refine x_nh (fun s3 e_s3 => ?_)
  have hG_s3 : GI s3 := by rw [e_s3]; exact hG0.up (show 0 ≤ z2 ∧ z2 ≤ 9 from (by first | exact x_rbe e_z2 g_z2 rfl rfl | exact x_rb g_z2 rfl rfl | exact ⟨by omega, by omega⟩))
  have f_s3 : FL [4098, 4160, 4224, 4288, 4352] s0 s3 := by rw [e_s3]; exact f0.up (show 4160 ∈ [4098, 4160, 4224, 4288, 4352] from by decide +kernel)
  have q4 : s3 256 1 = z1 := by rw [e_s3, x_up_q (by decide)]; exact e_z1.symm
  have q5 : s3 256 0 = z2 := by rw [e_s3, x_up_q (by decide)]; exact e_z2.symm
  have q6 : s3 257 z1.toNat = z2 := by rw [e_s3]; exact x_up_same
  refine x_A k139_13 (fun _ => rfl) ?_
  refine x_getR k139_14 (f := 3) rfl (q := 256) (n := 62) (kd := 15) ⟨by decide, rfl⟩ (q2 := 258) (by decide) rfl ?_
  refine x_A k139_17 (fun _ => rfl) ?_
  refine x_getI k139_18 (f := 1) rfl (q := 256) (n := 62) (kd := 15) ⟨by decide, rfl⟩ (by decide) rfl ?_
  refine x_rw (q4) ?_
  refine x_A k139_21 (fun _ => rfl) ?_
  refine x_iast k139_22 (q := 258) (n := 40) ⟨by decide, rfl⟩ (by decide) (by first | exact x_rbel e_z1 g_z1 rfl rfl | exact x_rbl g_z1 rfl rfl | exact ⟨by omega, by omega⟩) ?_
  refine x_nh (fun s7 e_s7 => ?_)
  have hG_s7 : GI s7 := by rw [e_s7]; exact hG_s3.up (show (-1) ≤ (-1) ∧ (-1) ≤ 9 from ⟨by decide, by decide⟩)
  have f_s7 : FL [4098, 4160, 4224, 4288, 4352] s0 s7 := by rw [e_s7]; exact f_s3.up (show 4224 ∈ [4098, 4160, 4224, 4288, 4352] from by decide +kernel)
  have q8 : s7 256 1 = z1 := by rw [e_s7, x_up_q (by decide)]; exact q4
  have q9 : s7 256 0 = z2 := by rw [e_s7, x_up_q (by decide)]; exact q5
  have q10 : s7 257 z1.toNat = z2 := by rw [e_s7, x_up_q (by first | decide | omega)]; exact q6
  have q11 : s7 258 z1.toNat = (-1) := by rw [e_s7]; exact x_up_same
  refine x_A k139_23 (fun _ => rfl) ?_
  refine x_getR k139_24 (f := 4) rfl (q := 256) (n := 62) (kd := 15) ⟨by decide, rfl⟩ (q2 := 259) (by decide) rfl ?_
  refine x_A k139_27 (fun _ => rfl) ?_
  refine x_getI k139_28 (f := 1) rfl (q := 256) (n := 62) (kd := 15) ⟨by decide, rfl⟩ (by decide) rfl ?_
  refine x_rw (q8) ?_
  refine x_A k139_31 (fun _ => rfl) ?_
  refine x_iast k139_32 (q := 259) (n := 40) ⟨by decide, rfl⟩ (by decide) (by first | exact x_rbel e_z1 g_z1 rfl rfl | exact x_rbl g_z1 rfl rfl | exact ⟨by omega, by omega⟩) ?_
  refine x_nh (fun s12 e_s12 => ?_)
  have hG_s12 : GI s12 := by rw [e_s12]; exact hG_s7.up (show (-1) ≤ (-1) ∧ (-1) ≤ 39 from ⟨by decide, by decide⟩)
  have f_s12 : FL [4098, 4160, 4224, 4288, 4352] s0 s12 := by rw [e_s12]; exact f_s7.up (show 4288 ∈ [4098, 4160, 4224, 4288, 4352] from by decide +kernel)
  have q13 : s12 256 1 = z1 := by rw [e_s12, x_up_q (by decide)]; exact q8
  have q14 : s12 256 0 = z2 := by rw [e_s12, x_up_q (by decide)]; exact q9
  have q15 : s12 257 z1.toNat = z2 := by rw [e_s12, x_up_q (by first | decide | omega)]; exact q10
  have q16 : s12 258 z1.toNat = (-1) := by rw [e_s12, x_up_q (by first | decide | omega)]; exact q11
  have q17 : s12 259 z1.toNat = (-1) := by rw [e_s12]; exact x_up_same
  refine x_A k139_33 (fun _ => rfl) ?_
  refine x_A k139_34 (fun _ => rfl) ?_
  refine x_getI k139_35 (f := 1) rfl (q := 256) (n := 62) (kd := 15) ⟨by decide, rfl⟩ (by decide) rfl ?_
  refine x_rw (q13) ?_
  refine x_A k139_38 (fun _ => rfl) ?_
  refine x_iadd k139_39 ?_
  refine x_top (fun z18 e_z18 => ?_)
  refine x_putI k139_40 (f := 1) rfl (q := 256) (n := 62) (kd := 15) ⟨by decide, rfl⟩ rfl rfl rfl ?_
  refine x_nh (fun s19 e_s19 => ?_)
  have hG_s19 : GI s19 := by rw [e_s19]; exact hG_s12.up (show 1 ≤ z18 ∧ z18 ≤ 40 from (by first | exact x_rbe e_z18 g_z18 rfl rfl | exact x_rb g_z18 rfl rfl | exact ⟨by omega, by omega⟩))
  have f_s19 : FL [4098, 4160, 4224, 4288, 4352] s0 s19 := by rw [e_s19]; exact f_s12.up (show 4098 ∈ [4098, 4160, 4224, 4288, 4352] from by decide +kernel)
  have q20 : s19 256 0 = z2 := by rw [e_s19, x_up_i (by decide)]; exact q14
  have q21 : s19 256 1 = z18 := by rw [e_s19]; exact x_up_same
  have q22 : s19 257 z1.toNat = z2 := by rw [e_s19, x_up_q (by first | decide | omega)]; exact q15
  have q23 : s19 258 z1.toNat = (-1) := by rw [e_s19, x_up_q (by first | decide | omega)]; exact q16
  have q24 : s19 259 z1.toNat = (-1) := by rw [e_s19, x_up_q (by first | decide | omega)]; exact q17
  refine x_A k139_43 (fun _ => rfl) ?_
  refine x_A k139_44 (fun _ => rfl) ?_
  refine x_getI k139_45 (f := 1) rfl (q := 256) (n := 62) (kd := 15) ⟨by decide, rfl⟩ (by decide) rfl ?_
  refine x_rw (q21) ?_
  refine x_A k139_48 (fun _ => rfl) ?_
  refine x_isub k139_49 ?_
  refine x_top (fun z25 e_z25 => ?_)
  refine x_A k139_50 (fun _ => rfl) ?_
  have J_t : J s19 := by rw [e_s19, e_s12, e_s7, e_s3]; exact J.tell i0_J hG0 e_z1 e_z2 (by omega) (by omega)
  have x_t : ∀ k, xup s19 (s19 256 0) k a ≠ z1 := by rw [e_s19, e_s12, e_s7, e_s3]; exact J.tellx i0_J hG0 e_z1 (by omega)
  refine x_callV k139_51 (y := 140) (n := 2) (w0 := 0) (w1 := 2) (as := [vi z25, vi a]) (rest := []) (by decide +kernel) (q := 256) (nq := 62) (kq := 15) ⟨by decide, rfl⟩ rfl rfl rfl rfl (xe_mono (D_X11_hang_256 s19 hG_s19 z25 (by first | exact x_rbe e_z25 g_z25 rfl rfl | exact x_rb g_z25 rfl rfl | exact ⟨by omega, by omega⟩) a (by first | exact x_rb b_a rfl rfl | exact ⟨by omega, by omega⟩)) ?_)
  rintro s27 v ⟨hG_s27, t_s27, rfl, xp_z26⟩
  have f_s27 : FL [4098, 4160, 4224, 4288, 4352] s0 s27 := f_s19.tr t_s27 (by decide +kernel)
  have q28 : s27 256 0 = z2 := (t_s27 256 0 (show 4097 ∉ [4352] from by decide +kernel)).trans q20
  have q29 : s27 256 1 = z18 := (t_s27 256 1 (show 4098 ∉ [4352] from by decide +kernel)).trans q21
  have q30 : s27 257 z1.toNat = z2 := (t_s27 257 z1.toNat (show 4160 ∉ [4352] from by decide +kernel)).trans q22
  have q31 : s27 258 z1.toNat = (-1) := (t_s27 258 z1.toNat (show 4224 ∉ [4352] from by decide +kernel)).trans q23
  have q32 : s27 259 z1.toNat = (-1) := (t_s27 259 z1.toNat (show 4288 ∉ [4352] from by decide +kernel)).trans q24
  show xe none 139 54 [(0, .ref 256), (1, vi a)] [] s27 0 0 _
  have J_h : J s27 := J.hang J_t hG_s19 (m := z25) (p := a) ⟨by omega, by omega⟩ ⟨by omega, by rw [q21]; omega⟩ (by rw [show z25 = z1 by omega]; exact x_t) t_s27 xp_z26
  exact x_vret k139_54 rfl ⟨hG_s27, f_s27, rfl, ⟨by omega, fun j => by rw [t_s27 257 j (show 4160 ∉ _ from by decide), e_s19, x_up_q (by decide), e_s12, x_up_q (by decide), e_s7, x_up_q (by decide), e_s3, x_up_at, show z1 = s0 256 1 by omega, show z2 = s0 256 0 by omega], fun j => by rw [t_s27 258 j (show 4224 ∉ _ from by decide), e_s19, x_up_q (by decide), e_s12, x_up_q (by decide), e_s7, x_up_at, e_s3, x_up_q (by decide), show z1 = s0 256 1 by omega], fun j => by rw [xp_z26 j, show s19 256 0 = s0 256 0 by omega, show s19 260 j = s0 260 j by rw [e_s19, x_up_q (by decide), e_s12, x_up_q (by decide), e_s7, x_up_q (by decide), e_s3, x_up_q (by decide)], show z25 = s0 256 1 by omega]⟩, J_h⟩
set_option maxHeartbeats 8000000 in
theorem F_X11_mark_256 (s0 : xS) (hG0 : GI s0) (a : Int) (b_a : (-2147483648) ≤ a ∧ a ≤ 2147483647) (p_256_1 : 1 ≤ s0 256 1 ∧ s0 256 1 ≤ 40) (p_256_0 : 0 ≤ s0 256 0 ∧ s0 256 0 ≤ 9) (i0_J : J s0) : xe none 146 0 (lv_args 0 [.ref 256, vi a]) [] s0 0 0 (fun s' v => GI s' ∧ FL [4098, 4160, 4224, 4288, 4352] s0 s' ∧ ∃ z, v = some (vi z) ∧ ((-1004) ≤ z ∧ z ≤ 39) ∧ (MkR s0 s' a z ∧ MkQ s0 s' a z) ∧ J s') := by
  have f0 : FL [4098, 4160, 4224, 4288, 4352] s0 s0 := FL.rf
  show xe none 146 0 [(0, .ref 256), (1, vi a)] [] s0 0 0 _
  obtain ⟨z1, e_z1⟩ : ∃ z, z = s0 256 1 := ⟨_, rfl⟩
  have g_z1 : (1 : Int) ≤ s0 256 1 ∧ s0 256 1 ≤ 40 := hG0 256 1
  obtain ⟨z2, e_z2⟩ : ∃ z, z = s0 256 0 := ⟨_, rfl⟩
  have g_z2 : (0 : Int) ≤ s0 256 0 ∧ s0 256 0 ≤ 9 := hG0 256 0
  refine x_A k146_0 (fun _ => rfl) ?_
  refine x_A k146_1 (fun _ => rfl) ?_
  refine x_callV k146_2 (y := 137) (n := 1) (w0 := 0) (w1 := 1) (as := [vi a]) (rest := []) (by decide +kernel) (q := 256) (nq := 62) (kq := 15) ⟨by decide, rfl⟩ rfl rfl rfl rfl (xe_mono (C_X11_isMark_256 s0 hG0 a (by first | exact x_rb b_a rfl rfl | exact ⟨by omega, by omega⟩)) ?_)
  rintro s4 v ⟨h_s4, z3, rfl, hz_z3⟩
  rw [h_s4]
  rcases hz_z3 with ⟨c_z3, e_z3⟩ | ⟨c_z3, e_z3⟩
  · rw [e_z3]
    show xe none 146 5 [(0, .ref 256), (1, vi a)] [vi 1] s0 0 0 _
    refine x_if_ne k146_5 (t := 12) rfl ⟨by decide, by decide⟩ (fun c5 => ?_) (fun c5 => by exfalso; omega)
    refine x_A k146_12 (fun _ => rfl) ?_
    refine x_A k146_13 (fun _ => rfl) ?_
    refine x_A k146_14 (fun _ => rfl) ?_
    refine x_getI k146_15 (f := 0) rfl (q := 256) (n := 62) (kd := 15) ⟨by decide, rfl⟩ (by decide) rfl ?_
    refine x_rw (e_z2.symm) ?_
    refine x_callV k146_18 (y := 142) (n := 2) (w0 := 0) (w1 := 2) (as := [vi a, vi z2]) (rest := []) (by decide +kernel) (q := 256) (nq := 62) (kq := 15) ⟨by decide, rfl⟩ rfl rfl rfl rfl (xe_mono (C_X11_isThere_256 s0 hG0 a (by first | exact x_rb b_a rfl rfl | exact ⟨by omega, by omega⟩) z2 (by first | exact x_rbe e_z2 g_z2 rfl rfl | exact x_rb g_z2 rfl rfl | exact ⟨by omega, by omega⟩)) ?_)
    rintro s7 v ⟨h_s7, z6, rfl, hz_z6⟩
    rw [h_s7]
    rcases hz_z6 with ⟨c_z6, e_z6, m_z6⟩ | ⟨e_z6, m_z6⟩
    · rw [e_z6]
      show xe none 146 21 [(0, .ref 256), (1, vi a)] [vi 1] s0 0 0 _
      refine x_if_ne k146_21 (t := 28) rfl ⟨by decide, by decide⟩ (fun c8 => ?_) (fun c8 => by exfalso; omega)
      refine x_A k146_28 (fun _ => rfl) ?_
      refine x_getI k146_29 (f := 1) rfl (q := 256) (n := 62) (kd := 15) ⟨by decide, rfl⟩ (by decide) rfl ?_
      refine x_rw (e_z1.symm) ?_
      refine x_bipush k146_32 (by decide +kernel) ?_
      refine x_ic_ne k146_34 (t := 41) rfl (by first | exact x_rbe e_z1 g_z1 rfl rfl | exact x_rb g_z1 rfl rfl | exact ⟨by omega, by omega⟩) ⟨by decide, by decide⟩ (fun c9 => ?_) (fun c9 => ?_)
      · skip
        refine x_A k146_41 (fun _ => rfl) ?_
        refine x_A k146_42 (fun _ => rfl) ?_
        refine x_callV k146_43 (y := 139) (n := 1) (w0 := 0) (w1 := 1) (as := [vi a]) (rest := []) (by decide +kernel) (q := 256) (nq := 62) (kq := 15) ⟨by decide, rfl⟩ rfl rfl rfl rfl (xe_mono (F_X11_tell_256 s0 hG0 a (by first | exact x_rb b_a rfl rfl | exact ⟨by omega, by omega⟩) ⟨by omega, by omega⟩ (by omega) i0_J) ?_)
        rintro s11 v ⟨hG_s11, t_s11, rfl, xp_z10, J_s11⟩
        have f_s11 : FL [4098, 4160, 4224, 4288, 4352] s0 s11 := f0.tr t_s11 (by decide +kernel)
        have q12 : s11 256 0 = z2 := (t_s11 256 0 (show 4097 ∉ [4098, 4160, 4224, 4288, 4352] from by decide +kernel)).trans e_z2.symm
        obtain ⟨z13, e_z13⟩ : ∃ z, z = s11 256 1 := ⟨_, rfl⟩
        have g_z13 : (1 : Int) ≤ s11 256 1 ∧ s11 256 1 ≤ 40 := hG_s11 256 1
        show xe none 146 46 [(0, .ref 256), (1, vi a)] [] s11 0 0 _
        refine x_A k146_46 (fun _ => rfl) ?_
        refine x_getI k146_47 (f := 1) rfl (q := 256) (n := 62) (kd := 15) ⟨by decide, rfl⟩ (by decide) rfl ?_
        refine x_rw (e_z13.symm) ?_
        refine x_A k146_50 (fun _ => rfl) ?_
        refine x_isub k146_51 ?_
        refine x_top (fun z14 e_z14 => ?_)
        exact x_iret k146_52 rfl ⟨hG_s11, f_s11, z14, rfl, (by first | exact x_rbe e_z14 g_z14 rfl rfl | exact x_rb g_z14 rfl rfl | exact ⟨by omega, by omega⟩), ⟨(by unfold MkR; exact Or.inr (Or.inr (Or.inr ⟨by omega, by omega, by omega, by omega, xp_z10.1, xp_z10.2.1, xp_z10.2.2.1⟩))), fun w => by exfalso; omega, fun _ j => by rw [xp_z10.2.2.2 j, show z14 = s0 256 1 by omega]⟩, J_s11⟩
      · skip
        refine x_sipush k146_37 (by decide +kernel) ?_
        exact x_iret k146_40 rfl ⟨hG0, f0, (-1004), rfl, ⟨by decide, by decide⟩, ⟨(by unfold MkR; exact Or.inr (Or.inr (Or.inl ⟨by omega, by omega, by omega, rfl, rfl, rfl, rfl⟩))), fun _ => rfl, fun w => absurd w (by decide)⟩, i0_J⟩
    · rw [e_z6]
      show xe none 146 21 [(0, .ref 256), (1, vi a)] [vi 0] s0 0 0 _
      refine x_if_ne k146_21 (t := 28) rfl ⟨by decide, by decide⟩ (fun c15 => by exfalso; omega) (fun c15 => ?_)
      refine x_sipush k146_24 (by decide +kernel) ?_
      exact x_iret k146_27 rfl ⟨hG0, f0, (-1003), rfl, ⟨by decide, by decide⟩, ⟨(by unfold MkR; exact Or.inr (Or.inl ⟨by omega, by omega, rfl, rfl, rfl, rfl⟩)), fun _ => rfl, fun w => absurd w (by decide)⟩, i0_J⟩
  · rw [e_z3]
    show xe none 146 5 [(0, .ref 256), (1, vi a)] [vi 0] s0 0 0 _
    refine x_if_ne k146_5 (t := 12) rfl ⟨by decide, by decide⟩ (fun c16 => by exfalso; omega) (fun c16 => ?_)
    refine x_sipush k146_8 (by decide +kernel) ?_
    exact x_iret k146_11 rfl ⟨hG0, f0, (-1001), rfl, ⟨by decide, by decide⟩, ⟨(by unfold MkR; exact Or.inl ⟨by omega, rfl, rfl, rfl, rfl⟩), fun _ => rfl, fun w => absurd w (by decide)⟩, i0_J⟩
