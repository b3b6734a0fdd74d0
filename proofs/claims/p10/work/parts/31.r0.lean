theorem L_C_X11_isBelow_256_25 (s0 : xS) (hJ0 : J s0) (rk : Int → Int → Nat) (hrk : JP1 s0 rk)  : ∀ (n : Nat) (s : xS) (x1 : Int) (x2 : Int) (x3 : Int) (x4 : Int) (hG : GI s) (f : FL [] s0 s) (b_x1 : (-2147483648) ≤ x1 ∧ x1 ≤ 2147483647) (b_x2 : (-2147483648) ≤ x2 ∧ x2 ≤ 2147483647) (b_x3 : 0 ≤ x3 ∧ x3 ≤ 9) (b_x4 : (-1) ≤ x4 ∧ x4 ≤ 39)  (hm : ((rkm (rk x3) x4 : Nat) : Int) < (n : Int)), xe none 143 25 [(0, .ref 256), (1, vi x1), (2, vi x2), (3, vi x3), (4, vi x4)] [] s 0 0 (fun s' v => GI s' ∧ FL [] s0 s' ∧ ∃ z, v = some (vi z) ∧ (0 ≤ z ∧ z ≤ 1)) := by
  intro n
  induction n with
  | zero => intro s x1 x2 x3 x4 hG f b_x1 b_x2 b_x3 b_x4  hm; exfalso; omega
  | succ n ih =>
    intro s x1 x2 x3 x4 hG f b_x1 b_x2 b_x3 b_x4  hm
    refine x_A k143_25 (fun _ => rfl) ?_
    refine x_if_lt k143_27 (t := 53) rfl (by first | exact x_rb b_x4 rfl rfl | exact ⟨by omega, by omega⟩) (fun c40 => ?_) (fun c40 => ?_)
    · skip
      refine x_A k143_53 (fun _ => rfl) ?_
      refine x_if_lt k143_55 (t := 62) rfl (by first | exact x_rb b_x4 rfl rfl | exact ⟨by omega, by omega⟩) (fun c41 => ?_) (fun c41 => by exfalso; omega)
      refine x_A k143_62 (fun _ => rfl) ?_
      exact x_zret k143_63 rfl ⟨by omega, by omega⟩ ⟨hG, f, 0, rfl, ⟨by decide, by decide⟩⟩
    · skip
      refine x_A k143_30 (fun _ => rfl) ?_
      refine x_A k143_32 (fun _ => rfl) ?_
      refine x_ic_eq k143_33 (t := 53) rfl (by first | exact x_rb b_x4 rfl rfl | exact ⟨by omega, by omega⟩) (by first | exact x_rb b_x2 rfl rfl | exact ⟨by omega, by omega⟩) (fun c42 => ?_) (fun c42 => ?_)
      · skip
        refine x_A k143_53 (fun _ => rfl) ?_
        refine x_if_lt k143_55 (t := 62) rfl (by first | exact x_rb b_x4 rfl rfl | exact ⟨by omega, by omega⟩) (fun c43 => by exfalso; omega) (fun c43 => ?_)
        refine x_A k143_58 (fun _ => rfl) ?_
        refine x_goto k143_59 (t := 63) rfl ?_
        exact x_zret k143_63 rfl ⟨by omega, by omega⟩ ⟨hG, f, 1, rfl, ⟨by decide, by decide⟩⟩
      · skip
        refine x_A k143_36 (fun _ => rfl) ?_
        refine x_getR k143_37 (f := 5) rfl (q := 256) (n := 62) (kd := 15) ⟨by decide, rfl⟩ (q2 := 260) (by decide) rfl ?_
        refine x_bipush k143_40 (by decide +kernel) ?_
        refine x_A k143_42 (fun _ => rfl) ?_
        refine x_imul k143_44 ?_
        refine x_top (fun z44 e_z44 => ?_)
        refine x_A k143_45 (fun _ => rfl) ?_
        refine x_iadd k143_46 ?_
        refine x_top (fun z45 e_z45 => ?_)
        refine x_iald k143_47 (q := 260) (n := 400) ⟨by decide, rfl⟩ (by decide) (by first | exact x_rbel e_z45 g_z45 rfl rfl | exact x_rbl g_z45 rfl rfl | exact ⟨by omega, by omega⟩) ?_
        refine x_top (fun z46 e_z46 => ?_)
        have g_z46 : (-1) ≤ s 260 z45.toNat ∧ s 260 z45.toNat ≤ 39 := hG 260 z45.toNat
        have d_z46 := (hrk.fl f (by decide +kernel)).dn x4 x3 ⟨by omega, by omega⟩ ⟨by omega, by omega⟩
        rw [show 10 * x4 + x3 = z45 by omega, e_z46.symm] at d_z46
        refine x_istore k143_48 (ls' := [(4, vi z46), (0, .ref 256), (1, vi x1), (2, vi x2), (3, vi x3)]) (by decide) rfl ?_
        refine x_goto k143_50 (t := 25) rfl ?_
        refine x_ls (l := [(0, .ref 256), (1, vi x1), (2, vi x2), (3, vi x3), (4, vi z46)]) (show ([0, 1, 2, 3, 4] : List Nat).Nodup from by decide +kernel) ⟨rfl, rfl, rfl, rfl, rfl, trivial⟩ ?_
        exact ih s x1 x2 x3 z46 hG f (by first | exact x_rb b_x1 rfl rfl | exact ⟨by omega, by omega⟩) (by first | exact x_rb b_x2 rfl rfl | exact ⟨by omega, by omega⟩) (by first | exact x_rb b_x3 rfl rfl | exact ⟨by omega, by omega⟩) (by first | exact x_rbe e_z46 g_z46 rfl rfl | exact x_rb g_z46 rfl rfl | exact ⟨by omega, by omega⟩)  (by omega)
theorem C_X11_isBelow_256 (s0 : xS) (hG0 : GI s0) (hJ0 : J s0) (a : Int) (b_a : (-2147483648) ≤ a ∧ a ≤ 2147483647) (b : Int) (b_b : (-2147483648) ≤ b ∧ b ≤ 2147483647) (d : Int) (b_d : 0 ≤ d ∧ d ≤ 9) : xe none 143 0 (lv_args 0 [.ref 256, vi a, vi b, vi d]) [] s0 0 0 (fun s' v => GI s' ∧ FL [] s0 s' ∧ ∃ z, v = some (vi z) ∧ (0 ≤ z ∧ z ≤ 1)) := by
  have f0 : FL [] s0 s0 := FL.rf
  show xe none 143 0 [(0, .ref 256), (1, vi a), (2, vi b), (3, vi d)] [] s0 0 0 _
  obtain ⟨rk, hrk⟩ := hJ0.2.1
  refine x_A k143_0 (fun _ => rfl) ?_
  refine x_A k143_1 (fun _ => rfl) ?_
  refine x_A k143_2 (fun _ => rfl) ?_
  obtain ⟨z47, e_z47⟩ : ∃ z, z = s0 256 1 := ⟨_, rfl⟩
  have g_z47 : (1 : Int) ≤ s0 256 1 ∧ s0 256 1 ≤ 40 := hG0 256 1
  refine x_callV k143_3 (y := 141) (n := 2) (w0 := 0) (w1 := 2) (as := [vi a, vi d]) (rest := []) (by decide +kernel) (q := 256) (nq := 62) (kq := 15) ⟨by decide, rfl⟩ rfl rfl rfl rfl (xe_mono (C_X11_isTold_256 s0 hG0 a (by first | exact x_rb b_a rfl rfl | exact ⟨by omega, by omega⟩) d (by first | exact x_rb b_d rfl rfl | exact ⟨by omega, by omega⟩)) ?_)
  rintro s49 v ⟨h_s49, z48, rfl, hz_z48⟩
  rw [h_s49]
  rcases hz_z48 with ⟨c_z48, e_z48, m_z48⟩ | ⟨e_z48, m_z48⟩
  · rw [e_z48]
    show xe none 143 6 [(0, .ref 256), (1, vi a), (2, vi b), (3, vi d)] [vi 1] s0 0 0 _
    refine x_if_eq k143_6 (t := 22) rfl ⟨by decide, by decide⟩ (fun c50 => by exfalso; omega) (fun c50 => ?_)
    refine x_A k143_9 (fun _ => rfl) ?_
    refine x_A k143_10 (fun _ => rfl) ?_
    refine x_A k143_11 (fun _ => rfl) ?_
    refine x_callV k143_12 (y := 141) (n := 2) (w0 := 0) (w1 := 2) (as := [vi b, vi d]) (rest := []) (by decide +kernel) (q := 256) (nq := 62) (kq := 15) ⟨by decide, rfl⟩ rfl rfl rfl rfl (xe_mono (C_X11_isTold_256 s0 hG0 b (by first | exact x_rb b_b rfl rfl | exact ⟨by omega, by omega⟩) d (by first | exact x_rb b_d rfl rfl | exact ⟨by omega, by omega⟩)) ?_)
    rintro s52 v ⟨h_s52, z51, rfl, hz_z51⟩
    rw [h_s52]
    rcases hz_z51 with ⟨c_z51, e_z51, m_z51⟩ | ⟨e_z51, m_z51⟩
    · rw [e_z51]
      show xe none 143 15 [(0, .ref 256), (1, vi a), (2, vi b), (3, vi d)] [vi 1] s0 0 0 _
      refine x_if_eq k143_15 (t := 22) rfl ⟨by decide, by decide⟩ (fun c53 => by exfalso; omega) (fun c53 => ?_)
      refine x_A k143_18 (fun _ => rfl) ?_
      refine x_goto k143_19 (t := 23) rfl ?_
      refine x_istore k143_23 (ls' := [(4, vi a), (0, .ref 256), (1, vi a), (2, vi b), (3, vi d)]) (by decide) rfl ?_
      refine x_ls (l := [(0, .ref 256), (1, vi a), (2, vi b), (3, vi d), (4, vi a)]) (show ([0, 1, 2, 3, 4] : List Nat).Nodup from by decide +kernel) ⟨rfl, rfl, rfl, rfl, rfl, trivial⟩ ?_
      exact L_C_X11_isBelow_256_25 s0 hJ0 rk hrk  ((((rkm (rk d) a : Nat) : Int) + 1 : Int)).toNat s0 a b d a hG0 f0 (by first | exact x_rb b_a rfl rfl | exact ⟨by omega, by omega⟩) (by first | exact x_rb b_b rfl rfl | exact ⟨by omega, by omega⟩) (by first | exact x_rb b_d rfl rfl | exact ⟨by omega, by omega⟩) (by first | exact x_rb b_a rfl rfl | exact ⟨by omega, by omega⟩)  (by omega)
    · rw [e_z51]
      show xe none 143 15 [(0, .ref 256), (1, vi a), (2, vi b), (3, vi d)] [vi 0] s0 0 0 _
      refine x_if_eq k143_15 (t := 22) rfl ⟨by decide, by decide⟩ (fun c54 => ?_) (fun c54 => by exfalso; omega)
      refine x_A k143_22 (fun _ => rfl) ?_
      refine x_istore k143_23 (ls' := [(4, vi (-1)), (0, .ref 256), (1, vi a), (2, vi b), (3, vi d)]) (by decide) rfl ?_
      refine x_ls (l := [(0, .ref 256), (1, vi a), (2, vi b), (3, vi d), (4, vi (-1))]) (show ([0, 1, 2, 3, 4] : List Nat).Nodup from by decide +kernel) ⟨rfl, rfl, rfl, rfl, rfl, trivial⟩ ?_
      exact L_C_X11_isBelow_256_25 s0 hJ0 rk hrk  ((((rkm (rk d) (-1) : Nat) : Int) + 1 : Int)).toNat s0 a b d (-1) hG0 f0 (by first | exact x_rb b_a rfl rfl | exact ⟨by omega, by omega⟩) (by first | exact x_rb b_b rfl rfl | exact ⟨by omega, by omega⟩) (by first | exact x_rb b_d rfl rfl | exact ⟨by omega, by omega⟩) ⟨by decide, by decide⟩  (by omega)
  · rw [e_z48]
    show xe none 143 6 [(0, .ref 256), (1, vi a), (2, vi b), (3, vi d)] [vi 0] s0 0 0 _
    refine x_if_eq k143_6 (t := 22) rfl ⟨by decide, by decide⟩ (fun c55 => ?_) (fun c55 => by exfalso; omega)
    refine x_A k143_22 (fun _ => rfl) ?_
    refine x_istore k143_23 (ls' := [(4, vi (-1)), (0, .ref 256), (1, vi a), (2, vi b), (3, vi d)]) (by decide) rfl ?_
    refine x_ls (l := [(0, .ref 256), (1, vi a), (2, vi b), (3, vi d), (4, vi (-1))]) (show ([0, 1, 2, 3, 4] : List Nat).Nodup from by decide +kernel) ⟨rfl, rfl, rfl, rfl, rfl, trivial⟩ ?_
    exact L_C_X11_isBelow_256_25 s0 hJ0 rk hrk  ((((rkm (rk d) (-1) : Nat) : Int) + 1 : Int)).toNat s0 a b d (-1) hG0 f0 (by first | exact x_rb b_a rfl rfl | exact ⟨by omega, by omega⟩) (by first | exact x_rb b_b rfl rfl | exact ⟨by omega, by omega⟩) (by first | exact x_rb b_d rfl rfl | exact ⟨by omega, by omega⟩) ⟨by decide, by decide⟩  (by omega)
theorem L_C_X11_belowMany_256_5 (s0 : xS) (hJ0 : J s0)  : ∀ (n : Nat) (s : xS) (x1 : Int) (x2 : Int) (x3 : Int) (x4 : Int) (hG : GI s) (f : FL [] s0 s) (b_x1 : (-2147483648) ≤ x1 ∧ x1 ≤ 2147483647) (b_x2 : 0 ≤ x2 ∧ x2 ≤ 9) (b_x3 : 0 ≤ x3 ∧ x3 ≤ 60) (b_x4 : 0 ≤ x4 ∧ x4 ≤ 40) (r_3_4 : x3 ≤ x4 + 0)  (hm : (40 - x4) < (n : Int)), xe none 144 5 [(0, .ref 256), (1, vi x1), (2, vi x2), (3, vi x3), (4, vi x4)] [] s 0 0 (fun s' v => GI s' ∧ FL [] s0 s' ∧ ∃ z, v = some (vi z) ∧ (0 ≤ z ∧ z ≤ 40)) := by
  intro n
  induction n with
  | zero => intro s x1 x2 x3 x4 hG f b_x1 b_x2 b_x3 b_x4 r_3_4  hm; exfalso; omega
  | succ n ih =>
    intro s x1 x2 x3 x4 hG f b_x1 b_x2 b_x3 b_x4 r_3_4  hm
    refine x_A k144_5 (fun _ => rfl) ?_
    refine x_A k144_7 (fun _ => rfl) ?_
    refine x_getI k144_8 (f := 1) rfl (q := 256) (n := 62) (kd := 15) ⟨by decide, rfl⟩ (by decide) rfl ?_
    refine x_top (fun z106 e_z106 => ?_)
    have g_z106 : (1 : Int) ≤ s 256 1 ∧ s 256 1 ≤ 40 := hG 256 1
    refine x_ic_ge k144_11 (t := 39) rfl (by first | exact x_rb b_x4 rfl rfl | exact ⟨by omega, by omega⟩) (by first | exact x_rbe e_z106 g_z106 rfl rfl | exact x_rb g_z106 rfl rfl | exact ⟨by omega, by omega⟩) (fun c107 => ?_) (fun c107 => ?_)
    · skip
      refine x_A k144_39 (fun _ => rfl) ?_
      exact x_iret k144_40 rfl ⟨hG, f, x3, rfl, (by first | exact x_rb b_x3 rfl rfl | exact ⟨by omega, by omega⟩)⟩
    · skip
      refine x_A k144_14 (fun _ => rfl) ?_
      refine x_A k144_15 (fun _ => rfl) ?_
      refine x_A k144_16 (fun _ => rfl) ?_
      refine x_A k144_18 (fun _ => rfl) ?_
      refine x_A k144_19 (fun _ => rfl) ?_
      refine x_callV k144_20 (y := 143) (n := 3) (w0 := 1) (w1 := 3) (as := [vi x4, vi x1, vi x2]) (rest := [vi x3]) (by decide +kernel) (q := 256) (nq := 62) (kq := 15) ⟨by decide, rfl⟩ rfl rfl rfl rfl (xe_mono (C_X11_isBelow_256 s hG (hJ0.fl f (by decide +kernel)) x4 (by first | exact x_rb b_x4 rfl rfl | exact ⟨by omega, by omega⟩) x1 (by first | exact x_rb b_x1 rfl rfl | exact ⟨by omega, by omega⟩) x2 (by first | exact x_rb b_x2 rfl rfl | exact ⟨by omega, by omega⟩)) ?_)
      rintro s109 v ⟨-, t_s109, z108, rfl, g_z108⟩
      rw [t_s109.nil]
      show xe none 144 23 [(0, .ref 256), (1, vi x1), (2, vi x2), (3, vi x3), (4, vi x4)] [vi z108, vi x3] s 0 0 _
      refine x_if_eq k144_23 (t := 30) rfl (by first | exact x_rbe e_z108 g_z108 rfl rfl | exact x_rb g_z108 rfl rfl | exact ⟨by omega, by omega⟩) (fun c110 => ?_) (fun c110 => ?_)
      · skip
        refine x_A k144_30 (fun _ => rfl) ?_
        refine x_iadd k144_31 ?_
        refine x_top (fun z111 e_z111 => ?_)
        refine x_istore_n k144_32 (ls' := [(3, vi z111), (0, .ref 256), (1, vi x1), (2, vi x2), (4, vi x4)]) (by decide) rfl ?_
        refine x_iinc k144_33 (ls' := [(4, vi (x4 + 1)), (3, vi z111), (0, .ref 256), (1, vi x1), (2, vi x2)]) rfl (by decide) rfl ?_
        refine x_goto k144_36 (t := 5) rfl ?_
        refine x_ls (l := [(0, .ref 256), (1, vi x1), (2, vi x2), (3, vi z111), (4, vi (x4 + 1))]) (show ([0, 1, 2, 3, 4] : List Nat).Nodup from by decide +kernel) ⟨rfl, rfl, rfl, rfl, rfl, trivial⟩ ?_
        exact ih s x1 x2 z111 (x4 + 1) hG f (by first | exact x_rb b_x1 rfl rfl | exact ⟨by omega, by omega⟩) (by first | exact x_rb b_x2 rfl rfl | exact ⟨by omega, by omega⟩) (by first | exact x_rbe e_z111 g_z111 rfl rfl | exact x_rb g_z111 rfl rfl | exact ⟨by omega, by omega⟩) ⟨by omega, by omega⟩ (by omega)  (by omega)
      · skip
        refine x_A k144_26 (fun _ => rfl) ?_
        refine x_goto k144_27 (t := 31) rfl ?_
        refine x_iadd k144_31 ?_
        refine x_top (fun z112 e_z112 => ?_)
        refine x_istore_n k144_32 (ls' := [(3, vi z112), (0, .ref 256), (1, vi x1), (2, vi x2), (4, vi x4)]) (by decide) rfl ?_
        refine x_iinc k144_33 (ls' := [(4, vi (x4 + 1)), (3, vi z112), (0, .ref 256), (1, vi x1), (2, vi x2)]) rfl (by decide) rfl ?_
        refine x_goto k144_36 (t := 5) rfl ?_
        refine x_ls (l := [(0, .ref 256), (1, vi x1), (2, vi x2), (3, vi z112), (4, vi (x4 + 1))]) (show ([0, 1, 2, 3, 4] : List Nat).Nodup from by decide +kernel) ⟨rfl, rfl, rfl, rfl, rfl, trivial⟩ ?_
        exact ih s x1 x2 z112 (x4 + 1) hG f (by first | exact x_rb b_x1 rfl rfl | exact ⟨by omega, by omega⟩) (by first | exact x_rb b_x2 rfl rfl | exact ⟨by omega, by omega⟩) (by first | exact x_rbe e_z112 g_z112 rfl rfl | exact x_rb g_z112 rfl rfl | exact ⟨by omega, by omega⟩) ⟨by omega, by omega⟩ (by omega)  (by omega)
theorem C_X11_belowMany_256 (s0 : xS) (hG0 : GI s0) (hJ0 : J s0) (a : Int) (b_a : (-2147483648) ≤ a ∧ a ≤ 2147483647) (b : Int) (b_b : 0 ≤ b ∧ b ≤ 9) : xe none 144 0 (lv_args 0 [.ref 256, vi a, vi b]) [] s0 0 0 (fun s' v => GI s' ∧ FL [] s0 s' ∧ ∃ z, v = some (vi z) ∧ (0 ≤ z ∧ z ≤ 40)) := by
  have f0 : FL [] s0 s0 := FL.rf
  show xe none 144 0 [(0, .ref 256), (1, vi a), (2, vi b)] [] s0 0 0 _
  refine x_A k144_0 (fun _ => rfl) ?_
  refine x_istore_n k144_1 (ls' := [(3, vi 0), (0, .ref 256), (1, vi a), (2, vi b)]) (by decide) rfl ?_
  refine x_A k144_2 (fun _ => rfl) ?_
  refine x_istore k144_3 (ls' := [(4, vi 0), (3, vi 0), (0, .ref 256), (1, vi a), (2, vi b)]) (by decide) rfl ?_
  refine x_ls (l := [(0, .ref 256), (1, vi a), (2, vi b), (3, vi 0), (4, vi 0)]) (show ([0, 1, 2, 3, 4] : List Nat).Nodup from by decide +kernel) ⟨rfl, rfl, rfl, rfl, rfl, trivial⟩ ?_
  exact L_C_X11_belowMany_256_5 s0 hJ0  (((40 - 0) + 1 : Int)).toNat s0 a b 0 0 hG0 f0 (by first | exact x_rb b_a rfl rfl | exact ⟨by omega, by omega⟩) (by first | exact x_rb b_b rfl rfl | exact ⟨by omega, by omega⟩) ⟨by decide, by decide⟩ ⟨by decide, by decide⟩ (by omega)  (by omega)
theorem L_C_X11_ruleOf_256_2 (s0 : xS) (hJ0 : J s0) (a : Int) (b_a : 0 ≤ a ∧ a ≤ 63) (pa : a < s0 256 20)  : ∀ (n : Nat) (s : xS) (x1 : Int) (x2 : Int) (x1000 : Int) (x1001 : Int) (hG : GI s) (f : FL [] s0 s) (b_x1 : 0 ≤ x1 ∧ x1 ≤ 63) (b_x2 : 0 ≤ x2 ∧ x2 ≤ 8) (b_x1000 : 0 ≤ x1000 ∧ x1000 ≤ 8) (b_x1001 : 0 ≤ x1001 ∧ x1001 ≤ 64) (w_0 : x2 < x1000) (w_1 : x1 < x1001) (e_x1000 : x1000 = s 256 17) (e_x1001 : x1001 = s 256 20)  (hm : (10 - x2) < (n : Int)), xe none 161 2 [(0, .ref 256), (1, vi x1), (2, vi x2)] [] s 0 0 (fun s' v => GI s' ∧ FL [] s0 s' ∧ ∃ z, v = some (vi z) ∧ (0 ≤ z ∧ z ≤ 7)) := by
  intro n
  induction n with
  | zero => intro s x1 x2 x1000 x1001 hG f b_x1 b_x2 b_x1000 b_x1001 w_0 w_1 e_x1000 e_x1001  hm; exfalso; omega
  | succ n ih =>
    intro s x1 x2 x1000 x1001 hG f b_x1 b_x2 b_x1000 b_x1001 w_0 w_1 e_x1000 e_x1001  hm
    refine x_A k161_2 (fun _ => rfl) ?_
    refine x_A k161_3 (fun _ => rfl) ?_
    refine x_getR k161_4 (f := 19) rfl (q := 256) (n := 62) (kd := 15) ⟨by decide, rfl⟩ (q2 := 271) (by decide) rfl ?_
    refine x_A k161_7 (fun _ => rfl) ?_
    refine x_A k161_8 (fun _ => rfl) ?_
    refine x_iadd k161_9 ?_
    refine x_top (fun z44 e_z44 => ?_)
    refine x_iald k161_10 (q := 271) (n := 9) ⟨by decide, rfl⟩ (by decide) (by first | exact x_rbel e_z44 g_z44 rfl rfl | exact x_rbl g_z44 rfl rfl | exact ⟨by omega, by omega⟩) ?_
    refine x_top (fun z45 e_z45 => ?_)
    have g_z45 : (0 : Int) ≤ s 271 z44.toNat ∧ s 271 z44.toNat ≤ 64 := hG 271 z44.toNat
    refine x_ic_lt k161_11 (t := 20) rfl (by first | exact x_rb b_x1 rfl rfl | exact ⟨by omega, by omega⟩) (by first | exact x_rbe e_z45 g_z45 rfl rfl | exact x_rb g_z45 rfl rfl | exact ⟨by omega, by omega⟩) (fun c46 => ?_) (fun c46 => ?_)
    · skip
      refine x_A k161_20 (fun _ => rfl) ?_
      exact x_iret k161_21 rfl ⟨hG, f, x2, rfl, (by first | exact x_rb b_x2 rfl rfl | exact ⟨by omega, by omega⟩)⟩
    · skip
      have j_z45 := (hJ0.fl f (by decide +kernel)).rf z44 z45 (e_z45.symm).symm
      refine x_iinc k161_14 (ls' := [(2, vi (x2 + 1)), (0, .ref 256), (1, vi x1)]) rfl (by decide) rfl ?_
      refine x_goto k161_17 (t := 2) rfl ?_
      refine x_ls (l := [(0, .ref 256), (1, vi x1), (2, vi (x2 + 1))]) (show ([0, 1, 2] : List Nat).Nodup from by decide +kernel) ⟨rfl, rfl, rfl, trivial⟩ ?_
      exact ih s x1 (x2 + 1) x1000 x1001 hG f (by first | exact x_rb b_x1 rfl rfl | exact ⟨by omega, by omega⟩) ⟨by omega, by omega⟩ (by first | exact x_rb b_x1000 rfl rfl | exact ⟨by omega, by omega⟩) (by first | exact x_rb b_x1001 rfl rfl | exact ⟨by omega, by omega⟩) (by omega) (by omega) (e_x1000.symm).symm (e_x1001.symm).symm  (by omega)
theorem C_X11_ruleOf_256 (s0 : xS) (hG0 : GI s0) (hJ0 : J s0) (a : Int) (b_a : 0 ≤ a ∧ a ≤ 63) (pa : a < s0 256 20) : xe none 161 0 (lv_args 0 [.ref 256, vi a]) [] s0 0 0 (fun s' v => GI s' ∧ FL [] s0 s' ∧ ∃ z, v = some (vi z) ∧ (0 ≤ z ∧ z ≤ 7)) := by
  have f0 : FL [] s0 s0 := FL.rf
  show xe none 161 0 [(0, .ref 256), (1, vi a)] [] s0 0 0 _
  have jc := hJ0.cl
  refine x_A k161_0 (fun _ => rfl) ?_
  refine x_istore_n k161_1 (ls' := [(2, vi 0), (0, .ref 256), (1, vi a)]) (by decide) rfl ?_
  obtain ⟨z47, e_z47⟩ : ∃ z, z = s0 256 17 := ⟨_, rfl⟩
  have g_z47 : (0 : Int) ≤ s0 256 17 ∧ s0 256 17 ≤ 8 := hG0 256 17
  obtain ⟨z48, e_z48⟩ : ∃ z, z = s0 256 20 := ⟨_, rfl⟩
  have g_z48 : (0 : Int) ≤ s0 256 20 ∧ s0 256 20 ≤ 64 := hG0 256 20
  refine x_ls (l := [(0, .ref 256), (1, vi a), (2, vi 0)]) (show ([0, 1, 2] : List Nat).Nodup from by decide +kernel) ⟨rfl, rfl, rfl, trivial⟩ ?_
  exact L_C_X11_ruleOf_256_2 s0 hJ0 a b_a pa  (((10 - 0) + 1 : Int)).toNat s0 a 0 z47 z48 hG0 f0 (by first | exact x_rb b_a rfl rfl | exact ⟨by omega, by omega⟩) ⟨by decide, by decide⟩ (by first | exact x_rbe e_z47 g_z47 rfl rfl | exact x_rb g_z47 rfl rfl | exact ⟨by omega, by omega⟩) (by first | exact x_rbe e_z48 g_z48 rfl rfl | exact x_rb g_z48 rfl rfl | exact ⟨by omega, by omega⟩) (by omega) (by omega) (e_z47.symm).symm (e_z48.symm).symm  (by omega)
theorem C_X11_holds_256 (s0 : xS) (hG0 : GI s0) (hJ0 : J s0) (a : Int) (b_a : 0 ≤ a ∧ a ≤ 63) (b : Int) (b_b : (-2147483648) ≤ b ∧ b ≤ 2147483647) (pa : a < s0 256 20) : xe none 162 0 (lv_args 0 [.ref 256, vi a, vi b]) [] s0 0 0 (fun s' v => GI s' ∧ FL [] s0 s' ∧ ∃ z, v = some (vi z) ∧ (0 ≤ z ∧ z ≤ 1)) := by
  have f0 : FL [] s0 s0 := FL.rf
  show xe none 162 0 [(0, .ref 256), (1, vi a), (2, vi b)] [] s0 0 0 _
  refine x_A k162_0 (fun _ => rfl) ?_
  refine x_getR k162_1 (f := 21) rfl (q := 256) (n := 62) (kd := 15) ⟨by decide, rfl⟩ (q2 := 272) (by decide) rfl ?_
  refine x_A k162_4 (fun _ => rfl) ?_
  refine x_iald k162_5 (q := 272) (n := 72) ⟨by decide, rfl⟩ (by decide) (by first | exact x_rbl b_a rfl rfl | exact ⟨by omega, by omega⟩) ?_
  refine x_top (fun z1 e_z1 => ?_)
  have g_z1 : (0 : Int) ≤ s0 272 a.toNat ∧ s0 272 a.toNat ≤ 5 := hG0 272 a.toNat
  refine x_A k162_6 (fun _ => rfl) ?_
  refine x_ic_ne k162_7 (t := 27) rfl (by first | exact x_rbe e_z1 g_z1 rfl rfl | exact x_rb g_z1 rfl rfl | exact ⟨by omega, by omega⟩) (by first | exact x_rb b_b rfl rfl | exact ⟨by omega, by omega⟩) (fun c2 => ?_) (fun c2 => ?_)
  · skip
    refine x_A k162_27 (fun _ => rfl) ?_
    exact x_zret k162_28 rfl ⟨by omega, by omega⟩ ⟨hG0, f0, 0, rfl, ⟨by decide, by decide⟩⟩
  · skip
    refine x_A k162_10 (fun _ => rfl) ?_
    refine x_getR k162_11 (f := 24) rfl (q := 256) (n := 62) (kd := 15) ⟨by decide, rfl⟩ (q2 := 275) (by decide) rfl ?_
    refine x_A k162_14 (fun _ => rfl) ?_
    refine x_A k162_15 (fun _ => rfl) ?_
    refine x_callV k162_16 (y := 161) (n := 1) (w0 := 1) (w1 := 1) (as := [vi a]) (rest := [.ref 275]) (by decide +kernel) (q := 256) (nq := 62) (kq := 15) ⟨by decide, rfl⟩ rfl rfl rfl rfl (xe_mono (C_X11_ruleOf_256 s0 hG0 (hJ0.fl f0 (by decide +kernel)) a (by first | exact x_rb b_a rfl rfl | exact ⟨by omega, by omega⟩) (by omega)) ?_)
    rintro s4 v ⟨-, t_s4, z3, rfl, g_z3⟩
    rw [t_s4.nil]
    show xe none 162 19 [(0, .ref 256), (1, vi a), (2, vi b)] [vi z3, .ref 275] s0 0 0 _
    refine x_bald k162_19 (q := 275) (n := 8) ⟨by decide, rfl⟩ (by decide) (by first | exact x_rbel e_z3 g_z3 rfl rfl | exact x_rbl g_z3 rfl rfl | exact ⟨by omega, by omega⟩) ?_
    refine x_top (fun z5 e_z5 => ?_)
    have g_z5 : (0 : Int) ≤ s0 275 z3.toNat ∧ s0 275 z3.toNat ≤ 1 := hG0 275 z3.toNat
    refine x_if_eq k162_20 (t := 27) rfl (by first | exact x_rbe e_z5 g_z5 rfl rfl | exact x_rb g_z5 rfl rfl | exact ⟨by omega, by omega⟩) (fun c6 => ?_) (fun c6 => ?_)
    · skip
      refine x_A k162_27 (fun _ => rfl) ?_
      exact x_zret k162_28 rfl ⟨by omega, by omega⟩ ⟨hG0, f0, 0, rfl, ⟨by decide, by decide⟩⟩
    · skip
      refine x_A k162_23 (fun _ => rfl) ?_
      refine x_goto k162_24 (t := 28) rfl ?_
      exact x_zret k162_28 rfl ⟨by omega, by omega⟩ ⟨hG0, f0, 1, rfl, ⟨by decide, by decide⟩⟩
theorem L_C_X11_findRules_256_146 (s0 : xS) (hJ0 : J s0) (n_123 : Nat) (ih_123 : ∀ (s : xS) (x1 : Int) (x2 : Int) (hG : GI s) (f : FL [5312, 5376, 4123] s0 s) (b_x1 : 0 ≤ x1 ∧ x1 ≤ 9) (b_x2 : 0 ≤ x2 ∧ x2 ≤ 10) (hm : (10 - x2) < (n_123 : Int)), xe none 160 123 [(0, .ref 256), (1, vi x1), (2, vi x2)] [] s 0 0 (fun s' v => GI s' ∧ FL [5312, 5376, 4123] s0 s' ∧ v = none)) (n_130 : Nat) (ih_130 : ∀ (s : xS) (x1 : Int) (x2 : Int) (x3 : Int) (hG : GI s) (f : FL [5312, 5376, 4123] s0 s) (b_x1 : 0 ≤ x1 ∧ x1 ≤ 9) (b_x2 : 0 ≤ x2 ∧ x2 ≤ 9) (b_x3 : 0 ≤ x3 ∧ x3 ≤ 8) (r_2_1 : x2 ≤ x1 + 0) (k_123 : (10 - x2) < (n_123 : Int) + 1) (hm : (8 - x3) < (n_130 : Int)), xe none 160 130 [(0, .ref 256), (1, vi x1), (2, vi x2), (3, vi x3)] [] s 0 0 (fun s' v => GI s' ∧ FL [5312, 5376, 4123] s0 s' ∧ v = none)) : ∀ (n : Nat) (s : xS) (x1 : Int) (x2 : Int) (x3 : Int) (x4 : Int) (hG : GI s) (f : FL [5312, 5376, 4123] s0 s) (b_x1 : 0 ≤ x1 ∧ x1 ≤ 9) (b_x2 : 0 ≤ x2 ∧ x2 ≤ 9) (b_x3 : 0 ≤ x3 ∧ x3 ≤ 7) (b_x4 : 0 ≤ x4 ∧ x4 ≤ 64) (r_2_1 : x2 ≤ x1 + 0) (k_123 : (10 - x2) < (n_123 : Int) + 1) (k_130 : (8 - x3) < (n_130 : Int) + 1) (hm : (64 - x4) < (n : Int)), xe none 160 146 [(0, .ref 256), (1, vi x1), (2, vi x2), (3, vi x3), (4, vi x4)] [] s 0 0 (fun s' v => GI s' ∧ FL [5312, 5376, 4123] s0 s' ∧ v = none) := by
  intro n
  induction n with
  | zero => intro s x1 x2 x3 x4 hG f b_x1 b_x2 b_x3 b_x4 r_2_1 k_123 k_130 hm; exfalso; omega
  | succ n ih =>
    intro s x1 x2 x3 x4 hG f b_x1 b_x2 b_x3 b_x4 r_2_1 k_123 k_130 hm
    refine x_A k160_146 (fun _ => rfl) ?_
    refine x_A k160_148 (fun _ => rfl) ?_
    refine x_getR k160_149 (f := 19) rfl (q := 256) (n := 62) (kd := 15) ⟨by decide, rfl⟩ (q2 := 271) (by decide) rfl ?_
    refine x_A k160_152 (fun _ => rfl) ?_
    refine x_A k160_153 (fun _ => rfl) ?_
    refine x_iadd k160_154 ?_
    refine x_top (fun z1219 e_z1219 => ?_)
    refine x_iald k160_155 (q := 271) (n := 9) ⟨by decide, rfl⟩ (by decide) (by first | exact x_rbel e_z1219 g_z1219 rfl rfl | exact x_rbl g_z1219 rfl rfl | exact ⟨by omega, by omega⟩) ?_
    refine x_top (fun z1220 e_z1220 => ?_)
    have g_z1220 : (0 : Int) ≤ s 271 z1219.toNat ∧ s 271 z1219.toNat ≤ 64 := hG 271 z1219.toNat
    refine x_ic_ge k160_156 (t := 242) rfl (by first | exact x_rb b_x4 rfl rfl | exact ⟨by omega, by omega⟩) (by first | exact x_rbe e_z1220 g_z1220 rfl rfl | exact x_rb g_z1220 rfl rfl | exact ⟨by omega, by omega⟩) (fun c1221 => ?_) (fun c1221 => ?_)
    · skip
      refine x_iinc k160_242 (ls' := [(3, vi (x3 + 1)), (0, .ref 256), (1, vi x1), (2, vi x2), (4, vi x4)]) rfl (by decide) rfl ?_
      refine x_goto k160_245 (t := 130) rfl ?_
      refine x_ls (l := [(0, .ref 256), (1, vi x1), (2, vi x2), (3, vi (x3 + 1))]) (show ([0, 1, 2, 3] : List Nat).Nodup from by decide +kernel) ⟨rfl, rfl, rfl, rfl, trivial⟩ ?_
      exact ih_130 s x1 x2 (x3 + 1) hG f (by first | exact x_rb b_x1 rfl rfl | exact ⟨by omega, by omega⟩) (by first | exact x_rb b_x2 rfl rfl | exact ⟨by omega, by omega⟩) ⟨by omega, by omega⟩ (by omega) (by omega) (by omega)
    · skip
      refine x_A k160_159 (fun _ => rfl) ?_
      refine x_getR k160_160 (f := 24) rfl (q := 256) (n := 62) (kd := 15) ⟨by decide, rfl⟩ (q2 := 275) (by decide) rfl ?_
      refine x_A k160_163 (fun _ => rfl) ?_
      refine x_bald k160_164 (q := 275) (n := 8) ⟨by decide, rfl⟩ (by decide) (by first | exact x_rbl b_x3 rfl rfl | exact ⟨by omega, by omega⟩) ?_
      refine x_top (fun z1222 e_z1222 => ?_)
      have g_z1222 : (0 : Int) ≤ s 275 x3.toNat ∧ s 275 x3.toNat ≤ 1 := hG 275 x3.toNat
      refine x_if_eq k160_165 (t := 242) rfl (by first | exact x_rbe e_z1222 g_z1222 rfl rfl | exact x_rb g_z1222 rfl rfl | exact ⟨by omega, by omega⟩) (fun c1223 => ?_) (fun c1223 => ?_)
      · skip
        refine x_iinc k160_242 (ls' := [(3, vi (x3 + 1)), (0, .ref 256), (1, vi x1), (2, vi x2), (4, vi x4)]) rfl (by decide) rfl ?_
        refine x_goto k160_245 (t := 130) rfl ?_
        refine x_ls (l := [(0, .ref 256), (1, vi x1), (2, vi x2), (3, vi (x3 + 1))]) (show ([0, 1, 2, 3] : List Nat).Nodup from by decide +kernel) ⟨rfl, rfl, rfl, rfl, trivial⟩ ?_
        exact ih_130 s x1 x2 (x3 + 1) hG f (by first | exact x_rb b_x1 rfl rfl | exact ⟨by omega, by omega⟩) (by first | exact x_rb b_x2 rfl rfl | exact ⟨by omega, by omega⟩) ⟨by omega, by omega⟩ (by omega) (by omega) (by omega)
      · skip
        refine x_A k160_168 (fun _ => rfl) ?_
        refine x_getR k160_169 (f := 18) rfl (q := 256) (n := 62) (kd := 15) ⟨by decide, rfl⟩ (q2 := 270) (by decide) rfl ?_
        refine x_A k160_172 (fun _ => rfl) ?_
        refine x_iald k160_173 (q := 270) (n := 8) ⟨by decide, rfl⟩ (by decide) (by first | exact x_rbl b_x3 rfl rfl | exact ⟨by omega, by omega⟩) ?_
        refine x_top (fun z1224 e_z1224 => ?_)
        have g_z1224 : (0 : Int) ≤ s 270 x3.toNat ∧ s 270 x3.toNat ≤ 9 := hG 270 x3.toNat
        refine x_A k160_174 (fun _ => rfl) ?_
        refine x_ic_ne k160_175 (t := 242) rfl (by first | exact x_rbe e_z1224 g_z1224 rfl rfl | exact x_rb g_z1224 rfl rfl | exact ⟨by omega, by omega⟩) (by first | exact x_rb b_x2 rfl rfl | exact ⟨by omega, by omega⟩) (fun c1225 => ?_) (fun c1225 => ?_)
        · skip
          refine x_iinc k160_242 (ls' := [(3, vi (x3 + 1)), (0, .ref 256), (1, vi x1), (2, vi x2), (4, vi x4)]) rfl (by decide) rfl ?_
          refine x_goto k160_245 (t := 130) rfl ?_
          refine x_ls (l := [(0, .ref 256), (1, vi x1), (2, vi x2), (3, vi (x3 + 1))]) (show ([0, 1, 2, 3] : List Nat).Nodup from by decide +kernel) ⟨rfl, rfl, rfl, rfl, trivial⟩ ?_
          exact ih_130 s x1 x2 (x3 + 1) hG f (by first | exact x_rb b_x1 rfl rfl | exact ⟨by omega, by omega⟩) (by first | exact x_rb b_x2 rfl rfl | exact ⟨by omega, by omega⟩) ⟨by omega, by omega⟩ (by omega) (by omega) (by omega)
        · skip
          refine x_A k160_178 (fun _ => rfl) ?_
          refine x_getR k160_179 (f := 21) rfl (q := 256) (n := 62) (kd := 15) ⟨by decide, rfl⟩ (q2 := 272) (by decide) rfl ?_
          refine x_A k160_182 (fun _ => rfl) ?_
          refine x_iald k160_184 (q := 272) (n := 72) ⟨by decide, rfl⟩ (by decide) (by first | exact x_rbl b_x4 rfl rfl | exact ⟨by omega, by omega⟩) ?_
          refine x_top (fun z1226 e_z1226 => ?_)
          have g_z1226 : (0 : Int) ≤ s 272 x4.toNat ∧ s 272 x4.toNat ≤ 5 := hG 272 x4.toNat
          refine x_if_ne k160_185 (t := 207) rfl (by first | exact x_rbe e_z1226 g_z1226 rfl rfl | exact x_rb g_z1226 rfl rfl | exact ⟨by omega, by omega⟩) (fun c1227 => ?_) (fun c1227 => ?_)
          · skip
            refine x_A k160_207 (fun _ => rfl) ?_
            refine x_A k160_208 (fun _ => rfl) ?_
            refine x_getR k160_209 (f := 21) rfl (q := 256) (n := 62) (kd := 15) ⟨by decide, rfl⟩ (q2 := 272) (by decide) rfl ?_
            refine x_A k160_212 (fun _ => rfl) ?_
            refine x_iald k160_214 (q := 272) (n := 72) ⟨by decide, rfl⟩ (by decide) (by first | exact x_rbl b_x4 rfl rfl | exact ⟨by omega, by omega⟩) ?_
            rw [e_z1226.symm]
            refine x_A k160_215 (fun _ => rfl) ?_
            refine x_ic_ne k160_216 (t := 229) rfl (by first | exact x_rbe e_z1226 g_z1226 rfl rfl | exact x_rb g_z1226 rfl rfl | exact ⟨by omega, by omega⟩) ⟨by decide, by decide⟩ (fun c1228 => ?_) (fun c1228 => ?_)
            · skip
              refine x_A k160_229 (fun _ => rfl) ?_
              refine x_getI k160_230 (f := 26) rfl (q := 256) (n := 62) (kd := 15) ⟨by decide, rfl⟩ (by decide) rfl ?_
              refine x_top (fun z1229 e_z1229 => ?_)
              have g_z1229 : (-2147483648) ≤ s 256 26 ∧ s 256 26 ≤ 2147483647 := hG 256 26
              refine x_putI k160_233 (f := 26) rfl (q := 256) (n := 62) (kd := 15) ⟨by decide, rfl⟩ rfl rfl rfl ?_
              refine x_nh (fun s1230 e_s1230 => ?_)
              have hG_s1230 : GI s1230 := by rw [e_s1230]; exact hG.up (show (-2147483648) ≤ z1229 ∧ z1229 ≤ 2147483647 from (by first | exact x_rbe e_z1229 g_z1229 rfl rfl | exact x_rb g_z1229 rfl rfl | exact ⟨by omega, by omega⟩))
              have f_s1230 : FL [5312, 5376, 4123] s0 s1230 := by rw [e_s1230]; exact f.up (show 4123 ∈ [5312, 5376, 4123] from by decide +kernel)
              have q1231 : s1230 256 26 = z1229 := by rw [e_s1230]; exact x_up_same
              have q1232 : s1230 271 z1219.toNat = z1220 := by rw [e_s1230, x_up_q (by first | decide | omega)]; exact e_z1220.symm
              have q1233 : s1230 275 x3.toNat = z1222 := by rw [e_s1230, x_up_q (by first | decide | omega)]; exact e_z1222.symm
              have q1234 : s1230 270 x3.toNat = z1224 := by rw [e_s1230, x_up_q (by first | decide | omega)]; exact e_z1224.symm
              have q1235 : s1230 272 x4.toNat = z1226 := by rw [e_s1230, x_up_q (by first | decide | omega)]; exact e_z1226.symm
              refine x_iinc k160_236 (ls' := [(4, vi (x4 + 1)), (0, .ref 256), (1, vi x1), (2, vi x2), (3, vi x3)]) rfl (by decide) rfl ?_
              refine x_goto k160_239 (t := 146) rfl ?_
              refine x_ls (l := [(0, .ref 256), (1, vi x1), (2, vi x2), (3, vi x3), (4, vi (x4 + 1))]) (show ([0, 1, 2, 3, 4] : List Nat).Nodup from by decide +kernel) ⟨rfl, rfl, rfl, rfl, rfl, trivial⟩ ?_
              exact ih s1230 x1 x2 x3 (x4 + 1) hG_s1230 f_s1230 (by first | exact x_rb b_x1 rfl rfl | exact ⟨by omega, by omega⟩) (by first | exact x_rb b_x2 rfl rfl | exact ⟨by omega, by omega⟩) (by first | exact x_rb b_x3 rfl rfl | exact ⟨by omega, by omega⟩) ⟨by omega, by omega⟩ (by omega) (by omega) (by omega) (by omega)
            · skip
              refine x_A k160_219 (fun _ => rfl) ?_
              refine x_getR k160_220 (f := 22) rfl (q := 256) (n := 62) (kd := 15) ⟨by decide, rfl⟩ (q2 := 273) (by decide) rfl ?_
              refine x_A k160_223 (fun _ => rfl) ?_
              refine x_iald k160_225 (q := 273) (n := 72) ⟨by decide, rfl⟩ (by decide) (by first | exact x_rbl b_x4 rfl rfl | exact ⟨by omega, by omega⟩) ?_
              refine x_top (fun z1236 e_z1236 => ?_)
              have g_z1236 : (-2147483648) ≤ s 273 x4.toNat ∧ s 273 x4.toNat ≤ 2147483647 := hG 273 x4.toNat
              refine x_goto k160_226 (t := 233) rfl ?_
              refine x_putI k160_233 (f := 26) rfl (q := 256) (n := 62) (kd := 15) ⟨by decide, rfl⟩ rfl rfl rfl ?_
              refine x_nh (fun s1237 e_s1237 => ?_)
              have hG_s1237 : GI s1237 := by rw [e_s1237]; exact hG.up (show (-2147483648) ≤ z1236 ∧ z1236 ≤ 2147483647 from (by first | exact x_rbe e_z1236 g_z1236 rfl rfl | exact x_rb g_z1236 rfl rfl | exact ⟨by omega, by omega⟩))
              have f_s1237 : FL [5312, 5376, 4123] s0 s1237 := by rw [e_s1237]; exact f.up (show 4123 ∈ [5312, 5376, 4123] from by decide +kernel)
              have q1238 : s1237 256 26 = z1236 := by rw [e_s1237]; exact x_up_same
              have q1239 : s1237 271 z1219.toNat = z1220 := by rw [e_s1237, x_up_q (by first | decide | omega)]; exact e_z1220.symm
              have q1240 : s1237 275 x3.toNat = z1222 := by rw [e_s1237, x_up_q (by first | decide | omega)]; exact e_z1222.symm
              have q1241 : s1237 270 x3.toNat = z1224 := by rw [e_s1237, x_up_q (by first | decide | omega)]; exact e_z1224.symm
              have q1242 : s1237 272 x4.toNat = z1226 := by rw [e_s1237, x_up_q (by first | decide | omega)]; exact e_z1226.symm
              have q1243 : s1237 273 x4.toNat = z1236 := by rw [e_s1237, x_up_q (by first | decide | omega)]; exact e_z1236.symm
              refine x_iinc k160_236 (ls' := [(4, vi (x4 + 1)), (0, .ref 256), (1, vi x1), (2, vi x2), (3, vi x3)]) rfl (by decide) rfl ?_
              refine x_goto k160_239 (t := 146) rfl ?_
              refine x_ls (l := [(0, .ref 256), (1, vi x1), (2, vi x2), (3, vi x3), (4, vi (x4 + 1))]) (show ([0, 1, 2, 3, 4] : List Nat).Nodup from by decide +kernel) ⟨rfl, rfl, rfl, rfl, rfl, trivial⟩ ?_
              exact ih s1237 x1 x2 x3 (x4 + 1) hG_s1237 f_s1237 (by first | exact x_rb b_x1 rfl rfl | exact ⟨by omega, by omega⟩) (by first | exact x_rb b_x2 rfl rfl | exact ⟨by omega, by omega⟩) (by first | exact x_rb b_x3 rfl rfl | exact ⟨by omega, by omega⟩) ⟨by omega, by omega⟩ (by omega) (by omega) (by omega) (by omega)
          · skip
            refine x_A k160_188 (fun _ => rfl) ?_
            refine x_getR k160_189 (f := 25) rfl (q := 256) (n := 62) (kd := 15) ⟨by decide, rfl⟩ (q2 := 276) (by decide) rfl ?_
            refine x_A k160_192 (fun _ => rfl) ?_
            refine x_getR k160_193 (f := 22) rfl (q := 256) (n := 62) (kd := 15) ⟨by decide, rfl⟩ (q2 := 273) (by decide) rfl ?_
            refine x_A k160_196 (fun _ => rfl) ?_
            refine x_iald k160_198 (q := 273) (n := 72) ⟨by decide, rfl⟩ (by decide) (by first | exact x_rbl b_x4 rfl rfl | exact ⟨by omega, by omega⟩) ?_
            refine x_top (fun z1244 e_z1244 => ?_)
            have g_z1244 : (-2147483648) ≤ s 273 x4.toNat ∧ s 273 x4.toNat ≤ 2147483647 := hG 273 x4.toNat
            have sn1245 := (hJ0.fl f (by decide +kernel)).sn x4 z1219 ⟨by omega, by omega⟩ (by omega) (by rw [e_z1220.symm]; omega)
            rw [e_z1226.symm, e_z1244.symm] at sn1245
            refine x_A k160_199 (fun _ => rfl) ?_
            refine x_getR k160_200 (f := 23) rfl (q := 256) (n := 62) (kd := 15) ⟨by decide, rfl⟩ (q2 := 274) (by decide) rfl ?_
            refine x_A k160_203 (fun _ => rfl) ?_
            refine x_iald k160_205 (q := 274) (n := 72) ⟨by decide, rfl⟩ (by decide) (by first | exact x_rbl b_x4 rfl rfl | exact ⟨by omega, by omega⟩) ?_
            refine x_top (fun z1246 e_z1246 => ?_)
            have g_z1246 : (-2147483648) ≤ s 274 x4.toNat ∧ s 274 x4.toNat ≤ 2147483647 := hG 274 x4.toNat
            refine x_iast k160_206 (q := 276) (n := 6) ⟨by decide, rfl⟩ (by decide) (by first | exact x_rbel e_z1244 g_z1244 rfl rfl | exact x_rbl g_z1244 rfl rfl | exact ⟨by omega, by omega⟩) ?_
            refine x_nh (fun s1247 e_s1247 => ?_)
            have hG_s1247 : GI s1247 := by rw [e_s1247]; exact hG.up (show (-2147483648) ≤ z1246 ∧ z1246 ≤ 2147483647 from (by first | exact x_rbe e_z1246 g_z1246 rfl rfl | exact x_rb g_z1246 rfl rfl | exact ⟨by omega, by omega⟩))
            have f_s1247 : FL [5312, 5376, 4123] s0 s1247 := by rw [e_s1247]; exact f.up (show 5376 ∈ [5312, 5376, 4123] from by decide +kernel)
            have q1248 : s1247 271 z1219.toNat = z1220 := by rw [e_s1247, x_up_q (by first | decide | omega)]; exact e_z1220.symm
            have q1249 : s1247 275 x3.toNat = z1222 := by rw [e_s1247, x_up_q (by first | decide | omega)]; exact e_z1222.symm
            have q1250 : s1247 270 x3.toNat = z1224 := by rw [e_s1247, x_up_q (by first | decide | omega)]; exact e_z1224.symm
            have q1251 : s1247 272 x4.toNat = z1226 := by rw [e_s1247, x_up_q (by first | decide | omega)]; exact e_z1226.symm
            have q1252 : s1247 273 x4.toNat = z1244 := by rw [e_s1247, x_up_q (by first | decide | omega)]; exact e_z1244.symm
            have q1253 : s1247 274 x4.toNat = z1246 := by rw [e_s1247, x_up_q (by first | decide | omega)]; exact e_z1246.symm
            have q1254 : s1247 276 z1244.toNat = z1246 := by rw [e_s1247]; exact x_up_same
            refine x_A k160_207 (fun _ => rfl) ?_
            refine x_A k160_208 (fun _ => rfl) ?_
            refine x_getR k160_209 (f := 21) rfl (q := 256) (n := 62) (kd := 15) ⟨by decide, rfl⟩ (q2 := 272) (by decide) rfl ?_
            refine x_A k160_212 (fun _ => rfl) ?_
            refine x_iald k160_214 (q := 272) (n := 72) ⟨by decide, rfl⟩ (by decide) (by first | exact x_rbl b_x4 rfl rfl | exact ⟨by omega, by omega⟩) ?_
            rw [q1251]
            refine x_A k160_215 (fun _ => rfl) ?_
            refine x_ic_ne k160_216 (t := 229) rfl (by first | exact x_rbe e_z1226 g_z1226 rfl rfl | exact x_rb g_z1226 rfl rfl | exact ⟨by omega, by omega⟩) ⟨by decide, by decide⟩ (fun c1255 => ?_) (fun c1255 => by exfalso; omega)
            refine x_A k160_229 (fun _ => rfl) ?_
            refine x_getI k160_230 (f := 26) rfl (q := 256) (n := 62) (kd := 15) ⟨by decide, rfl⟩ (by decide) rfl ?_
            refine x_top (fun z1256 e_z1256 => ?_)
            have g_z1256 : (-2147483648) ≤ s1247 256 26 ∧ s1247 256 26 ≤ 2147483647 := hG_s1247 256 26
            refine x_putI k160_233 (f := 26) rfl (q := 256) (n := 62) (kd := 15) ⟨by decide, rfl⟩ rfl rfl rfl ?_
            refine x_nh (fun s1257 e_s1257 => ?_)
            have hG_s1257 : GI s1257 := by rw [e_s1257]; exact hG_s1247.up (show (-2147483648) ≤ z1256 ∧ z1256 ≤ 2147483647 from (by first | exact x_rbe e_z1256 g_z1256 rfl rfl | exact x_rb g_z1256 rfl rfl | exact ⟨by omega, by omega⟩))
            have f_s1257 : FL [5312, 5376, 4123] s0 s1257 := by rw [e_s1257]; exact f_s1247.up (show 4123 ∈ [5312, 5376, 4123] from by decide +kernel)
            have q1258 : s1257 256 26 = z1256 := by rw [e_s1257]; exact x_up_same
            have q1259 : s1257 271 z1219.toNat = z1220 := by rw [e_s1257, x_up_q (by first | decide | omega)]; exact q1248
            have q1260 : s1257 275 x3.toNat = z1222 := by rw [e_s1257, x_up_q (by first | decide | omega)]; exact q1249
            have q1261 : s1257 270 x3.toNat = z1224 := by rw [e_s1257, x_up_q (by first | decide | omega)]; exact q1250
            have q1262 : s1257 272 x4.toNat = z1226 := by rw [e_s1257, x_up_q (by first | decide | omega)]; exact q1251
            have q1263 : s1257 273 x4.toNat = z1244 := by rw [e_s1257, x_up_q (by first | decide | omega)]; exact q1252
            have q1264 : s1257 274 x4.toNat = z1246 := by rw [e_s1257, x_up_q (by first | decide | omega)]; exact q1253
            have q1265 : s1257 276 z1244.toNat = z1246 := by rw [e_s1257, x_up_q (by first | decide | omega)]; exact q1254
            refine x_iinc k160_236 (ls' := [(4, vi (x4 + 1)), (0, .ref 256), (1, vi x1), (2, vi x2), (3, vi x3)]) rfl (by decide) rfl ?_
            refine x_goto k160_239 (t := 146) rfl ?_
            refine x_ls (l := [(0, .ref 256), (1, vi x1), (2, vi x2), (3, vi x3), (4, vi (x4 + 1))]) (show ([0, 1, 2, 3, 4] : List Nat).Nodup from by decide +kernel) ⟨rfl, rfl, rfl, rfl, rfl, trivial⟩ ?_
            exact ih s1257 x1 x2 x3 (x4 + 1) hG_s1257 f_s1257 (by first | exact x_rb b_x1 rfl rfl | exact ⟨by omega, by omega⟩) (by first | exact x_rb b_x2 rfl rfl | exact ⟨by omega, by omega⟩) (by first | exact x_rb b_x3 rfl rfl | exact ⟨by omega, by omega⟩) ⟨by omega, by omega⟩ (by omega) (by omega) (by omega) (by omega)
theorem L_C_X11_findRules_256_130 (s0 : xS) (hJ0 : J s0) (n_123 : Nat) (ih_123 : ∀ (s : xS) (x1 : Int) (x2 : Int) (hG : GI s) (f : FL [5312, 5376, 4123] s0 s) (b_x1 : 0 ≤ x1 ∧ x1 ≤ 9) (b_x2 : 0 ≤ x2 ∧ x2 ≤ 10) (hm : (10 - x2) < (n_123 : Int)), xe none 160 123 [(0, .ref 256), (1, vi x1), (2, vi x2)] [] s 0 0 (fun s' v => GI s' ∧ FL [5312, 5376, 4123] s0 s' ∧ v = none)) : ∀ (n : Nat) (s : xS) (x1 : Int) (x2 : Int) (x3 : Int) (hG : GI s) (f : FL [5312, 5376, 4123] s0 s) (b_x1 : 0 ≤ x1 ∧ x1 ≤ 9) (b_x2 : 0 ≤ x2 ∧ x2 ≤ 9) (b_x3 : 0 ≤ x3 ∧ x3 ≤ 8) (r_2_1 : x2 ≤ x1 + 0) (k_123 : (10 - x2) < (n_123 : Int) + 1) (hm : (8 - x3) < (n : Int)), xe none 160 130 [(0, .ref 256), (1, vi x1), (2, vi x2), (3, vi x3)] [] s 0 0 (fun s' v => GI s' ∧ FL [5312, 5376, 4123] s0 s' ∧ v = none) := by
  intro n
  induction n with
  | zero => intro s x1 x2 x3 hG f b_x1 b_x2 b_x3 r_2_1 k_123 hm; exfalso; omega
  | succ n ih =>
    intro s x1 x2 x3 hG f b_x1 b_x2 b_x3 r_2_1 k_123 hm
    refine x_A k160_130 (fun _ => rfl) ?_
    refine x_A k160_131 (fun _ => rfl) ?_
    refine x_getI k160_132 (f := 17) rfl (q := 256) (n := 62) (kd := 15) ⟨by decide, rfl⟩ (by decide) rfl ?_
    refine x_top (fun z1266 e_z1266 => ?_)
    have g_z1266 : (0 : Int) ≤ s 256 17 ∧ s 256 17 ≤ 8 := hG 256 17
    refine x_ic_ge k160_135 (t := 248) rfl (by first | exact x_rb b_x3 rfl rfl | exact ⟨by omega, by omega⟩) (by first | exact x_rbe e_z1266 g_z1266 rfl rfl | exact x_rb g_z1266 rfl rfl | exact ⟨by omega, by omega⟩) (fun c1267 => ?_) (fun c1267 => ?_)
    · skip
      refine x_iinc k160_248 (ls' := [(2, vi (x2 + 1)), (0, .ref 256), (1, vi x1), (3, vi x3)]) rfl (by decide) rfl ?_
      refine x_goto k160_251 (t := 123) rfl ?_
      refine x_ls (l := [(0, .ref 256), (1, vi x1), (2, vi (x2 + 1))]) (show ([0, 1, 2] : List Nat).Nodup from by decide +kernel) ⟨rfl, rfl, rfl, trivial⟩ ?_
      exact ih_123 s x1 (x2 + 1) hG f (by first | exact x_rb b_x1 rfl rfl | exact ⟨by omega, by omega⟩) ⟨by omega, by omega⟩ (by omega)
    · skip
      refine x_A k160_138 (fun _ => rfl) ?_
      refine x_getR k160_139 (f := 19) rfl (q := 256) (n := 62) (kd := 15) ⟨by decide, rfl⟩ (q2 := 271) (by decide) rfl ?_
      refine x_A k160_142 (fun _ => rfl) ?_
      refine x_iald k160_143 (q := 271) (n := 9) ⟨by decide, rfl⟩ (by decide) (by first | exact x_rbl b_x3 rfl rfl | exact ⟨by omega, by omega⟩) ?_
      refine x_top (fun z1268 e_z1268 => ?_)
      have g_z1268 : (0 : Int) ≤ s 271 x3.toNat ∧ s 271 x3.toNat ≤ 64 := hG 271 x3.toNat
      refine x_istore k160_144 (ls' := [(4, vi z1268), (0, .ref 256), (1, vi x1), (2, vi x2), (3, vi x3)]) (by decide) rfl ?_
      refine x_ls (l := [(0, .ref 256), (1, vi x1), (2, vi x2), (3, vi x3), (4, vi z1268)]) (show ([0, 1, 2, 3, 4] : List Nat).Nodup from by decide +kernel) ⟨rfl, rfl, rfl, rfl, rfl, trivial⟩ ?_
      exact L_C_X11_findRules_256_146 s0 hJ0 n_123 ih_123 n ih (((64 - z1268) + 1 : Int)).toNat s x1 x2 x3 z1268 hG f (by first | exact x_rb b_x1 rfl rfl | exact ⟨by omega, by omega⟩) (by first | exact x_rb b_x2 rfl rfl | exact ⟨by omega, by omega⟩) (by first | exact x_rb b_x3 rfl rfl | exact ⟨by omega, by omega⟩) (by first | exact x_rbe e_z1268 g_z1268 rfl rfl | exact x_rb g_z1268 rfl rfl | exact ⟨by omega, by omega⟩) (by omega) (by omega) (by omega) (by omega)
theorem L_C_X11_findRules_256_123 (s0 : xS) (hJ0 : J s0)  : ∀ (n : Nat) (s : xS) (x1 : Int) (x2 : Int) (hG : GI s) (f : FL [5312, 5376, 4123] s0 s) (b_x1 : 0 ≤ x1 ∧ x1 ≤ 9) (b_x2 : 0 ≤ x2 ∧ x2 ≤ 10)  (hm : (10 - x2) < (n : Int)), xe none 160 123 [(0, .ref 256), (1, vi x1), (2, vi x2)] [] s 0 0 (fun s' v => GI s' ∧ FL [5312, 5376, 4123] s0 s' ∧ v = none) := by
  intro n
  induction n with
  | zero => intro s x1 x2 hG f b_x1 b_x2  hm; exfalso; omega
  | succ n ih =>
    intro s x1 x2 hG f b_x1 b_x2  hm
    refine x_A k160_123 (fun _ => rfl) ?_
    refine x_A k160_124 (fun _ => rfl) ?_
    refine x_ic_gt k160_125 (t := 254) rfl (by first | exact x_rb b_x2 rfl rfl | exact ⟨by omega, by omega⟩) (by first | exact x_rb b_x1 rfl rfl | exact ⟨by omega, by omega⟩) (fun c1269 => ?_) (fun c1269 => ?_)
    · skip
      exact x_vret k160_254 rfl ⟨hG, f, rfl⟩
    · skip
      refine x_A k160_128 (fun _ => rfl) ?_
      refine x_istore_n k160_129 (ls' := [(3, vi 0), (0, .ref 256), (1, vi x1), (2, vi x2)]) (by decide) rfl ?_
      refine x_ls (l := [(0, .ref 256), (1, vi x1), (2, vi x2), (3, vi 0)]) (show ([0, 1, 2, 3] : List Nat).Nodup from by decide +kernel) ⟨rfl, rfl, rfl, rfl, trivial⟩ ?_
      exact L_C_X11_findRules_256_130 s0 hJ0 n (fun s x1 x2 hG f b_x1 b_x2 hm => ih s x1 x2 hG f b_x1 b_x2  hm) (((8 - 0) + 1 : Int)).toNat s x1 x2 0 hG f (by first | exact x_rb b_x1 rfl rfl | exact ⟨by omega, by omega⟩) (by first | exact x_rb b_x2 rfl rfl | exact ⟨by omega, by omega⟩) ⟨by decide, by decide⟩ (by omega) (by omega) (by omega)
theorem L_C_X11_findRules_256_96 (s0 : xS) (hJ0 : J s0)  : ∀ (n : Nat) (s : xS) (x1 : Int) (x2 : Int) (hG : GI s) (f : FL [5312, 5376, 4123] s0 s) (b_x1 : 0 ≤ x1 ∧ x1 ≤ 9) (b_x2 : 0 ≤ x2 ∧ x2 ≤ 6)  (hm : (6 - x2) < (n : Int)), xe none 160 96 [(0, .ref 256), (1, vi x1), (2, vi x2)] [] s 0 0 (fun s' v => GI s' ∧ FL [5312, 5376, 4123] s0 s' ∧ v = none) := by
  intro n
  induction n with
  | zero => intro s x1 x2 hG f b_x1 b_x2  hm; exfalso; omega
  | succ n ih =>
    intro s x1 x2 hG f b_x1 b_x2  hm
    refine x_A k160_96 (fun _ => rfl) ?_
    refine x_bipush k160_97 (by decide +kernel) ?_
    refine x_ic_ge k160_99 (t := 115) rfl (by first | exact x_rb b_x2 rfl rfl | exact ⟨by omega, by omega⟩) ⟨by decide, by decide⟩ (fun c1270 => ?_) (fun c1270 => ?_)
    · skip
      refine x_A k160_115 (fun _ => rfl) ?_
      refine x_bipush k160_116 (by decide +kernel) ?_
      refine x_putI k160_118 (f := 26) rfl (q := 256) (n := 62) (kd := 15) ⟨by decide, rfl⟩ rfl rfl rfl ?_
      refine x_nh (fun s1271 e_s1271 => ?_)
      have hG_s1271 : GI s1271 := by rw [e_s1271]; exact hG.up (show (-2147483648) ≤ 20 ∧ 20 ≤ 2147483647 from ⟨by decide, by decide⟩)
      have f_s1271 : FL [5312, 5376, 4123] s0 s1271 := by rw [e_s1271]; exact f.up (show 4123 ∈ [5312, 5376, 4123] from by decide +kernel)
      have q1272 : s1271 256 26 = 20 := by rw [e_s1271]; exact x_up_same
      refine x_A k160_121 (fun _ => rfl) ?_
      refine x_istore_n k160_122 (ls' := [(2, vi 0), (0, .ref 256), (1, vi x1)]) (by decide) rfl ?_
      refine x_ls (l := [(0, .ref 256), (1, vi x1), (2, vi 0)]) (show ([0, 1, 2] : List Nat).Nodup from by decide +kernel) ⟨rfl, rfl, rfl, trivial⟩ ?_
      exact L_C_X11_findRules_256_123 s0 hJ0  (((10 - 0) + 1 : Int)).toNat s1271 x1 0 hG_s1271 f_s1271 (by first | exact x_rb b_x1 rfl rfl | exact ⟨by omega, by omega⟩) ⟨by decide, by decide⟩  (by omega)
    · skip
      refine x_A k160_102 (fun _ => rfl) ?_
      refine x_getR k160_103 (f := 25) rfl (q := 256) (n := 62) (kd := 15) ⟨by decide, rfl⟩ (q2 := 276) (by decide) rfl ?_
      refine x_A k160_106 (fun _ => rfl) ?_
      refine x_A k160_107 (fun _ => rfl) ?_
      refine x_iast k160_108 (q := 276) (n := 6) ⟨by decide, rfl⟩ (by decide) (by first | exact x_rbl b_x2 rfl rfl | exact ⟨by omega, by omega⟩) ?_
      refine x_nh (fun s1273 e_s1273 => ?_)
      have hG_s1273 : GI s1273 := by rw [e_s1273]; exact hG.up (show (-2147483648) ≤ 0 ∧ 0 ≤ 2147483647 from ⟨by decide, by decide⟩)
      have f_s1273 : FL [5312, 5376, 4123] s0 s1273 := by rw [e_s1273]; exact f.up (show 5376 ∈ [5312, 5376, 4123] from by decide +kernel)
      have q1274 : s1273 276 x2.toNat = 0 := by rw [e_s1273]; exact x_up_same
      refine x_iinc k160_109 (ls' := [(2, vi (x2 + 1)), (0, .ref 256), (1, vi x1)]) rfl (by decide) rfl ?_
      refine x_goto k160_112 (t := 96) rfl ?_
      refine x_ls (l := [(0, .ref 256), (1, vi x1), (2, vi (x2 + 1))]) (show ([0, 1, 2] : List Nat).Nodup from by decide +kernel) ⟨rfl, rfl, rfl, trivial⟩ ?_
      exact ih s1273 x1 (x2 + 1) hG_s1273 f_s1273 (by first | exact x_rb b_x1 rfl rfl | exact ⟨by omega, by omega⟩) ⟨by omega, by omega⟩  (by omega)
theorem L_C_X11_findRules_256_36 (s0 : xS) (hJ0 : J s0) (n_7 : Nat) (ih_7 : ∀ (s : xS) (x1 : Int) (x2 : Int) (hG : GI s) (f : FL [5312, 5376, 4123] s0 s) (b_x1 : 0 ≤ x1 ∧ x1 ≤ 9) (b_x2 : (-1) ≤ x2 ∧ x2 ≤ 7) (hm : (x2 - (-1)) < (n_7 : Int)), xe none 160 7 [(0, .ref 256), (1, vi x1), (2, vi x2)] [] s 0 0 (fun s' v => GI s' ∧ FL [5312, 5376, 4123] s0 s' ∧ v = none)) : ∀ (n : Nat) (s : xS) (x1 : Int) (x2 : Int) (x3 : Int) (hG : GI s) (f : FL [5312, 5376, 4123] s0 s) (b_x1 : 0 ≤ x1 ∧ x1 ≤ 9) (b_x2 : 0 ≤ x2 ∧ x2 ≤ 7) (b_x3 : 1 ≤ x3 ∧ x3 ≤ 8) (r_2_3 : x2 ≤ x3 + 0) (k_7 : (x2 - (-1)) < (n_7 : Int) + 1) (hm : (8 - x3) < (n : Int)), xe none 160 36 [(0, .ref 256), (1, vi x1), (2, vi x2), (3, vi x3)] [] s 0 0 (fun s' v => GI s' ∧ FL [5312, 5376, 4123] s0 s' ∧ v = none) := by
  intro n
  induction n with
  | zero => intro s x1 x2 x3 hG f b_x1 b_x2 b_x3 r_2_3 k_7 hm; exfalso; omega
  | succ n ih =>
    intro s x1 x2 x3 hG f b_x1 b_x2 b_x3 r_2_3 k_7 hm
    refine x_A k160_36 (fun _ => rfl) ?_
    refine x_A k160_37 (fun _ => rfl) ?_
    refine x_getI k160_38 (f := 17) rfl (q := 256) (n := 62) (kd := 15) ⟨by decide, rfl⟩ (by decide) rfl ?_
    refine x_top (fun z1275 e_z1275 => ?_)
    have g_z1275 : (0 : Int) ≤ s 256 17 ∧ s 256 17 ≤ 8 := hG 256 17
    refine x_ic_ge k160_41 (t := 88) rfl (by first | exact x_rb b_x3 rfl rfl | exact ⟨by omega, by omega⟩) (by first | exact x_rbe e_z1275 g_z1275 rfl rfl | exact x_rb g_z1275 rfl rfl | exact ⟨by omega, by omega⟩) (fun c1276 => ?_) (fun c1276 => ?_)
    · skip
      refine x_iinc k160_88 (ls' := [(2, vi (x2 + (-1))), (0, .ref 256), (1, vi x1), (3, vi x3)]) rfl (by decide) rfl ?_
      refine x_goto k160_91 (t := 7) rfl ?_
      refine x_ls (l := [(0, .ref 256), (1, vi x1), (2, vi (x2 + (-1)))]) (show ([0, 1, 2] : List Nat).Nodup from by decide +kernel) ⟨rfl, rfl, rfl, trivial⟩ ?_
      exact ih_7 s x1 (x2 + (-1)) hG f (by first | exact x_rb b_x1 rfl rfl | exact ⟨by omega, by omega⟩) ⟨by omega, by omega⟩ (by omega)
    · skip
      refine x_A k160_44 (fun _ => rfl) ?_
      refine x_getR k160_45 (f := 24) rfl (q := 256) (n := 62) (kd := 15) ⟨by decide, rfl⟩ (q2 := 275) (by decide) rfl ?_
      refine x_A k160_48 (fun _ => rfl) ?_
      refine x_A k160_49 (fun _ => rfl) ?_
      refine x_getR k160_50 (f := 24) rfl (q := 256) (n := 62) (kd := 15) ⟨by decide, rfl⟩ (q2 := 275) (by decide) rfl ?_
      refine x_A k160_53 (fun _ => rfl) ?_
      refine x_bald k160_54 (q := 275) (n := 8) ⟨by decide, rfl⟩ (by decide) (by first | exact x_rbl b_x2 rfl rfl | exact ⟨by omega, by omega⟩) ?_
      refine x_top (fun z1277 e_z1277 => ?_)
      have g_z1277 : (0 : Int) ≤ s 275 x2.toNat ∧ s 275 x2.toNat ≤ 1 := hG 275 x2.toNat
      refine x_if_eq k160_55 (t := 80) rfl (by first | exact x_rbe e_z1277 g_z1277 rfl rfl | exact x_rb g_z1277 rfl rfl | exact ⟨by omega, by omega⟩) (fun c1278 => ?_) (fun c1278 => ?_)
      · skip
        refine x_A k160_80 (fun _ => rfl) ?_
        refine x_bast k160_81 (q := 275) (n := 8) ⟨by decide, rfl⟩ (by decide) (by first | exact x_rbl b_x2 rfl rfl | exact ⟨by omega, by omega⟩) ⟨by omega, by omega⟩ ?_
        refine x_nh (fun s1279 e_s1279 => ?_)
        have hG_s1279 : GI s1279 := by rw [e_s1279]; exact hG.up (show 0 ≤ 0 ∧ 0 ≤ 1 from ⟨by decide, by decide⟩)
        have f_s1279 : FL [5312, 5376, 4123] s0 s1279 := by rw [e_s1279]; exact f.up (show 5312 ∈ [5312, 5376, 4123] from by decide +kernel)
        have q1280 : s1279 256 17 = z1275 := by rw [e_s1279, x_up_q (by decide)]; exact e_z1275.symm
        have q1281 : s1279 275 x2.toNat = 0 := by rw [e_s1279]; exact x_up_same
        refine x_iinc k160_82 (ls' := [(3, vi (x3 + 1)), (0, .ref 256), (1, vi x1), (2, vi x2)]) rfl (by decide) rfl ?_
        refine x_goto k160_85 (t := 36) rfl ?_
        refine x_ls (l := [(0, .ref 256), (1, vi x1), (2, vi x2), (3, vi (x3 + 1))]) (show ([0, 1, 2, 3] : List Nat).Nodup from by decide +kernel) ⟨rfl, rfl, rfl, rfl, trivial⟩ ?_
        exact ih s1279 x1 x2 (x3 + 1) hG_s1279 f_s1279 (by first | exact x_rb b_x1 rfl rfl | exact ⟨by omega, by omega⟩) (by first | exact x_rb b_x2 rfl rfl | exact ⟨by omega, by omega⟩) ⟨by omega, by omega⟩ (by omega) (by omega) (by omega)
      · skip
        refine x_A k160_58 (fun _ => rfl) ?_
        refine x_getR k160_59 (f := 24) rfl (q := 256) (n := 62) (kd := 15) ⟨by decide, rfl⟩ (q2 := 275) (by decide) rfl ?_
        refine x_A k160_62 (fun _ => rfl) ?_
        refine x_bald k160_63 (q := 275) (n := 8) ⟨by decide, rfl⟩ (by decide) (by first | exact x_rbl b_x3 rfl rfl | exact ⟨by omega, by omega⟩) ?_
        refine x_top (fun z1282 e_z1282 => ?_)
        have g_z1282 : (0 : Int) ≤ s 275 x3.toNat ∧ s 275 x3.toNat ≤ 1 := hG 275 x3.toNat
        refine x_if_eq k160_64 (t := 76) rfl (by first | exact x_rbe e_z1282 g_z1282 rfl rfl | exact x_rb g_z1282 rfl rfl | exact ⟨by omega, by omega⟩) (fun c1283 => ?_) (fun c1283 => ?_)
        · skip
          refine x_A k160_76 (fun _ => rfl) ?_
          refine x_goto k160_77 (t := 81) rfl ?_
          refine x_bast k160_81 (q := 275) (n := 8) ⟨by decide, rfl⟩ (by decide) (by first | exact x_rbl b_x2 rfl rfl | exact ⟨by omega, by omega⟩) ⟨by omega, by omega⟩ ?_
          refine x_nh (fun s1284 e_s1284 => ?_)
          have hG_s1284 : GI s1284 := by rw [e_s1284]; exact hG.up (show 0 ≤ 1 ∧ 1 ≤ 1 from ⟨by decide, by decide⟩)
          have f_s1284 : FL [5312, 5376, 4123] s0 s1284 := by rw [e_s1284]; exact f.up (show 5312 ∈ [5312, 5376, 4123] from by decide +kernel)
          have q1285 : s1284 256 17 = z1275 := by rw [e_s1284, x_up_q (by decide)]; exact e_z1275.symm
          have q1286 : s1284 275 x2.toNat = 1 := by rw [e_s1284]; exact x_up_same
          refine x_iinc k160_82 (ls' := [(3, vi (x3 + 1)), (0, .ref 256), (1, vi x1), (2, vi x2)]) rfl (by decide) rfl ?_
          refine x_goto k160_85 (t := 36) rfl ?_
          refine x_ls (l := [(0, .ref 256), (1, vi x1), (2, vi x2), (3, vi (x3 + 1))]) (show ([0, 1, 2, 3] : List Nat).Nodup from by decide +kernel) ⟨rfl, rfl, rfl, rfl, trivial⟩ ?_
          exact ih s1284 x1 x2 (x3 + 1) hG_s1284 f_s1284 (by first | exact x_rb b_x1 rfl rfl | exact ⟨by omega, by omega⟩) (by first | exact x_rb b_x2 rfl rfl | exact ⟨by omega, by omega⟩) ⟨by omega, by omega⟩ (by omega) (by omega) (by omega)
        · skip
          refine x_A k160_67 (fun _ => rfl) ?_
          refine x_A k160_68 (fun _ => rfl) ?_
          refine x_A k160_69 (fun _ => rfl) ?_
          refine x_callV k160_70 (y := 159) (n := 2) (w0 := 2) (w1 := 2) (as := [vi x3, vi x2]) (rest := [vi x2, .ref 275]) (by decide +kernel) (q := 256) (nq := 62) (kq := 15) ⟨by decide, rfl⟩ rfl rfl rfl rfl (xe_mono (C_X11_strikes_256 s hG x3 (by first | exact x_rb b_x3 rfl rfl | exact ⟨by omega, by omega⟩) x2 (by first | exact x_rb b_x2 rfl rfl | exact ⟨by omega, by omega⟩)) ?_)
          rintro s1288 v ⟨-, t_s1288, z1287, rfl, g_z1287⟩
          rw [t_s1288.nil]
          show xe none 160 73 [(0, .ref 256), (1, vi x1), (2, vi x2), (3, vi x3)] [vi z1287, vi x2, .ref 275] s 0 0 _
          refine x_if_ne k160_73 (t := 80) rfl (by first | exact x_rbe e_z1287 g_z1287 rfl rfl | exact x_rb g_z1287 rfl rfl | exact ⟨by omega, by omega⟩) (fun c1289 => ?_) (fun c1289 => ?_)
          · skip
            refine x_A k160_80 (fun _ => rfl) ?_
            refine x_bast k160_81 (q := 275) (n := 8) ⟨by decide, rfl⟩ (by decide) (by first | exact x_rbl b_x2 rfl rfl | exact ⟨by omega, by omega⟩) ⟨by omega, by omega⟩ ?_
            refine x_nh (fun s1290 e_s1290 => ?_)
            have hG_s1290 : GI s1290 := by rw [e_s1290]; exact hG.up (show 0 ≤ 0 ∧ 0 ≤ 1 from ⟨by decide, by decide⟩)
            have f_s1290 : FL [5312, 5376, 4123] s0 s1290 := by rw [e_s1290]; exact f.up (show 5312 ∈ [5312, 5376, 4123] from by decide +kernel)
            have q1291 : s1290 256 17 = z1275 := by rw [e_s1290, x_up_q (by decide)]; exact e_z1275.symm
            have q1292 : s1290 275 x2.toNat = 0 := by rw [e_s1290]; exact x_up_same
            refine x_iinc k160_82 (ls' := [(3, vi (x3 + 1)), (0, .ref 256), (1, vi x1), (2, vi x2)]) rfl (by decide) rfl ?_
            refine x_goto k160_85 (t := 36) rfl ?_
            refine x_ls (l := [(0, .ref 256), (1, vi x1), (2, vi x2), (3, vi (x3 + 1))]) (show ([0, 1, 2, 3] : List Nat).Nodup from by decide +kernel) ⟨rfl, rfl, rfl, rfl, trivial⟩ ?_
            exact ih s1290 x1 x2 (x3 + 1) hG_s1290 f_s1290 (by first | exact x_rb b_x1 rfl rfl | exact ⟨by omega, by omega⟩) (by first | exact x_rb b_x2 rfl rfl | exact ⟨by omega, by omega⟩) ⟨by omega, by omega⟩ (by omega) (by omega) (by omega)
          · skip
            refine x_A k160_76 (fun _ => rfl) ?_
            refine x_goto k160_77 (t := 81) rfl ?_
            refine x_bast k160_81 (q := 275) (n := 8) ⟨by decide, rfl⟩ (by decide) (by first | exact x_rbl b_x2 rfl rfl | exact ⟨by omega, by omega⟩) ⟨by omega, by omega⟩ ?_
            refine x_nh (fun s1293 e_s1293 => ?_)
            have hG_s1293 : GI s1293 := by rw [e_s1293]; exact hG.up (show 0 ≤ 1 ∧ 1 ≤ 1 from ⟨by decide, by decide⟩)
            have f_s1293 : FL [5312, 5376, 4123] s0 s1293 := by rw [e_s1293]; exact f.up (show 5312 ∈ [5312, 5376, 4123] from by decide +kernel)
            have q1294 : s1293 256 17 = z1275 := by rw [e_s1293, x_up_q (by decide)]; exact e_z1275.symm
            have q1295 : s1293 275 x2.toNat = 1 := by rw [e_s1293]; exact x_up_same
            refine x_iinc k160_82 (ls' := [(3, vi (x3 + 1)), (0, .ref 256), (1, vi x1), (2, vi x2)]) rfl (by decide) rfl ?_
            refine x_goto k160_85 (t := 36) rfl ?_
            refine x_ls (l := [(0, .ref 256), (1, vi x1), (2, vi x2), (3, vi (x3 + 1))]) (show ([0, 1, 2, 3] : List Nat).Nodup from by decide +kernel) ⟨rfl, rfl, rfl, rfl, trivial⟩ ?_
            exact ih s1293 x1 x2 (x3 + 1) hG_s1293 f_s1293 (by first | exact x_rb b_x1 rfl rfl | exact ⟨by omega, by omega⟩) (by first | exact x_rb b_x2 rfl rfl | exact ⟨by omega, by omega⟩) ⟨by omega, by omega⟩ (by omega) (by omega) (by omega)
theorem L_C_X11_findRules_256_7 (s0 : xS) (hJ0 : J s0)  : ∀ (n : Nat) (s : xS) (x1 : Int) (x2 : Int) (hG : GI s) (f : FL [5312, 5376, 4123] s0 s) (b_x1 : 0 ≤ x1 ∧ x1 ≤ 9) (b_x2 : (-1) ≤ x2 ∧ x2 ≤ 7)  (hm : (x2 - (-1)) < (n : Int)), xe none 160 7 [(0, .ref 256), (1, vi x1), (2, vi x2)] [] s 0 0 (fun s' v => GI s' ∧ FL [5312, 5376, 4123] s0 s' ∧ v = none) := by
  intro n
  induction n with
  | zero => intro s x1 x2 hG f b_x1 b_x2  hm; exfalso; omega
  | succ n ih =>
    intro s x1 x2 hG f b_x1 b_x2  hm
    refine x_A k160_7 (fun _ => rfl) ?_
    refine x_if_lt k160_8 (t := 94) rfl (by first | exact x_rb b_x2 rfl rfl | exact ⟨by omega, by omega⟩) (fun c1296 => ?_) (fun c1296 => ?_)
    · skip
      refine x_A k160_94 (fun _ => rfl) ?_
      refine x_istore_n k160_95 (ls' := [(2, vi 0), (0, .ref 256), (1, vi x1)]) (by decide) rfl ?_
      refine x_ls (l := [(0, .ref 256), (1, vi x1), (2, vi 0)]) (show ([0, 1, 2] : List Nat).Nodup from by decide +kernel) ⟨rfl, rfl, rfl, trivial⟩ ?_
      exact L_C_X11_findRules_256_96 s0 hJ0  (((6 - 0) + 1 : Int)).toNat s x1 0 hG f (by first | exact x_rb b_x1 rfl rfl | exact ⟨by omega, by omega⟩) ⟨by decide, by decide⟩  (by omega)
    · skip
      refine x_A k160_11 (fun _ => rfl) ?_
      refine x_getR k160_12 (f := 24) rfl (q := 256) (n := 62) (kd := 15) ⟨by decide, rfl⟩ (q2 := 275) (by decide) rfl ?_
      refine x_A k160_15 (fun _ => rfl) ?_
      refine x_A k160_16 (fun _ => rfl) ?_
      refine x_getR k160_17 (f := 18) rfl (q := 256) (n := 62) (kd := 15) ⟨by decide, rfl⟩ (q2 := 270) (by decide) rfl ?_
      refine x_A k160_20 (fun _ => rfl) ?_
      refine x_iald k160_21 (q := 270) (n := 8) ⟨by decide, rfl⟩ (by decide) (by first | exact x_rbl b_x2 rfl rfl | exact ⟨by omega, by omega⟩) ?_
      refine x_top (fun z1297 e_z1297 => ?_)
      have g_z1297 : (0 : Int) ≤ s 270 x2.toNat ∧ s 270 x2.toNat ≤ 9 := hG 270 x2.toNat
      refine x_A k160_22 (fun _ => rfl) ?_
      refine x_ic_gt k160_23 (t := 30) rfl (by first | exact x_rbe e_z1297 g_z1297 rfl rfl | exact x_rb g_z1297 rfl rfl | exact ⟨by omega, by omega⟩) (by first | exact x_rb b_x1 rfl rfl | exact ⟨by omega, by omega⟩) (fun c1298 => ?_) (fun c1298 => ?_)
      · skip
        refine x_A k160_30 (fun _ => rfl) ?_
        refine x_bast k160_31 (q := 275) (n := 8) ⟨by decide, rfl⟩ (by decide) (by first | exact x_rbl b_x2 rfl rfl | exact ⟨by omega, by omega⟩) ⟨by omega, by omega⟩ ?_
        refine x_nh (fun s1299 e_s1299 => ?_)
        have hG_s1299 : GI s1299 := by rw [e_s1299]; exact hG.up (show 0 ≤ 0 ∧ 0 ≤ 1 from ⟨by decide, by decide⟩)
        have f_s1299 : FL [5312, 5376, 4123] s0 s1299 := by rw [e_s1299]; exact f.up (show 5312 ∈ [5312, 5376, 4123] from by decide +kernel)
        have q1300 : s1299 270 x2.toNat = z1297 := by rw [e_s1299, x_up_q (by first | decide | omega)]; exact e_z1297.symm
        have q1301 : s1299 275 x2.toNat = 0 := by rw [e_s1299]; exact x_up_same
        refine x_A k160_32 (fun _ => rfl) ?_
        refine x_A k160_33 (fun _ => rfl) ?_
        refine x_iadd k160_34 ?_
        refine x_top (fun z1302 e_z1302 => ?_)
        refine x_istore_n k160_35 (ls' := [(3, vi z1302), (0, .ref 256), (1, vi x1), (2, vi x2)]) (by decide) rfl ?_
        refine x_ls (l := [(0, .ref 256), (1, vi x1), (2, vi x2), (3, vi z1302)]) (show ([0, 1, 2, 3] : List Nat).Nodup from by decide +kernel) ⟨rfl, rfl, rfl, rfl, trivial⟩ ?_
        exact L_C_X11_findRules_256_36 s0 hJ0 n (fun s x1 x2 hG f b_x1 b_x2 hm => ih s x1 x2 hG f b_x1 b_x2  hm) (((8 - z1302) + 1 : Int)).toNat s1299 x1 x2 z1302 hG_s1299 f_s1299 (by first | exact x_rb b_x1 rfl rfl | exact ⟨by omega, by omega⟩) (by first | exact x_rb b_x2 rfl rfl | exact ⟨by omega, by omega⟩) (by first | exact x_rbe e_z1302 g_z1302 rfl rfl | exact x_rb g_z1302 rfl rfl | exact ⟨by omega, by omega⟩) (by omega) (by omega) (by omega)
      · skip
        refine x_A k160_26 (fun _ => rfl) ?_
        refine x_goto k160_27 (t := 31) rfl ?_
        refine x_bast k160_31 (q := 275) (n := 8) ⟨by decide, rfl⟩ (by decide) (by first | exact x_rbl b_x2 rfl rfl | exact ⟨by omega, by omega⟩) ⟨by omega, by omega⟩ ?_
        refine x_nh (fun s1303 e_s1303 => ?_)
        have hG_s1303 : GI s1303 := by rw [e_s1303]; exact hG.up (show 0 ≤ 1 ∧ 1 ≤ 1 from ⟨by decide, by decide⟩)
        have f_s1303 : FL [5312, 5376, 4123] s0 s1303 := by rw [e_s1303]; exact f.up (show 5312 ∈ [5312, 5376, 4123] from by decide +kernel)
        have q1304 : s1303 270 x2.toNat = z1297 := by rw [e_s1303, x_up_q (by first | decide | omega)]; exact e_z1297.symm
        have q1305 : s1303 275 x2.toNat = 1 := by rw [e_s1303]; exact x_up_same
        refine x_A k160_32 (fun _ => rfl) ?_
        refine x_A k160_33 (fun _ => rfl) ?_
        refine x_iadd k160_34 ?_
        refine x_top (fun z1306 e_z1306 => ?_)
        refine x_istore_n k160_35 (ls' := [(3, vi z1306), (0, .ref 256), (1, vi x1), (2, vi x2)]) (by decide) rfl ?_
        refine x_ls (l := [(0, .ref 256), (1, vi x1), (2, vi x2), (3, vi z1306)]) (show ([0, 1, 2, 3] : List Nat).Nodup from by decide +kernel) ⟨rfl, rfl, rfl, rfl, trivial⟩ ?_
        exact L_C_X11_findRules_256_36 s0 hJ0 n (fun s x1 x2 hG f b_x1 b_x2 hm => ih s x1 x2 hG f b_x1 b_x2  hm) (((8 - z1306) + 1 : Int)).toNat s1303 x1 x2 z1306 hG_s1303 f_s1303 (by first | exact x_rb b_x1 rfl rfl | exact ⟨by omega, by omega⟩) (by first | exact x_rb b_x2 rfl rfl | exact ⟨by omega, by omega⟩) (by first | exact x_rbe e_z1306 g_z1306 rfl rfl | exact x_rb g_z1306 rfl rfl | exact ⟨by omega, by omega⟩) (by omega) (by omega) (by omega)
theorem C_X11_findRules_256 (s0 : xS) (hG0 : GI s0) (hJ0 : J s0) (a : Int) (b_a : 0 ≤ a ∧ a ≤ 9) : xe none 160 0 (lv_args 0 [.ref 256, vi a]) [] s0 0 0 (fun s' v => GI s' ∧ FL [5312, 5376, 4123] s0 s' ∧ v = none) := by
  have f0 : FL [5312, 5376, 4123] s0 s0 := FL.rf
  show xe none 160 0 [(0, .ref 256), (1, vi a)] [] s0 0 0 _
  refine x_A k160_0 (fun _ => rfl) ?_
  refine x_getI k160_1 (f := 17) rfl (q := 256) (n := 62) (kd := 15) ⟨by decide, rfl⟩ (by decide) rfl ?_
  refine x_top (fun z1307 e_z1307 => ?_)
  have g_z1307 : (0 : Int) ≤ s0 256 17 ∧ s0 256 17 ≤ 8 := hG0 256 17
  refine x_A k160_4 (fun _ => rfl) ?_
  refine x_isub k160_5 ?_
  refine x_top (fun z1308 e_z1308 => ?_)
  refine x_istore_n k160_6 (ls' := [(2, vi z1308), (0, .ref 256), (1, vi a)]) (by decide) rfl ?_
  refine x_ls (l := [(0, .ref 256), (1, vi a), (2, vi z1308)]) (show ([0, 1, 2] : List Nat).Nodup from by decide +kernel) ⟨rfl, rfl, rfl, trivial⟩ ?_
  exact L_C_X11_findRules_256_7 s0 hJ0  (((z1308 - (-1)) + 1 : Int)).toNat s0 a z1308 hG0 f0 (by first | exact x_rb b_a rfl rfl | exact ⟨by omega, by omega⟩) (by first | exact x_rbe e_z1308 g_z1308 rfl rfl | exact x_rb g_z1308 rfl rfl | exact ⟨by omega, by omega⟩)  (by omega)
theorem L_C_X11_isBarred_256_4 (s0 : xS) (hJ0 : J s0)  : ∀ (n : Nat) (s : xS) (x1 : Int) (x2 : Int) (x3 : Int) (hG : GI s) (f : FL [] s0 s) (b_x1 : (-2147483648) ≤ x1 ∧ x1 ≤ 2147483647) (b_x2 : 0 ≤ x2 ∧ x2 ≤ 1) (b_x3 : 0 ≤ x3 ∧ x3 ≤ 64) (r_2_3 : x2 ≤ x3 + 0)  (hm : (64 - x3) < (n : Int)), xe none 163 4 [(0, .ref 256), (1, vi x1), (2, vi x2), (3, vi x3)] [] s 0 0 (fun s' v => GI s' ∧ FL [] s0 s' ∧ ∃ z, v = some (vi z) ∧ (0 ≤ z ∧ z ≤ 1)) := by
  intro n
  induction n with
  | zero => intro s x1 x2 x3 hG f b_x1 b_x2 b_x3 r_2_3  hm; exfalso; omega
  | succ n ih =>
    intro s x1 x2 x3 hG f b_x1 b_x2 b_x3 r_2_3  hm
    refine x_A k163_4 (fun _ => rfl) ?_
    refine x_A k163_5 (fun _ => rfl) ?_
    refine x_getI k163_6 (f := 20) rfl (q := 256) (n := 62) (kd := 15) ⟨by decide, rfl⟩ (by decide) rfl ?_
    refine x_top (fun z337 e_z337 => ?_)
    have g_z337 : (0 : Int) ≤ s 256 20 ∧ s 256 20 ≤ 64 := hG 256 20
    refine x_ic_ge k163_9 (t := 87) rfl (by first | exact x_rb b_x3 rfl rfl | exact ⟨by omega, by omega⟩) (by first | exact x_rbe e_z337 g_z337 rfl rfl | exact x_rb g_z337 rfl rfl | exact ⟨by omega, by omega⟩) (fun c338 => ?_) (fun c338 => ?_)
    · skip
      refine x_A k163_87 (fun _ => rfl) ?_
      exact x_zret k163_88 rfl ⟨by omega, by omega⟩ ⟨hG, f, x2, rfl, (by first | exact x_rb b_x2 rfl rfl | exact ⟨by omega, by omega⟩)⟩
    · skip
      refine x_A k163_12 (fun _ => rfl) ?_
      refine x_A k163_13 (fun _ => rfl) ?_
      refine x_getR k163_14 (f := 22) rfl (q := 256) (n := 62) (kd := 15) ⟨by decide, rfl⟩ (q2 := 273) (by decide) rfl ?_
      refine x_A k163_17 (fun _ => rfl) ?_
      refine x_iald k163_18 (q := 273) (n := 72) ⟨by decide, rfl⟩ (by decide) (by first | exact x_rbl b_x3 rfl rfl | exact ⟨by omega, by omega⟩) ?_
      refine x_top (fun z339 e_z339 => ?_)
      have g_z339 : (-2147483648) ≤ s 273 x3.toNat ∧ s 273 x3.toNat ≤ 2147483647 := hG 273 x3.toNat
      refine x_ishr_any k163_19 (fun z340 g_z340 => ?_)
      unfold in32 at g_z340
      refine x_A k163_20 (fun _ => rfl) ?_
      refine x_A k163_21 (fun _ => rfl) ?_
      refine x_getR k163_22 (f := 23) rfl (q := 256) (n := 62) (kd := 15) ⟨by decide, rfl⟩ (q2 := 274) (by decide) rfl ?_
      refine x_A k163_25 (fun _ => rfl) ?_
      refine x_iald k163_26 (q := 274) (n := 72) ⟨by decide, rfl⟩ (by decide) (by first | exact x_rbl b_x3 rfl rfl | exact ⟨by omega, by omega⟩) ?_
      refine x_top (fun z341 e_z341 => ?_)
      have g_z341 : (-2147483648) ≤ s 274 x3.toNat ∧ s 274 x3.toNat ≤ 2147483647 := hG 274 x3.toNat
      refine x_ishr_any k163_27 (fun z342 g_z342 => ?_)
      unfold in32 at g_z342
      refine x_iand_any k163_28 (fun z343 g_z343 => ?_)
      unfold in32 at g_z343
      refine x_A k163_29 (fun _ => rfl) ?_
      refine x_and_mask k163_30 ⟨by omega, by omega⟩ (fun z344 g_z344 => ?_)
      refine x_A k163_31 (fun _ => rfl) ?_
      refine x_ic_ne k163_32 (t := 39) rfl (by first | exact x_rbe e_z344 g_z344 rfl rfl | exact x_rb g_z344 rfl rfl | exact ⟨by omega, by omega⟩) ⟨by decide, by decide⟩ (fun c345 => ?_) (fun c345 => ?_)
      · skip
        refine x_A k163_39 (fun _ => rfl) ?_
        refine x_istore k163_40 (ls' := [(4, vi 0), (0, .ref 256), (1, vi x1), (2, vi x2), (3, vi x3)]) (by decide) rfl ?_
        refine x_A k163_42 (fun _ => rfl) ?_
        refine x_if_ne k163_43 (t := 75) rfl (by first | exact x_rb b_x2 rfl rfl | exact ⟨by omega, by omega⟩) (fun c346 => ?_) (fun c346 => ?_)
        · skip
          refine x_A k163_75 (fun _ => rfl) ?_
          refine x_goto k163_76 (t := 80) rfl ?_
          refine x_istore_n k163_80 (ls' := [(2, vi 1), (4, vi 0), (0, .ref 256), (1, vi x1), (3, vi x3)]) (by decide) rfl ?_
          refine x_iinc k163_81 (ls' := [(3, vi (x3 + 1)), (2, vi 1), (4, vi 0), (0, .ref 256), (1, vi x1)]) rfl (by decide) rfl ?_
          refine x_goto k163_84 (t := 4) rfl ?_
          refine x_ls (l := [(0, .ref 256), (1, vi x1), (2, vi 1), (3, vi (x3 + 1))]) (show ([0, 1, 2, 3] : List Nat).Nodup from by decide +kernel) ⟨rfl, rfl, rfl, rfl, trivial⟩ ?_
          exact ih s x1 1 (x3 + 1) hG f (by first | exact x_rb b_x1 rfl rfl | exact ⟨by omega, by omega⟩) ⟨by decide, by decide⟩ ⟨by omega, by omega⟩ (by omega)  (by omega)
        · skip
          refine x_A k163_46 (fun _ => rfl) ?_
          refine x_A k163_47 (fun _ => rfl) ?_
          refine x_A k163_48 (fun _ => rfl) ?_
          refine x_callV k163_49 (y := 162) (n := 2) (w0 := 0) (w1 := 2) (as := [vi x3, vi 2]) (rest := []) (by decide +kernel) (q := 256) (nq := 62) (kq := 15) ⟨by decide, rfl⟩ rfl rfl rfl rfl (xe_mono (C_X11_holds_256 s hG (hJ0.fl f (by decide +kernel)) x3 (by first | exact x_rb b_x3 rfl rfl | exact ⟨by omega, by omega⟩) 2 ⟨by decide, by decide⟩ (by omega)) ?_)
          rintro s348 v ⟨-, t_s348, z347, rfl, g_z347⟩
          rw [t_s348.nil]
          show xe none 163 52 [(4, vi 0), (0, .ref 256), (1, vi x1), (2, vi x2), (3, vi x3)] [vi z347] s 0 0 _
          refine x_if_eq k163_52 (t := 79) rfl (by first | exact x_rbe e_z347 g_z347 rfl rfl | exact x_rb g_z347 rfl rfl | exact ⟨by omega, by omega⟩) (fun c349 => ?_) (fun c349 => ?_)
          · skip
            refine x_A k163_79 (fun _ => rfl) ?_
            refine x_istore_n k163_80 (ls' := [(2, vi 0), (4, vi 0), (0, .ref 256), (1, vi x1), (3, vi x3)]) (by decide) rfl ?_
            refine x_iinc k163_81 (ls' := [(3, vi (x3 + 1)), (2, vi 0), (4, vi 0), (0, .ref 256), (1, vi x1)]) rfl (by decide) rfl ?_
            refine x_goto k163_84 (t := 4) rfl ?_
            refine x_ls (l := [(0, .ref 256), (1, vi x1), (2, vi 0), (3, vi (x3 + 1))]) (show ([0, 1, 2, 3] : List Nat).Nodup from by decide +kernel) ⟨rfl, rfl, rfl, rfl, trivial⟩ ?_
            exact ih s x1 0 (x3 + 1) hG f (by first | exact x_rb b_x1 rfl rfl | exact ⟨by omega, by omega⟩) ⟨by decide, by decide⟩ ⟨by omega, by omega⟩ (by omega)  (by omega)
          · skip
            refine x_A k163_55 (fun _ => rfl) ?_
            refine x_getR k163_56 (f := 22) rfl (q := 256) (n := 62) (kd := 15) ⟨by decide, rfl⟩ (q2 := 273) (by decide) rfl ?_
            refine x_A k163_59 (fun _ => rfl) ?_
            refine x_iald k163_60 (q := 273) (n := 72) ⟨by decide, rfl⟩ (by decide) (by first | exact x_rbl b_x3 rfl rfl | exact ⟨by omega, by omega⟩) ?_
            rw [e_z339.symm]
            refine x_A k163_61 (fun _ => rfl) ?_
            refine x_getR k163_62 (f := 23) rfl (q := 256) (n := 62) (kd := 15) ⟨by decide, rfl⟩ (q2 := 274) (by decide) rfl ?_
            refine x_A k163_65 (fun _ => rfl) ?_
            refine x_iald k163_66 (q := 274) (n := 72) ⟨by decide, rfl⟩ (by decide) (by first | exact x_rbl b_x3 rfl rfl | exact ⟨by omega, by omega⟩) ?_
            rw [e_z341.symm]
            refine x_ic_eq k163_67 (t := 79) rfl (by first | exact x_rbe e_z339 g_z339 rfl rfl | exact x_rb g_z339 rfl rfl | exact ⟨by omega, by omega⟩) (by first | exact x_rbe e_z341 g_z341 rfl rfl | exact x_rb g_z341 rfl rfl | exact ⟨by omega, by omega⟩) (fun c350 => ?_) (fun c350 => ?_)
            · skip
              refine x_A k163_79 (fun _ => rfl) ?_
              refine x_istore_n k163_80 (ls' := [(2, vi 0), (4, vi 0), (0, .ref 256), (1, vi x1), (3, vi x3)]) (by decide) rfl ?_
              refine x_iinc k163_81 (ls' := [(3, vi (x3 + 1)), (2, vi 0), (4, vi 0), (0, .ref 256), (1, vi x1)]) rfl (by decide) rfl ?_
              refine x_goto k163_84 (t := 4) rfl ?_
              refine x_ls (l := [(0, .ref 256), (1, vi x1), (2, vi 0), (3, vi (x3 + 1))]) (show ([0, 1, 2, 3] : List Nat).Nodup from by decide +kernel) ⟨rfl, rfl, rfl, rfl, trivial⟩ ?_
              exact ih s x1 0 (x3 + 1) hG f (by first | exact x_rb b_x1 rfl rfl | exact ⟨by omega, by omega⟩) ⟨by decide, by decide⟩ ⟨by omega, by omega⟩ (by omega)  (by omega)
            · skip
              refine x_A k163_70 (fun _ => rfl) ?_
              refine x_if_eq k163_72 (t := 79) rfl ⟨by decide, by decide⟩ (fun c351 => ?_) (fun c351 => by exfalso; omega)
              refine x_A k163_79 (fun _ => rfl) ?_
              refine x_istore_n k163_80 (ls' := [(2, vi 0), (4, vi 0), (0, .ref 256), (1, vi x1), (3, vi x3)]) (by decide) rfl ?_
              refine x_iinc k163_81 (ls' := [(3, vi (x3 + 1)), (2, vi 0), (4, vi 0), (0, .ref 256), (1, vi x1)]) rfl (by decide) rfl ?_
              refine x_goto k163_84 (t := 4) rfl ?_
              refine x_ls (l := [(0, .ref 256), (1, vi x1), (2, vi 0), (3, vi (x3 + 1))]) (show ([0, 1, 2, 3] : List Nat).Nodup from by decide +kernel) ⟨rfl, rfl, rfl, rfl, trivial⟩ ?_
              exact ih s x1 0 (x3 + 1) hG f (by first | exact x_rb b_x1 rfl rfl | exact ⟨by omega, by omega⟩) ⟨by decide, by decide⟩ ⟨by omega, by omega⟩ (by omega)  (by omega)
      · skip
        refine x_A k163_35 (fun _ => rfl) ?_
        refine x_goto k163_36 (t := 40) rfl ?_
        refine x_istore k163_40 (ls' := [(4, vi 1), (0, .ref 256), (1, vi x1), (2, vi x2), (3, vi x3)]) (by decide) rfl ?_
        refine x_A k163_42 (fun _ => rfl) ?_
        refine x_if_ne k163_43 (t := 75) rfl (by first | exact x_rb b_x2 rfl rfl | exact ⟨by omega, by omega⟩) (fun c352 => ?_) (fun c352 => ?_)
        · skip
          refine x_A k163_75 (fun _ => rfl) ?_
          refine x_goto k163_76 (t := 80) rfl ?_
          refine x_istore_n k163_80 (ls' := [(2, vi 1), (4, vi 1), (0, .ref 256), (1, vi x1), (3, vi x3)]) (by decide) rfl ?_
          refine x_iinc k163_81 (ls' := [(3, vi (x3 + 1)), (2, vi 1), (4, vi 1), (0, .ref 256), (1, vi x1)]) rfl (by decide) rfl ?_
          refine x_goto k163_84 (t := 4) rfl ?_
          refine x_ls (l := [(0, .ref 256), (1, vi x1), (2, vi 1), (3, vi (x3 + 1))]) (show ([0, 1, 2, 3] : List Nat).Nodup from by decide +kernel) ⟨rfl, rfl, rfl, rfl, trivial⟩ ?_
          exact ih s x1 1 (x3 + 1) hG f (by first | exact x_rb b_x1 rfl rfl | exact ⟨by omega, by omega⟩) ⟨by decide, by decide⟩ ⟨by omega, by omega⟩ (by omega)  (by omega)
        · skip
          refine x_A k163_46 (fun _ => rfl) ?_
          refine x_A k163_47 (fun _ => rfl) ?_
          refine x_A k163_48 (fun _ => rfl) ?_
          refine x_callV k163_49 (y := 162) (n := 2) (w0 := 0) (w1 := 2) (as := [vi x3, vi 2]) (rest := []) (by decide +kernel) (q := 256) (nq := 62) (kq := 15) ⟨by decide, rfl⟩ rfl rfl rfl rfl (xe_mono (C_X11_holds_256 s hG (hJ0.fl f (by decide +kernel)) x3 (by first | exact x_rb b_x3 rfl rfl | exact ⟨by omega, by omega⟩) 2 ⟨by decide, by decide⟩ (by omega)) ?_)
          rintro s354 v ⟨-, t_s354, z353, rfl, g_z353⟩
          rw [t_s354.nil]
          show xe none 163 52 [(4, vi 1), (0, .ref 256), (1, vi x1), (2, vi x2), (3, vi x3)] [vi z353] s 0 0 _
          refine x_if_eq k163_52 (t := 79) rfl (by first | exact x_rbe e_z353 g_z353 rfl rfl | exact x_rb g_z353 rfl rfl | exact ⟨by omega, by omega⟩) (fun c355 => ?_) (fun c355 => ?_)
          · skip
            refine x_A k163_79 (fun _ => rfl) ?_
            refine x_istore_n k163_80 (ls' := [(2, vi 0), (4, vi 1), (0, .ref 256), (1, vi x1), (3, vi x3)]) (by decide) rfl ?_
            refine x_iinc k163_81 (ls' := [(3, vi (x3 + 1)), (2, vi 0), (4, vi 1), (0, .ref 256), (1, vi x1)]) rfl (by decide) rfl ?_
            refine x_goto k163_84 (t := 4) rfl ?_
            refine x_ls (l := [(0, .ref 256), (1, vi x1), (2, vi 0), (3, vi (x3 + 1))]) (show ([0, 1, 2, 3] : List Nat).Nodup from by decide +kernel) ⟨rfl, rfl, rfl, rfl, trivial⟩ ?_
            exact ih s x1 0 (x3 + 1) hG f (by first | exact x_rb b_x1 rfl rfl | exact ⟨by omega, by omega⟩) ⟨by decide, by decide⟩ ⟨by omega, by omega⟩ (by omega)  (by omega)
          · skip
            refine x_A k163_55 (fun _ => rfl) ?_
            refine x_getR k163_56 (f := 22) rfl (q := 256) (n := 62) (kd := 15) ⟨by decide, rfl⟩ (q2 := 273) (by decide) rfl ?_
            refine x_A k163_59 (fun _ => rfl) ?_
            refine x_iald k163_60 (q := 273) (n := 72) ⟨by decide, rfl⟩ (by decide) (by first | exact x_rbl b_x3 rfl rfl | exact ⟨by omega, by omega⟩) ?_
            rw [e_z339.symm]
            refine x_A k163_61 (fun _ => rfl) ?_
            refine x_getR k163_62 (f := 23) rfl (q := 256) (n := 62) (kd := 15) ⟨by decide, rfl⟩ (q2 := 274) (by decide) rfl ?_
            refine x_A k163_65 (fun _ => rfl) ?_
            refine x_iald k163_66 (q := 274) (n := 72) ⟨by decide, rfl⟩ (by decide) (by first | exact x_rbl b_x3 rfl rfl | exact ⟨by omega, by omega⟩) ?_
            rw [e_z341.symm]
            refine x_ic_eq k163_67 (t := 79) rfl (by first | exact x_rbe e_z339 g_z339 rfl rfl | exact x_rb g_z339 rfl rfl | exact ⟨by omega, by omega⟩) (by first | exact x_rbe e_z341 g_z341 rfl rfl | exact x_rb g_z341 rfl rfl | exact ⟨by omega, by omega⟩) (fun c356 => ?_) (fun c356 => ?_)
            · skip
              refine x_A k163_79 (fun _ => rfl) ?_
              refine x_istore_n k163_80 (ls' := [(2, vi 0), (4, vi 1), (0, .ref 256), (1, vi x1), (3, vi x3)]) (by decide) rfl ?_
              refine x_iinc k163_81 (ls' := [(3, vi (x3 + 1)), (2, vi 0), (4, vi 1), (0, .ref 256), (1, vi x1)]) rfl (by decide) rfl ?_
              refine x_goto k163_84 (t := 4) rfl ?_
              refine x_ls (l := [(0, .ref 256), (1, vi x1), (2, vi 0), (3, vi (x3 + 1))]) (show ([0, 1, 2, 3] : List Nat).Nodup from by decide +kernel) ⟨rfl, rfl, rfl, rfl, trivial⟩ ?_
              exact ih s x1 0 (x3 + 1) hG f (by first | exact x_rb b_x1 rfl rfl | exact ⟨by omega, by omega⟩) ⟨by decide, by decide⟩ ⟨by omega, by omega⟩ (by omega)  (by omega)
            · skip
              refine x_A k163_70 (fun _ => rfl) ?_
              refine x_if_eq k163_72 (t := 79) rfl ⟨by decide, by decide⟩ (fun c357 => by exfalso; omega) (fun c357 => ?_)
              refine x_A k163_75 (fun _ => rfl) ?_
              refine x_goto k163_76 (t := 80) rfl ?_
              refine x_istore_n k163_80 (ls' := [(2, vi 1), (4, vi 1), (0, .ref 256), (1, vi x1), (3, vi x3)]) (by decide) rfl ?_
              refine x_iinc k163_81 (ls' := [(3, vi (x3 + 1)), (2, vi 1), (4, vi 1), (0, .ref 256), (1, vi x1)]) rfl (by decide) rfl ?_
              refine x_goto k163_84 (t := 4) rfl ?_
              refine x_ls (l := [(0, .ref 256), (1, vi x1), (2, vi 1), (3, vi (x3 + 1))]) (show ([0, 1, 2, 3] : List Nat).Nodup from by decide +kernel) ⟨rfl, rfl, rfl, rfl, trivial⟩ ?_
              exact ih s x1 1 (x3 + 1) hG f (by first | exact x_rb b_x1 rfl rfl | exact ⟨by omega, by omega⟩) ⟨by decide, by decide⟩ ⟨by omega, by omega⟩ (by omega)  (by omega)
theorem C_X11_isBarred_256 (s0 : xS) (hG0 : GI s0) (hJ0 : J s0) (a : Int) (b_a : (-2147483648) ≤ a ∧ a ≤ 2147483647) : xe none 163 0 (lv_args 0 [.ref 256, vi a]) [] s0 0 0 (fun s' v => GI s' ∧ FL [] s0 s' ∧ ∃ z, v = some (vi z) ∧ (0 ≤ z ∧ z ≤ 1)) := by
  have f0 : FL [] s0 s0 := FL.rf
  show xe none 163 0 [(0, .ref 256), (1, vi a)] [] s0 0 0 _
  refine x_A k163_0 (fun _ => rfl) ?_
  refine x_istore_n k163_1 (ls' := [(2, vi 0), (0, .ref 256), (1, vi a)]) (by decide) rfl ?_
  refine x_A k163_2 (fun _ => rfl) ?_
  refine x_istore_n k163_3 (ls' := [(3, vi 0), (2, vi 0), (0, .ref 256), (1, vi a)]) (by decide) rfl ?_
  refine x_ls (l := [(0, .ref 256), (1, vi a), (2, vi 0), (3, vi 0)]) (show ([0, 1, 2, 3] : List Nat).Nodup from by decide +kernel) ⟨rfl, rfl, rfl, rfl, trivial⟩ ?_
  exact L_C_X11_isBarred_256_4 s0 hJ0  (((64 - 0) + 1 : Int)).toNat s0 a 0 0 hG0 f0 (by first | exact x_rb b_a rfl rfl | exact ⟨by omega, by omega⟩) ⟨by decide, by decide⟩ ⟨by decide, by decide⟩ (by omega)  (by omega)
theorem L_C_X11_isAllowed_256_9 (s0 : xS) (hJ0 : J s0)  : ∀ (n : Nat) (s : xS) (x1 : Int) (x2 : Int) (x3 : Int) (x4 : Int) (x5 : Int) (x6 : Int) (hG : GI s) (f : FL [] s0 s) (b_x1 : (-2147483648) ≤ x1 ∧ x1 ≤ 2147483647) (b_x2 : (-2147483648) ≤ x2 ∧ x2 ≤ 2147483647) (b_x3 : 0 ≤ x3 ∧ x3 ≤ 9) (b_x4 : 0 ≤ x4 ∧ x4 ≤ 1) (b_x5 : 0 ≤ x5 ∧ x5 ≤ 1) (b_x6 : 0 ≤ x6 ∧ x6 ≤ 64) (r_5_6 : x5 ≤ x6 + 0) (r_4_6 : x4 ≤ x6 + 0)  (hm : (64 - x6) < (n : Int)), xe none 164 9 [(0, .ref 256), (1, vi x1), (2, vi x2), (3, vi x3), (4, vi x4), (5, vi x5), (6, vi x6)] [] s 0 0 (fun s' v => GI s' ∧ FL [] s0 s' ∧ ∃ z, v = some (vi z) ∧ (0 ≤ z ∧ z ≤ 1)) := by
  intro n
  induction n with
  | zero => intro s x1 x2 x3 x4 x5 x6 hG f b_x1 b_x2 b_x3 b_x4 b_x5 b_x6 r_5_6 r_4_6  hm; exfalso; omega
  | succ n ih =>
    intro s x1 x2 x3 x4 x5 x6 hG f b_x1 b_x2 b_x3 b_x4 b_x5 b_x6 r_5_6 r_4_6  hm
    refine x_A k164_9 (fun _ => rfl) ?_
    refine x_A k164_11 (fun _ => rfl) ?_
    refine x_getI k164_12 (f := 20) rfl (q := 256) (n := 62) (kd := 15) ⟨by decide, rfl⟩ (by decide) rfl ?_
    refine x_top (fun z551 e_z551 => ?_)
    have g_z551 : (0 : Int) ≤ s 256 20 ∧ s 256 20 ≤ 64 := hG 256 20
    refine x_ic_ge k164_15 (t := 102) rfl (by first | exact x_rb b_x6 rfl rfl | exact ⟨by omega, by omega⟩) (by first | exact x_rbe e_z551 g_z551 rfl rfl | exact x_rb g_z551 rfl rfl | exact ⟨by omega, by omega⟩) (fun c552 => ?_) (fun c552 => ?_)
    · skip
      refine x_A k164_102 (fun _ => rfl) ?_
      refine x_if_ne k164_104 (t := 112) rfl (by first | exact x_rb b_x5 rfl rfl | exact ⟨by omega, by omega⟩) (fun c553 => ?_) (fun c553 => ?_)
      · skip
        refine x_A k164_112 (fun _ => rfl) ?_
        refine x_goto k164_113 (t := 117) rfl ?_
        exact x_zret k164_117 rfl ⟨by omega, by omega⟩ ⟨hG, f, 1, rfl, ⟨by decide, by decide⟩⟩
      · skip
        refine x_A k164_107 (fun _ => rfl) ?_
        refine x_if_ne k164_109 (t := 116) rfl (by first | exact x_rb b_x4 rfl rfl | exact ⟨by omega, by omega⟩) (fun c554 => ?_) (fun c554 => ?_)
        · skip
          refine x_A k164_116 (fun _ => rfl) ?_
          exact x_zret k164_117 rfl ⟨by omega, by omega⟩ ⟨hG, f, 0, rfl, ⟨by decide, by decide⟩⟩
        · skip
          refine x_A k164_112 (fun _ => rfl) ?_
          refine x_goto k164_113 (t := 117) rfl ?_
          exact x_zret k164_117 rfl ⟨by omega, by omega⟩ ⟨hG, f, 1, rfl, ⟨by decide, by decide⟩⟩
    · skip
      refine x_A k164_18 (fun _ => rfl) ?_
      refine x_A k164_19 (fun _ => rfl) ?_
      refine x_A k164_21 (fun _ => rfl) ?_
      refine x_callV k164_22 (y := 162) (n := 2) (w0 := 0) (w1 := 2) (as := [vi x6, vi 1]) (rest := []) (by decide +kernel) (q := 256) (nq := 62) (kq := 15) ⟨by decide, rfl⟩ rfl rfl rfl rfl (xe_mono (C_X11_holds_256 s hG (hJ0.fl f (by decide +kernel)) x6 (by first | exact x_rb b_x6 rfl rfl | exact ⟨by omega, by omega⟩) 1 ⟨by decide, by decide⟩ (by omega)) ?_)
      rintro s556 v ⟨-, t_s556, z555, rfl, g_z555⟩
      rw [t_s556.nil]
      show xe none 164 25 [(0, .ref 256), (1, vi x1), (2, vi x2), (3, vi x3), (4, vi x4), (5, vi x5), (6, vi x6)] [vi z555] s 0 0 _
      refine x_if_eq k164_25 (t := 43) rfl (by first | exact x_rbe e_z555 g_z555 rfl rfl | exact x_rb g_z555 rfl rfl | exact ⟨by omega, by omega⟩) (fun c557 => ?_) (fun c557 => ?_)
      · skip
        refine x_A k164_43 (fun _ => rfl) ?_
        refine x_istore k164_44 (ls' := [(7, vi 0), (0, .ref 256), (1, vi x1), (2, vi x2), (3, vi x3), (4, vi x4), (5, vi x5), (6, vi x6)]) (by decide) rfl ?_
        refine x_A k164_46 (fun _ => rfl) ?_
        refine x_if_ne k164_48 (t := 56) rfl (by first | exact x_rb b_x4 rfl rfl | exact ⟨by omega, by omega⟩) (fun c558 => ?_) (fun c558 => ?_)
        · skip
          refine x_A k164_56 (fun _ => rfl) ?_
          refine x_goto k164_57 (t := 61) rfl ?_
          refine x_istore k164_61 (ls' := [(4, vi 1), (7, vi 0), (0, .ref 256), (1, vi x1), (2, vi x2), (3, vi x3), (5, vi x5), (6, vi x6)]) (by decide) rfl ?_
          refine x_A k164_63 (fun _ => rfl) ?_
          refine x_if_ne k164_65 (t := 89) rfl (by first | exact x_rb b_x5 rfl rfl | exact ⟨by omega, by omega⟩) (fun c559 => ?_) (fun c559 => ?_)
          · skip
            refine x_A k164_89 (fun _ => rfl) ?_
            refine x_goto k164_90 (t := 94) rfl ?_
            refine x_istore k164_94 (ls' := [(5, vi 1), (4, vi 1), (7, vi 0), (0, .ref 256), (1, vi x1), (2, vi x2), (3, vi x3), (6, vi x6)]) (by decide) rfl ?_
            refine x_iinc k164_96 (ls' := [(6, vi (x6 + 1)), (5, vi 1), (4, vi 1), (7, vi 0), (0, .ref 256), (1, vi x1), (2, vi x2), (3, vi x3)]) rfl (by decide) rfl ?_
            refine x_goto k164_99 (t := 9) rfl ?_
            refine x_ls (l := [(0, .ref 256), (1, vi x1), (2, vi x2), (3, vi x3), (4, vi 1), (5, vi 1), (6, vi (x6 + 1))]) (show ([0, 1, 2, 3, 4, 5, 6] : List Nat).Nodup from by decide +kernel) ⟨rfl, rfl, rfl, rfl, rfl, rfl, rfl, trivial⟩ ?_
            exact ih s x1 x2 x3 1 1 (x6 + 1) hG f (by first | exact x_rb b_x1 rfl rfl | exact ⟨by omega, by omega⟩) (by first | exact x_rb b_x2 rfl rfl | exact ⟨by omega, by omega⟩) (by first | exact x_rb b_x3 rfl rfl | exact ⟨by omega, by omega⟩) ⟨by decide, by decide⟩ ⟨by decide, by decide⟩ ⟨by omega, by omega⟩ (by omega) (by omega)  (by omega)
          · skip
            refine x_A k164_68 (fun _ => rfl) ?_
            refine x_if_eq k164_70 (t := 93) rfl ⟨by decide, by decide⟩ (fun c560 => ?_) (fun c560 => by exfalso; omega)
            refine x_A k164_93 (fun _ => rfl) ?_
            refine x_istore k164_94 (ls' := [(5, vi 0), (4, vi 1), (7, vi 0), (0, .ref 256), (1, vi x1), (2, vi x2), (3, vi x3), (6, vi x6)]) (by decide) rfl ?_
            refine x_iinc k164_96 (ls' := [(6, vi (x6 + 1)), (5, vi 0), (4, vi 1), (7, vi 0), (0, .ref 256), (1, vi x1), (2, vi x2), (3, vi x3)]) rfl (by decide) rfl ?_
            refine x_goto k164_99 (t := 9) rfl ?_
            refine x_ls (l := [(0, .ref 256), (1, vi x1), (2, vi x2), (3, vi x3), (4, vi 1), (5, vi 0), (6, vi (x6 + 1))]) (show ([0, 1, 2, 3, 4, 5, 6] : List Nat).Nodup from by decide +kernel) ⟨rfl, rfl, rfl, rfl, rfl, rfl, rfl, trivial⟩ ?_
            exact ih s x1 x2 x3 1 0 (x6 + 1) hG f (by first | exact x_rb b_x1 rfl rfl | exact ⟨by omega, by omega⟩) (by first | exact x_rb b_x2 rfl rfl | exact ⟨by omega, by omega⟩) (by first | exact x_rb b_x3 rfl rfl | exact ⟨by omega, by omega⟩) ⟨by decide, by decide⟩ ⟨by decide, by decide⟩ ⟨by omega, by omega⟩ (by omega) (by omega)  (by omega)
        · skip
          refine x_A k164_51 (fun _ => rfl) ?_
          refine x_if_eq k164_53 (t := 60) rfl ⟨by decide, by decide⟩ (fun c561 => ?_) (fun c561 => by exfalso; omega)
          refine x_A k164_60 (fun _ => rfl) ?_
          refine x_istore k164_61 (ls' := [(4, vi 0), (7, vi 0), (0, .ref 256), (1, vi x1), (2, vi x2), (3, vi x3), (5, vi x5), (6, vi x6)]) (by decide) rfl ?_
          refine x_A k164_63 (fun _ => rfl) ?_
          refine x_if_ne k164_65 (t := 89) rfl (by first | exact x_rb b_x5 rfl rfl | exact ⟨by omega, by omega⟩) (fun c562 => ?_) (fun c562 => ?_)
          · skip
            refine x_A k164_89 (fun _ => rfl) ?_
            refine x_goto k164_90 (t := 94) rfl ?_
            refine x_istore k164_94 (ls' := [(5, vi 1), (4, vi 0), (7, vi 0), (0, .ref 256), (1, vi x1), (2, vi x2), (3, vi x3), (6, vi x6)]) (by decide) rfl ?_
            refine x_iinc k164_96 (ls' := [(6, vi (x6 + 1)), (5, vi 1), (4, vi 0), (7, vi 0), (0, .ref 256), (1, vi x1), (2, vi x2), (3, vi x3)]) rfl (by decide) rfl ?_
            refine x_goto k164_99 (t := 9) rfl ?_
            refine x_ls (l := [(0, .ref 256), (1, vi x1), (2, vi x2), (3, vi x3), (4, vi 0), (5, vi 1), (6, vi (x6 + 1))]) (show ([0, 1, 2, 3, 4, 5, 6] : List Nat).Nodup from by decide +kernel) ⟨rfl, rfl, rfl, rfl, rfl, rfl, rfl, trivial⟩ ?_
            exact ih s x1 x2 x3 0 1 (x6 + 1) hG f (by first | exact x_rb b_x1 rfl rfl | exact ⟨by omega, by omega⟩) (by first | exact x_rb b_x2 rfl rfl | exact ⟨by omega, by omega⟩) (by first | exact x_rb b_x3 rfl rfl | exact ⟨by omega, by omega⟩) ⟨by decide, by decide⟩ ⟨by decide, by decide⟩ ⟨by omega, by omega⟩ (by omega) (by omega)  (by omega)
          · skip
            refine x_A k164_68 (fun _ => rfl) ?_
            refine x_if_eq k164_70 (t := 93) rfl ⟨by decide, by decide⟩ (fun c563 => ?_) (fun c563 => by exfalso; omega)
            refine x_A k164_93 (fun _ => rfl) ?_
            refine x_istore k164_94 (ls' := [(5, vi 0), (4, vi 0), (7, vi 0), (0, .ref 256), (1, vi x1), (2, vi x2), (3, vi x3), (6, vi x6)]) (by decide) rfl ?_
            refine x_iinc k164_96 (ls' := [(6, vi (x6 + 1)), (5, vi 0), (4, vi 0), (7, vi 0), (0, .ref 256), (1, vi x1), (2, vi x2), (3, vi x3)]) rfl (by decide) rfl ?_
            refine x_goto k164_99 (t := 9) rfl ?_
            refine x_ls (l := [(0, .ref 256), (1, vi x1), (2, vi x2), (3, vi x3), (4, vi 0), (5, vi 0), (6, vi (x6 + 1))]) (show ([0, 1, 2, 3, 4, 5, 6] : List Nat).Nodup from by decide +kernel) ⟨rfl, rfl, rfl, rfl, rfl, rfl, rfl, trivial⟩ ?_
            exact ih s x1 x2 x3 0 0 (x6 + 1) hG f (by first | exact x_rb b_x1 rfl rfl | exact ⟨by omega, by omega⟩) (by first | exact x_rb b_x2 rfl rfl | exact ⟨by omega, by omega⟩) (by first | exact x_rb b_x3 rfl rfl | exact ⟨by omega, by omega⟩) ⟨by decide, by decide⟩ ⟨by decide, by decide⟩ ⟨by omega, by omega⟩ (by omega) (by omega)  (by omega)
      · skip
        refine x_A k164_28 (fun _ => rfl) ?_
        refine x_getR k164_29 (f := 22) rfl (q := 256) (n := 62) (kd := 15) ⟨by decide, rfl⟩ (q2 := 273) (by decide) rfl ?_
        refine x_A k164_32 (fun _ => rfl) ?_
        refine x_iald k164_34 (q := 273) (n := 72) ⟨by decide, rfl⟩ (by decide) (by first | exact x_rbl b_x6 rfl rfl | exact ⟨by omega, by omega⟩) ?_
        refine x_top (fun z564 e_z564 => ?_)
        have g_z564 : (-2147483648) ≤ s 273 x6.toNat ∧ s 273 x6.toNat ≤ 2147483647 := hG 273 x6.toNat
        refine x_A k164_35 (fun _ => rfl) ?_
        refine x_ic_ne k164_36 (t := 43) rfl (by first | exact x_rbe e_z564 g_z564 rfl rfl | exact x_rb g_z564 rfl rfl | exact ⟨by omega, by omega⟩) (by first | exact x_rb b_x1 rfl rfl | exact ⟨by omega, by omega⟩) (fun c565 => ?_) (fun c565 => ?_)
        · skip
          refine x_A k164_43 (fun _ => rfl) ?_
          refine x_istore k164_44 (ls' := [(7, vi 0), (0, .ref 256), (1, vi x1), (2, vi x2), (3, vi x3), (4, vi x4), (5, vi x5), (6, vi x6)]) (by decide) rfl ?_
          refine x_A k164_46 (fun _ => rfl) ?_
          refine x_if_ne k164_48 (t := 56) rfl (by first | exact x_rb b_x4 rfl rfl | exact ⟨by omega, by omega⟩) (fun c566 => ?_) (fun c566 => ?_)
          · skip
            refine x_A k164_56 (fun _ => rfl) ?_
            refine x_goto k164_57 (t := 61) rfl ?_
            refine x_istore k164_61 (ls' := [(4, vi 1), (7, vi 0), (0, .ref 256), (1, vi x1), (2, vi x2), (3, vi x3), (5, vi x5), (6, vi x6)]) (by decide) rfl ?_
            refine x_A k164_63 (fun _ => rfl) ?_
            refine x_if_ne k164_65 (t := 89) rfl (by first | exact x_rb b_x5 rfl rfl | exact ⟨by omega, by omega⟩) (fun c567 => ?_) (fun c567 => ?_)
            · skip
              refine x_A k164_89 (fun _ => rfl) ?_
              refine x_goto k164_90 (t := 94) rfl ?_
              refine x_istore k164_94 (ls' := [(5, vi 1), (4, vi 1), (7, vi 0), (0, .ref 256), (1, vi x1), (2, vi x2), (3, vi x3), (6, vi x6)]) (by decide) rfl ?_
              refine x_iinc k164_96 (ls' := [(6, vi (x6 + 1)), (5, vi 1), (4, vi 1), (7, vi 0), (0, .ref 256), (1, vi x1), (2, vi x2), (3, vi x3)]) rfl (by decide) rfl ?_
              refine x_goto k164_99 (t := 9) rfl ?_
              refine x_ls (l := [(0, .ref 256), (1, vi x1), (2, vi x2), (3, vi x3), (4, vi 1), (5, vi 1), (6, vi (x6 + 1))]) (show ([0, 1, 2, 3, 4, 5, 6] : List Nat).Nodup from by decide +kernel) ⟨rfl, rfl, rfl, rfl, rfl, rfl, rfl, trivial⟩ ?_
              exact ih s x1 x2 x3 1 1 (x6 + 1) hG f (by first | exact x_rb b_x1 rfl rfl | exact ⟨by omega, by omega⟩) (by first | exact x_rb b_x2 rfl rfl | exact ⟨by omega, by omega⟩) (by first | exact x_rb b_x3 rfl rfl | exact ⟨by omega, by omega⟩) ⟨by decide, by decide⟩ ⟨by decide, by decide⟩ ⟨by omega, by omega⟩ (by omega) (by omega)  (by omega)
            · skip
              refine x_A k164_68 (fun _ => rfl) ?_
              refine x_if_eq k164_70 (t := 93) rfl ⟨by decide, by decide⟩ (fun c568 => ?_) (fun c568 => by exfalso; omega)
              refine x_A k164_93 (fun _ => rfl) ?_
              refine x_istore k164_94 (ls' := [(5, vi 0), (4, vi 1), (7, vi 0), (0, .ref 256), (1, vi x1), (2, vi x2), (3, vi x3), (6, vi x6)]) (by decide) rfl ?_
              refine x_iinc k164_96 (ls' := [(6, vi (x6 + 1)), (5, vi 0), (4, vi 1), (7, vi 0), (0, .ref 256), (1, vi x1), (2, vi x2), (3, vi x3)]) rfl (by decide) rfl ?_
              refine x_goto k164_99 (t := 9) rfl ?_
              refine x_ls (l := [(0, .ref 256), (1, vi x1), (2, vi x2), (3, vi x3), (4, vi 1), (5, vi 0), (6, vi (x6 + 1))]) (show ([0, 1, 2, 3, 4, 5, 6] : List Nat).Nodup from by decide +kernel) ⟨rfl, rfl, rfl, rfl, rfl, rfl, rfl, trivial⟩ ?_
              exact ih s x1 x2 x3 1 0 (x6 + 1) hG f (by first | exact x_rb b_x1 rfl rfl | exact ⟨by omega, by omega⟩) (by first | exact x_rb b_x2 rfl rfl | exact ⟨by omega, by omega⟩) (by first | exact x_rb b_x3 rfl rfl | exact ⟨by omega, by omega⟩) ⟨by decide, by decide⟩ ⟨by decide, by decide⟩ ⟨by omega, by omega⟩ (by omega) (by omega)  (by omega)
          · skip
            refine x_A k164_51 (fun _ => rfl) ?_
            refine x_if_eq k164_53 (t := 60) rfl ⟨by decide, by decide⟩ (fun c569 => ?_) (fun c569 => by exfalso; omega)
            refine x_A k164_60 (fun _ => rfl) ?_
            refine x_istore k164_61 (ls' := [(4, vi 0), (7, vi 0), (0, .ref 256), (1, vi x1), (2, vi x2), (3, vi x3), (5, vi x5), (6, vi x6)]) (by decide) rfl ?_
            refine x_A k164_63 (fun _ => rfl) ?_
            refine x_if_ne k164_65 (t := 89) rfl (by first | exact x_rb b_x5 rfl rfl | exact ⟨by omega, by omega⟩) (fun c570 => ?_) (fun c570 => ?_)
            · skip
              refine x_A k164_89 (fun _ => rfl) ?_
              refine x_goto k164_90 (t := 94) rfl ?_
              refine x_istore k164_94 (ls' := [(5, vi 1), (4, vi 0), (7, vi 0), (0, .ref 256), (1, vi x1), (2, vi x2), (3, vi x3), (6, vi x6)]) (by decide) rfl ?_
              refine x_iinc k164_96 (ls' := [(6, vi (x6 + 1)), (5, vi 1), (4, vi 0), (7, vi 0), (0, .ref 256), (1, vi x1), (2, vi x2), (3, vi x3)]) rfl (by decide) rfl ?_
              refine x_goto k164_99 (t := 9) rfl ?_
              refine x_ls (l := [(0, .ref 256), (1, vi x1), (2, vi x2), (3, vi x3), (4, vi 0), (5, vi 1), (6, vi (x6 + 1))]) (show ([0, 1, 2, 3, 4, 5, 6] : List Nat).Nodup from by decide +kernel) ⟨rfl, rfl, rfl, rfl, rfl, rfl, rfl, trivial⟩ ?_
              exact ih s x1 x2 x3 0 1 (x6 + 1) hG f (by first | exact x_rb b_x1 rfl rfl | exact ⟨by omega, by omega⟩) (by first | exact x_rb b_x2 rfl rfl | exact ⟨by omega, by omega⟩) (by first | exact x_rb b_x3 rfl rfl | exact ⟨by omega, by omega⟩) ⟨by decide, by decide⟩ ⟨by decide, by decide⟩ ⟨by omega, by omega⟩ (by omega) (by omega)  (by omega)
            · skip
              refine x_A k164_68 (fun _ => rfl) ?_
              refine x_if_eq k164_70 (t := 93) rfl ⟨by decide, by decide⟩ (fun c571 => ?_) (fun c571 => by exfalso; omega)
              refine x_A k164_93 (fun _ => rfl) ?_
              refine x_istore k164_94 (ls' := [(5, vi 0), (4, vi 0), (7, vi 0), (0, .ref 256), (1, vi x1), (2, vi x2), (3, vi x3), (6, vi x6)]) (by decide) rfl ?_
              refine x_iinc k164_96 (ls' := [(6, vi (x6 + 1)), (5, vi 0), (4, vi 0), (7, vi 0), (0, .ref 256), (1, vi x1), (2, vi x2), (3, vi x3)]) rfl (by decide) rfl ?_
              refine x_goto k164_99 (t := 9) rfl ?_
              refine x_ls (l := [(0, .ref 256), (1, vi x1), (2, vi x2), (3, vi x3), (4, vi 0), (5, vi 0), (6, vi (x6 + 1))]) (show ([0, 1, 2, 3, 4, 5, 6] : List Nat).Nodup from by decide +kernel) ⟨rfl, rfl, rfl, rfl, rfl, rfl, rfl, trivial⟩ ?_
              exact ih s x1 x2 x3 0 0 (x6 + 1) hG f (by first | exact x_rb b_x1 rfl rfl | exact ⟨by omega, by omega⟩) (by first | exact x_rb b_x2 rfl rfl | exact ⟨by omega, by omega⟩) (by first | exact x_rb b_x3 rfl rfl | exact ⟨by omega, by omega⟩) ⟨by decide, by decide⟩ ⟨by decide, by decide⟩ ⟨by omega, by omega⟩ (by omega) (by omega)  (by omega)
        · skip
          refine x_A k164_39 (fun _ => rfl) ?_
          refine x_goto k164_40 (t := 44) rfl ?_
          refine x_istore k164_44 (ls' := [(7, vi 1), (0, .ref 256), (1, vi x1), (2, vi x2), (3, vi x3), (4, vi x4), (5, vi x5), (6, vi x6)]) (by decide) rfl ?_
          refine x_A k164_46 (fun _ => rfl) ?_
          refine x_if_ne k164_48 (t := 56) rfl (by first | exact x_rb b_x4 rfl rfl | exact ⟨by omega, by omega⟩) (fun c572 => ?_) (fun c572 => ?_)
          · skip
            refine x_A k164_56 (fun _ => rfl) ?_
            refine x_goto k164_57 (t := 61) rfl ?_
            refine x_istore k164_61 (ls' := [(4, vi 1), (7, vi 1), (0, .ref 256), (1, vi x1), (2, vi x2), (3, vi x3), (5, vi x5), (6, vi x6)]) (by decide) rfl ?_
            refine x_A k164_63 (fun _ => rfl) ?_
            refine x_if_ne k164_65 (t := 89) rfl (by first | exact x_rb b_x5 rfl rfl | exact ⟨by omega, by omega⟩) (fun c573 => ?_) (fun c573 => ?_)
            · skip
              refine x_A k164_89 (fun _ => rfl) ?_
              refine x_goto k164_90 (t := 94) rfl ?_
              refine x_istore k164_94 (ls' := [(5, vi 1), (4, vi 1), (7, vi 1), (0, .ref 256), (1, vi x1), (2, vi x2), (3, vi x3), (6, vi x6)]) (by decide) rfl ?_
              refine x_iinc k164_96 (ls' := [(6, vi (x6 + 1)), (5, vi 1), (4, vi 1), (7, vi 1), (0, .ref 256), (1, vi x1), (2, vi x2), (3, vi x3)]) rfl (by decide) rfl ?_
              refine x_goto k164_99 (t := 9) rfl ?_
              refine x_ls (l := [(0, .ref 256), (1, vi x1), (2, vi x2), (3, vi x3), (4, vi 1), (5, vi 1), (6, vi (x6 + 1))]) (show ([0, 1, 2, 3, 4, 5, 6] : List Nat).Nodup from by decide +kernel) ⟨rfl, rfl, rfl, rfl, rfl, rfl, rfl, trivial⟩ ?_
              exact ih s x1 x2 x3 1 1 (x6 + 1) hG f (by first | exact x_rb b_x1 rfl rfl | exact ⟨by omega, by omega⟩) (by first | exact x_rb b_x2 rfl rfl | exact ⟨by omega, by omega⟩) (by first | exact x_rb b_x3 rfl rfl | exact ⟨by omega, by omega⟩) ⟨by decide, by decide⟩ ⟨by decide, by decide⟩ ⟨by omega, by omega⟩ (by omega) (by omega)  (by omega)
            · skip
              refine x_A k164_68 (fun _ => rfl) ?_
              refine x_if_eq k164_70 (t := 93) rfl ⟨by decide, by decide⟩ (fun c574 => by exfalso; omega) (fun c574 => ?_)
              refine x_A k164_73 (fun _ => rfl) ?_
              refine x_A k164_74 (fun _ => rfl) ?_
              refine x_A k164_75 (fun _ => rfl) ?_
              refine x_getR k164_76 (f := 23) rfl (q := 256) (n := 62) (kd := 15) ⟨by decide, rfl⟩ (q2 := 274) (by decide) rfl ?_
              refine x_A k164_79 (fun _ => rfl) ?_
              refine x_iald k164_81 (q := 274) (n := 72) ⟨by decide, rfl⟩ (by decide) (by first | exact x_rbl b_x6 rfl rfl | exact ⟨by omega, by omega⟩) ?_
              refine x_top (fun z575 e_z575 => ?_)
              have g_z575 : (-2147483648) ≤ s 274 x6.toNat ∧ s 274 x6.toNat ≤ 2147483647 := hG 274 x6.toNat
              refine x_A k164_82 (fun _ => rfl) ?_
              refine x_callV k164_83 (y := 143) (n := 3) (w0 := 0) (w1 := 3) (as := [vi x2, vi z575, vi x3]) (rest := []) (by decide +kernel) (q := 256) (nq := 62) (kq := 15) ⟨by decide, rfl⟩ rfl rfl rfl rfl (xe_mono (C_X11_isBelow_256 s hG (hJ0.fl f (by decide +kernel)) x2 (by first | exact x_rb b_x2 rfl rfl | exact ⟨by omega, by omega⟩) z575 (by first | exact x_rbe e_z575 g_z575 rfl rfl | exact x_rb g_z575 rfl rfl | exact ⟨by omega, by omega⟩) x3 (by first | exact x_rb b_x3 rfl rfl | exact ⟨by omega, by omega⟩)) ?_)
              rintro s577 v ⟨-, t_s577, z576, rfl, g_z576⟩
              rw [t_s577.nil]
              show xe none 164 86 [(4, vi 1), (7, vi 1), (0, .ref 256), (1, vi x1), (2, vi x2), (3, vi x3), (5, vi x5), (6, vi x6)] [vi z576] s 0 0 _
              refine x_if_eq k164_86 (t := 93) rfl (by first | exact x_rbe e_z576 g_z576 rfl rfl | exact x_rb g_z576 rfl rfl | exact ⟨by omega, by omega⟩) (fun c578 => ?_) (fun c578 => ?_)
              · skip
                refine x_A k164_93 (fun _ => rfl) ?_
                refine x_istore k164_94 (ls' := [(5, vi 0), (4, vi 1), (7, vi 1), (0, .ref 256), (1, vi x1), (2, vi x2), (3, vi x3), (6, vi x6)]) (by decide) rfl ?_
                refine x_iinc k164_96 (ls' := [(6, vi (x6 + 1)), (5, vi 0), (4, vi 1), (7, vi 1), (0, .ref 256), (1, vi x1), (2, vi x2), (3, vi x3)]) rfl (by decide) rfl ?_
                refine x_goto k164_99 (t := 9) rfl ?_
                refine x_ls (l := [(0, .ref 256), (1, vi x1), (2, vi x2), (3, vi x3), (4, vi 1), (5, vi 0), (6, vi (x6 + 1))]) (show ([0, 1, 2, 3, 4, 5, 6] : List Nat).Nodup from by decide +kernel) ⟨rfl, rfl, rfl, rfl, rfl, rfl, rfl, trivial⟩ ?_
                exact ih s x1 x2 x3 1 0 (x6 + 1) hG f (by first | exact x_rb b_x1 rfl rfl | exact ⟨by omega, by omega⟩) (by first | exact x_rb b_x2 rfl rfl | exact ⟨by omega, by omega⟩) (by first | exact x_rb b_x3 rfl rfl | exact ⟨by omega, by omega⟩) ⟨by decide, by decide⟩ ⟨by decide, by decide⟩ ⟨by omega, by omega⟩ (by omega) (by omega)  (by omega)
              · skip
                refine x_A k164_89 (fun _ => rfl) ?_
                refine x_goto k164_90 (t := 94) rfl ?_
                refine x_istore k164_94 (ls' := [(5, vi 1), (4, vi 1), (7, vi 1), (0, .ref 256), (1, vi x1), (2, vi x2), (3, vi x3), (6, vi x6)]) (by decide) rfl ?_
                refine x_iinc k164_96 (ls' := [(6, vi (x6 + 1)), (5, vi 1), (4, vi 1), (7, vi 1), (0, .ref 256), (1, vi x1), (2, vi x2), (3, vi x3)]) rfl (by decide) rfl ?_
                refine x_goto k164_99 (t := 9) rfl ?_
                refine x_ls (l := [(0, .ref 256), (1, vi x1), (2, vi x2), (3, vi x3), (4, vi 1), (5, vi 1), (6, vi (x6 + 1))]) (show ([0, 1, 2, 3, 4, 5, 6] : List Nat).Nodup from by decide +kernel) ⟨rfl, rfl, rfl, rfl, rfl, rfl, rfl, trivial⟩ ?_
                exact ih s x1 x2 x3 1 1 (x6 + 1) hG f (by first | exact x_rb b_x1 rfl rfl | exact ⟨by omega, by omega⟩) (by first | exact x_rb b_x2 rfl rfl | exact ⟨by omega, by omega⟩) (by first | exact x_rb b_x3 rfl rfl | exact ⟨by omega, by omega⟩) ⟨by decide, by decide⟩ ⟨by decide, by decide⟩ ⟨by omega, by omega⟩ (by omega) (by omega)  (by omega)
          · skip
            refine x_A k164_51 (fun _ => rfl) ?_
            refine x_if_eq k164_53 (t := 60) rfl ⟨by decide, by decide⟩ (fun c579 => by exfalso; omega) (fun c579 => ?_)
            refine x_A k164_56 (fun _ => rfl) ?_
            refine x_goto k164_57 (t := 61) rfl ?_
            refine x_istore k164_61 (ls' := [(4, vi 1), (7, vi 1), (0, .ref 256), (1, vi x1), (2, vi x2), (3, vi x3), (5, vi x5), (6, vi x6)]) (by decide) rfl ?_
            refine x_A k164_63 (fun _ => rfl) ?_
            refine x_if_ne k164_65 (t := 89) rfl (by first | exact x_rb b_x5 rfl rfl | exact ⟨by omega, by omega⟩) (fun c580 => ?_) (fun c580 => ?_)
            · skip
              refine x_A k164_89 (fun _ => rfl) ?_
              refine x_goto k164_90 (t := 94) rfl ?_
              refine x_istore k164_94 (ls' := [(5, vi 1), (4, vi 1), (7, vi 1), (0, .ref 256), (1, vi x1), (2, vi x2), (3, vi x3), (6, vi x6)]) (by decide) rfl ?_
              refine x_iinc k164_96 (ls' := [(6, vi (x6 + 1)), (5, vi 1), (4, vi 1), (7, vi 1), (0, .ref 256), (1, vi x1), (2, vi x2), (3, vi x3)]) rfl (by decide) rfl ?_
              refine x_goto k164_99 (t := 9) rfl ?_
              refine x_ls (l := [(0, .ref 256), (1, vi x1), (2, vi x2), (3, vi x3), (4, vi 1), (5, vi 1), (6, vi (x6 + 1))]) (show ([0, 1, 2, 3, 4, 5, 6] : List Nat).Nodup from by decide +kernel) ⟨rfl, rfl, rfl, rfl, rfl, rfl, rfl, trivial⟩ ?_
              exact ih s x1 x2 x3 1 1 (x6 + 1) hG f (by first | exact x_rb b_x1 rfl rfl | exact ⟨by omega, by omega⟩) (by first | exact x_rb b_x2 rfl rfl | exact ⟨by omega, by omega⟩) (by first | exact x_rb b_x3 rfl rfl | exact ⟨by omega, by omega⟩) ⟨by decide, by decide⟩ ⟨by decide, by decide⟩ ⟨by omega, by omega⟩ (by omega) (by omega)  (by omega)
            · skip
              refine x_A k164_68 (fun _ => rfl) ?_
              refine x_if_eq k164_70 (t := 93) rfl ⟨by decide, by decide⟩ (fun c581 => by exfalso; omega) (fun c581 => ?_)
              refine x_A k164_73 (fun _ => rfl) ?_
              refine x_A k164_74 (fun _ => rfl) ?_
              refine x_A k164_75 (fun _ => rfl) ?_
              refine x_getR k164_76 (f := 23) rfl (q := 256) (n := 62) (kd := 15) ⟨by decide, rfl⟩ (q2 := 274) (by decide) rfl ?_
              refine x_A k164_79 (fun _ => rfl) ?_
              refine x_iald k164_81 (q := 274) (n := 72) ⟨by decide, rfl⟩ (by decide) (by first | exact x_rbl b_x6 rfl rfl | exact ⟨by omega, by omega⟩) ?_
              refine x_top (fun z582 e_z582 => ?_)
              have g_z582 : (-2147483648) ≤ s 274 x6.toNat ∧ s 274 x6.toNat ≤ 2147483647 := hG 274 x6.toNat
              refine x_A k164_82 (fun _ => rfl) ?_
              refine x_callV k164_83 (y := 143) (n := 3) (w0 := 0) (w1 := 3) (as := [vi x2, vi z582, vi x3]) (rest := []) (by decide +kernel) (q := 256) (nq := 62) (kq := 15) ⟨by decide, rfl⟩ rfl rfl rfl rfl (xe_mono (C_X11_isBelow_256 s hG (hJ0.fl f (by decide +kernel)) x2 (by first | exact x_rb b_x2 rfl rfl | exact ⟨by omega, by omega⟩) z582 (by first | exact x_rbe e_z582 g_z582 rfl rfl | exact x_rb g_z582 rfl rfl | exact ⟨by omega, by omega⟩) x3 (by first | exact x_rb b_x3 rfl rfl | exact ⟨by omega, by omega⟩)) ?_)
              rintro s584 v ⟨-, t_s584, z583, rfl, g_z583⟩
              rw [t_s584.nil]
              show xe none 164 86 [(4, vi 1), (7, vi 1), (0, .ref 256), (1, vi x1), (2, vi x2), (3, vi x3), (5, vi x5), (6, vi x6)] [vi z583] s 0 0 _
              refine x_if_eq k164_86 (t := 93) rfl (by first | exact x_rbe e_z583 g_z583 rfl rfl | exact x_rb g_z583 rfl rfl | exact ⟨by omega, by omega⟩) (fun c585 => ?_) (fun c585 => ?_)
              · skip
                refine x_A k164_93 (fun _ => rfl) ?_
                refine x_istore k164_94 (ls' := [(5, vi 0), (4, vi 1), (7, vi 1), (0, .ref 256), (1, vi x1), (2, vi x2), (3, vi x3), (6, vi x6)]) (by decide) rfl ?_
                refine x_iinc k164_96 (ls' := [(6, vi (x6 + 1)), (5, vi 0), (4, vi 1), (7, vi 1), (0, .ref 256), (1, vi x1), (2, vi x2), (3, vi x3)]) rfl (by decide) rfl ?_
                refine x_goto k164_99 (t := 9) rfl ?_
                refine x_ls (l := [(0, .ref 256), (1, vi x1), (2, vi x2), (3, vi x3), (4, vi 1), (5, vi 0), (6, vi (x6 + 1))]) (show ([0, 1, 2, 3, 4, 5, 6] : List Nat).Nodup from by decide +kernel) ⟨rfl, rfl, rfl, rfl, rfl, rfl, rfl, trivial⟩ ?_
                exact ih s x1 x2 x3 1 0 (x6 + 1) hG f (by first | exact x_rb b_x1 rfl rfl | exact ⟨by omega, by omega⟩) (by first | exact x_rb b_x2 rfl rfl | exact ⟨by omega, by omega⟩) (by first | exact x_rb b_x3 rfl rfl | exact ⟨by omega, by omega⟩) ⟨by decide, by decide⟩ ⟨by decide, by decide⟩ ⟨by omega, by omega⟩ (by omega) (by omega)  (by omega)
              · skip
                refine x_A k164_89 (fun _ => rfl) ?_
                refine x_goto k164_90 (t := 94) rfl ?_
                refine x_istore k164_94 (ls' := [(5, vi 1), (4, vi 1), (7, vi 1), (0, .ref 256), (1, vi x1), (2, vi x2), (3, vi x3), (6, vi x6)]) (by decide) rfl ?_
                refine x_iinc k164_96 (ls' := [(6, vi (x6 + 1)), (5, vi 1), (4, vi 1), (7, vi 1), (0, .ref 256), (1, vi x1), (2, vi x2), (3, vi x3)]) rfl (by decide) rfl ?_
                refine x_goto k164_99 (t := 9) rfl ?_
                refine x_ls (l := [(0, .ref 256), (1, vi x1), (2, vi x2), (3, vi x3), (4, vi 1), (5, vi 1), (6, vi (x6 + 1))]) (show ([0, 1, 2, 3, 4, 5, 6] : List Nat).Nodup from by decide +kernel) ⟨rfl, rfl, rfl, rfl, rfl, rfl, rfl, trivial⟩ ?_
                exact ih s x1 x2 x3 1 1 (x6 + 1) hG f (by first | exact x_rb b_x1 rfl rfl | exact ⟨by omega, by omega⟩) (by first | exact x_rb b_x2 rfl rfl | exact ⟨by omega, by omega⟩) (by first | exact x_rb b_x3 rfl rfl | exact ⟨by omega, by omega⟩) ⟨by decide, by decide⟩ ⟨by decide, by decide⟩ ⟨by omega, by omega⟩ (by omega) (by omega)  (by omega)
theorem C_X11_isAllowed_256 (s0 : xS) (hG0 : GI s0) (hJ0 : J s0) (a : Int) (b_a : (-2147483648) ≤ a ∧ a ≤ 2147483647) (b : Int) (b_b : (-2147483648) ≤ b ∧ b ≤ 2147483647) (d : Int) (b_d : 0 ≤ d ∧ d ≤ 9) : xe none 164 0 (lv_args 0 [.ref 256, vi a, vi b, vi d]) [] s0 0 0 (fun s' v => GI s' ∧ FL [] s0 s' ∧ ∃ z, v = some (vi z) ∧ (0 ≤ z ∧ z ≤ 1)) := by
  have f0 : FL [] s0 s0 := FL.rf
  show xe none 164 0 [(0, .ref 256), (1, vi a), (2, vi b), (3, vi d)] [] s0 0 0 _
  refine x_A k164_0 (fun _ => rfl) ?_
  refine x_istore k164_1 (ls' := [(4, vi 0), (0, .ref 256), (1, vi a), (2, vi b), (3, vi d)]) (by decide) rfl ?_
  refine x_A k164_3 (fun _ => rfl) ?_
  refine x_istore k164_4 (ls' := [(5, vi 0), (4, vi 0), (0, .ref 256), (1, vi a), (2, vi b), (3, vi d)]) (by decide) rfl ?_
  refine x_A k164_6 (fun _ => rfl) ?_
  refine x_istore k164_7 (ls' := [(6, vi 0), (5, vi 0), (4, vi 0), (0, .ref 256), (1, vi a), (2, vi b), (3, vi d)]) (by decide) rfl ?_
  refine x_ls (l := [(0, .ref 256), (1, vi a), (2, vi b), (3, vi d), (4, vi 0), (5, vi 0), (6, vi 0)]) (show ([0, 1, 2, 3, 4, 5, 6] : List Nat).Nodup from by decide +kernel) ⟨rfl, rfl, rfl, rfl, rfl, rfl, rfl, trivial⟩ ?_
  exact L_C_X11_isAllowed_256_9 s0 hJ0  (((64 - 0) + 1 : Int)).toNat s0 a b d 0 0 0 hG0 f0 (by first | exact x_rb b_a rfl rfl | exact ⟨by omega, by omega⟩) (by first | exact x_rb b_b rfl rfl | exact ⟨by omega, by omega⟩) (by first | exact x_rb b_d rfl rfl | exact ⟨by omega, by omega⟩) ⟨by decide, by decide⟩ ⟨by decide, by decide⟩ ⟨by decide, by decide⟩ (by omega) (by omega)  (by omega)
theorem L_C_X11_whyWrong_256_88 (s0 : xS) (hJ0 : J s0)  : ∀ (n : Nat) (s : xS) (x1 : Int) (x2 : Int) (x3 : Int) (x4 : Int) (hG : GI s) (f : FL [] s0 s) (b_x1 : 0 ≤ x1 ∧ x1 ≤ 119) (b_x2 : 0 ≤ x2 ∧ x2 ≤ 9) (b_x3 : 0 ≤ x3 ∧ x3 ≤ 120) (b_x4 : 0 ≤ x4 ∧ x4 ≤ 119) (r_3_4 : x3 ≤ x4 + 0) (r_4_1 : x4 ≤ x1 + 0)  (hm : (119 - x4) < (n : Int)), xe none 165 88 [(0, .ref 256), (1, vi x1), (2, vi x2), (3, vi x3), (4, vi x4)] [] s 0 0 (fun s' v => GI s' ∧ FL [] s0 s' ∧ ∃ z, v = some (vi z) ∧ (0 ≤ z ∧ z ≤ 4)) := by
  intro n
  induction n with
  | zero => intro s x1 x2 x3 x4 hG f b_x1 b_x2 b_x3 b_x4 r_3_4 r_4_1  hm; exfalso; omega
  | succ n ih =>
    intro s x1 x2 x3 x4 hG f b_x1 b_x2 b_x3 b_x4 r_3_4 r_4_1  hm
    refine x_A k165_88 (fun _ => rfl) ?_
    refine x_A k165_90 (fun _ => rfl) ?_
    refine x_ic_ge k165_91 (t := 134) rfl (by first | exact x_rb b_x4 rfl rfl | exact ⟨by omega, by omega⟩) (by first | exact x_rb b_x1 rfl rfl | exact ⟨by omega, by omega⟩) (fun c714 => ?_) (fun c714 => ?_)
    · skip
      refine x_A k165_134 (fun _ => rfl) ?_
      refine x_A k165_135 (fun _ => rfl) ?_
      refine x_getI k165_136 (f := 26) rfl (q := 256) (n := 62) (kd := 15) ⟨by decide, rfl⟩ (by decide) rfl ?_
      refine x_top (fun z715 e_z715 => ?_)
      have g_z715 : (-2147483648) ≤ s 256 26 ∧ s 256 26 ≤ 2147483647 := hG 256 26
      refine x_ic_lt k165_139 (t := 146) rfl (by first | exact x_rb b_x3 rfl rfl | exact ⟨by omega, by omega⟩) (by first | exact x_rbe e_z715 g_z715 rfl rfl | exact x_rb g_z715 rfl rfl | exact ⟨by omega, by omega⟩) (fun c716 => ?_) (fun c716 => ?_)
      · skip
        refine x_A k165_146 (fun _ => rfl) ?_
        exact x_iret k165_147 rfl ⟨hG, f, 0, rfl, ⟨by decide, by decide⟩⟩
      · skip
        refine x_A k165_142 (fun _ => rfl) ?_
        refine x_goto k165_143 (t := 147) rfl ?_
        exact x_iret k165_147 rfl ⟨hG, f, 4, rfl, ⟨by decide, by decide⟩⟩
    · skip
      refine x_A k165_94 (fun _ => rfl) ?_
      refine x_A k165_95 (fun _ => rfl) ?_
      refine x_getR k165_96 (f := 11) rfl (q := 256) (n := 62) (kd := 15) ⟨by decide, rfl⟩ (q2 := 264) (by decide) rfl ?_
      refine x_A k165_99 (fun _ => rfl) ?_
      refine x_iald k165_101 (q := 264) (n := 120) ⟨by decide, rfl⟩ (by decide) (by first | exact x_rbl b_x4 rfl rfl | exact ⟨by omega, by omega⟩) ?_
      refine x_top (fun z717 e_z717 => ?_)
      have g_z717 : (0 : Int) ≤ s 264 x4.toNat ∧ s 264 x4.toNat ≤ 39 := hG 264 x4.toNat
      refine x_A k165_102 (fun _ => rfl) ?_
      refine x_getR k165_103 (f := 11) rfl (q := 256) (n := 62) (kd := 15) ⟨by decide, rfl⟩ (q2 := 264) (by decide) rfl ?_
      refine x_A k165_106 (fun _ => rfl) ?_
      refine x_iald k165_107 (q := 264) (n := 120) ⟨by decide, rfl⟩ (by decide) (by first | exact x_rbl b_x1 rfl rfl | exact ⟨by omega, by omega⟩) ?_
      refine x_top (fun z718 e_z718 => ?_)
      have g_z718 : (0 : Int) ≤ s 264 x1.toNat ∧ s 264 x1.toNat ≤ 39 := hG 264 x1.toNat
      refine x_ic_ne k165_108 (t := 125) rfl (by first | exact x_rbe e_z717 g_z717 rfl rfl | exact x_rb g_z717 rfl rfl | exact ⟨by omega, by omega⟩) (by first | exact x_rbe e_z718 g_z718 rfl rfl | exact x_rb g_z718 rfl rfl | exact ⟨by omega, by omega⟩) (fun c719 => ?_) (fun c719 => ?_)
      · skip
        refine x_A k165_125 (fun _ => rfl) ?_
        refine x_iadd k165_126 ?_
        refine x_top (fun z720 e_z720 => ?_)
        refine x_istore_n k165_127 (ls' := [(3, vi z720), (0, .ref 256), (1, vi x1), (2, vi x2), (4, vi x4)]) (by decide) rfl ?_
        refine x_iinc k165_128 (ls' := [(4, vi (x4 + 1)), (3, vi z720), (0, .ref 256), (1, vi x1), (2, vi x2)]) rfl (by decide) rfl ?_
        refine x_goto k165_131 (t := 88) rfl ?_
        refine x_ls (l := [(0, .ref 256), (1, vi x1), (2, vi x2), (3, vi z720), (4, vi (x4 + 1))]) (show ([0, 1, 2, 3, 4] : List Nat).Nodup from by decide +kernel) ⟨rfl, rfl, rfl, rfl, rfl, trivial⟩ ?_
        exact ih s x1 x2 z720 (x4 + 1) hG f (by first | exact x_rb b_x1 rfl rfl | exact ⟨by omega, by omega⟩) (by first | exact x_rb b_x2 rfl rfl | exact ⟨by omega, by omega⟩) (by first | exact x_rbe e_z720 g_z720 rfl rfl | exact x_rb g_z720 rfl rfl | exact ⟨by omega, by omega⟩) ⟨by omega, by omega⟩ (by omega) (by omega)  (by omega)
      · skip
        refine x_A k165_111 (fun _ => rfl) ?_
        refine x_getR k165_112 (f := 27) rfl (q := 256) (n := 62) (kd := 15) ⟨by decide, rfl⟩ (q2 := 277) (by decide) rfl ?_
        refine x_A k165_115 (fun _ => rfl) ?_
        refine x_iald k165_117 (q := 277) (n := 120) ⟨by decide, rfl⟩ (by decide) (by first | exact x_rbl b_x4 rfl rfl | exact ⟨by omega, by omega⟩) ?_
        refine x_top (fun z721 e_z721 => ?_)
        have g_z721 : (0 : Int) ≤ s 277 x4.toNat ∧ s 277 x4.toNat ≤ 4 := hG 277 x4.toNat
        refine x_if_ne k165_118 (t := 125) rfl (by first | exact x_rbe e_z721 g_z721 rfl rfl | exact x_rb g_z721 rfl rfl | exact ⟨by omega, by omega⟩) (fun c722 => ?_) (fun c722 => ?_)
        · skip
          refine x_A k165_125 (fun _ => rfl) ?_
          refine x_iadd k165_126 ?_
          refine x_top (fun z723 e_z723 => ?_)
          refine x_istore_n k165_127 (ls' := [(3, vi z723), (0, .ref 256), (1, vi x1), (2, vi x2), (4, vi x4)]) (by decide) rfl ?_
          refine x_iinc k165_128 (ls' := [(4, vi (x4 + 1)), (3, vi z723), (0, .ref 256), (1, vi x1), (2, vi x2)]) rfl (by decide) rfl ?_
          refine x_goto k165_131 (t := 88) rfl ?_
          refine x_ls (l := [(0, .ref 256), (1, vi x1), (2, vi x2), (3, vi z723), (4, vi (x4 + 1))]) (show ([0, 1, 2, 3, 4] : List Nat).Nodup from by decide +kernel) ⟨rfl, rfl, rfl, rfl, rfl, trivial⟩ ?_
          exact ih s x1 x2 z723 (x4 + 1) hG f (by first | exact x_rb b_x1 rfl rfl | exact ⟨by omega, by omega⟩) (by first | exact x_rb b_x2 rfl rfl | exact ⟨by omega, by omega⟩) (by first | exact x_rbe e_z723 g_z723 rfl rfl | exact x_rb g_z723 rfl rfl | exact ⟨by omega, by omega⟩) ⟨by omega, by omega⟩ (by omega) (by omega)  (by omega)
        · skip
          refine x_A k165_121 (fun _ => rfl) ?_
          refine x_goto k165_122 (t := 126) rfl ?_
          refine x_iadd k165_126 ?_
          refine x_top (fun z724 e_z724 => ?_)
          refine x_istore_n k165_127 (ls' := [(3, vi z724), (0, .ref 256), (1, vi x1), (2, vi x2), (4, vi x4)]) (by decide) rfl ?_
          refine x_iinc k165_128 (ls' := [(4, vi (x4 + 1)), (3, vi z724), (0, .ref 256), (1, vi x1), (2, vi x2)]) rfl (by decide) rfl ?_
          refine x_goto k165_131 (t := 88) rfl ?_
          refine x_ls (l := [(0, .ref 256), (1, vi x1), (2, vi x2), (3, vi z724), (4, vi (x4 + 1))]) (show ([0, 1, 2, 3, 4] : List Nat).Nodup from by decide +kernel) ⟨rfl, rfl, rfl, rfl, rfl, trivial⟩ ?_
          exact ih s x1 x2 z724 (x4 + 1) hG f (by first | exact x_rb b_x1 rfl rfl | exact ⟨by omega, by omega⟩) (by first | exact x_rb b_x2 rfl rfl | exact ⟨by omega, by omega⟩) (by first | exact x_rbe e_z724 g_z724 rfl rfl | exact x_rb g_z724 rfl rfl | exact ⟨by omega, by omega⟩) ⟨by omega, by omega⟩ (by omega) (by omega)  (by omega)
theorem L_C_X11_whyWrong_256_25 (s0 : xS) (hJ0 : J s0)  : ∀ (n : Nat) (s : xS) (x1 : Int) (x2 : Int) (x3 : Int) (hG : GI s) (f : FL [] s0 s) (b_x1 : 0 ≤ x1 ∧ x1 ≤ 119) (b_x2 : 0 ≤ x2 ∧ x2 ≤ 9) (b_x3 : 0 ≤ x3 ∧ x3 ≤ 6)  (hm : (6 - x3) < (n : Int)), xe none 165 25 [(0, .ref 256), (1, vi x1), (2, vi x2), (3, vi x3)] [] s 0 0 (fun s' v => GI s' ∧ FL [] s0 s' ∧ ∃ z, v = some (vi z) ∧ (0 ≤ z ∧ z ≤ 4)) := by
  intro n
  induction n with
  | zero => intro s x1 x2 x3 hG f b_x1 b_x2 b_x3  hm; exfalso; omega
  | succ n ih =>
    intro s x1 x2 x3 hG f b_x1 b_x2 b_x3  hm
    refine x_A k165_25 (fun _ => rfl) ?_
    refine x_bipush k165_26 (by decide +kernel) ?_
    refine x_ic_ge k165_28 (t := 68) rfl (by first | exact x_rb b_x3 rfl rfl | exact ⟨by omega, by omega⟩) ⟨by decide, by decide⟩ (fun c725 => ?_) (fun c725 => ?_)
    · skip
      refine x_A k165_68 (fun _ => rfl) ?_
      refine x_A k165_69 (fun _ => rfl) ?_
      refine x_getR k165_70 (f := 14) rfl (q := 256) (n := 62) (kd := 15) ⟨by decide, rfl⟩ (q2 := 267) (by decide) rfl ?_
      refine x_A k165_73 (fun _ => rfl) ?_
      refine x_iald k165_74 (q := 267) (n := 120) ⟨by decide, rfl⟩ (by decide) (by first | exact x_rbl b_x1 rfl rfl | exact ⟨by omega, by omega⟩) ?_
      refine x_top (fun z726 e_z726 => ?_)
      have g_z726 : (0 : Int) ≤ s 267 x1.toNat ∧ s 267 x1.toNat ≤ 63 := hG 267 x1.toNat
      refine x_callV k165_75 (y := 163) (n := 1) (w0 := 0) (w1 := 1) (as := [vi z726]) (rest := []) (by decide +kernel) (q := 256) (nq := 62) (kq := 15) ⟨by decide, rfl⟩ rfl rfl rfl rfl (xe_mono (C_X11_isBarred_256 s hG (hJ0.fl f (by decide +kernel)) z726 (by first | exact x_rbe e_z726 g_z726 rfl rfl | exact x_rb g_z726 rfl rfl | exact ⟨by omega, by omega⟩)) ?_)
      rintro s728 v ⟨-, t_s728, z727, rfl, g_z727⟩
      rw [t_s728.nil]
      show xe none 165 78 [(0, .ref 256), (1, vi x1), (2, vi x2), (3, vi x3)] [vi z727] s 0 0 _
      refine x_if_eq k165_78 (t := 83) rfl (by first | exact x_rbe e_z727 g_z727 rfl rfl | exact x_rb g_z727 rfl rfl | exact ⟨by omega, by omega⟩) (fun c729 => ?_) (fun c729 => ?_)
      · skip
        refine x_A k165_83 (fun _ => rfl) ?_
        refine x_istore_n k165_84 (ls' := [(3, vi 0), (0, .ref 256), (1, vi x1), (2, vi x2)]) (by decide) rfl ?_
        refine x_A k165_85 (fun _ => rfl) ?_
        refine x_istore k165_86 (ls' := [(4, vi 0), (3, vi 0), (0, .ref 256), (1, vi x1), (2, vi x2)]) (by decide) rfl ?_
        refine x_ls (l := [(0, .ref 256), (1, vi x1), (2, vi x2), (3, vi 0), (4, vi 0)]) (show ([0, 1, 2, 3, 4] : List Nat).Nodup from by decide +kernel) ⟨rfl, rfl, rfl, rfl, rfl, trivial⟩ ?_
        exact L_C_X11_whyWrong_256_88 s0 hJ0  (((119 - 0) + 1 : Int)).toNat s x1 x2 0 0 hG f (by first | exact x_rb b_x1 rfl rfl | exact ⟨by omega, by omega⟩) (by first | exact x_rb b_x2 rfl rfl | exact ⟨by omega, by omega⟩) ⟨by decide, by decide⟩ ⟨by decide, by decide⟩ (by omega) (by omega)  (by omega)
      · skip
        refine x_A k165_81 (fun _ => rfl) ?_
        exact x_iret k165_82 rfl ⟨hG, f, 3, rfl, ⟨by decide, by decide⟩⟩
    · skip
      refine x_A k165_31 (fun _ => rfl) ?_
      refine x_getR k165_32 (f := 14) rfl (q := 256) (n := 62) (kd := 15) ⟨by decide, rfl⟩ (q2 := 267) (by decide) rfl ?_
      refine x_A k165_35 (fun _ => rfl) ?_
      refine x_iald k165_36 (q := 267) (n := 120) ⟨by decide, rfl⟩ (by decide) (by first | exact x_rbl b_x1 rfl rfl | exact ⟨by omega, by omega⟩) ?_
      refine x_top (fun z730 e_z730 => ?_)
      have g_z730 : (0 : Int) ≤ s 267 x1.toNat ∧ s 267 x1.toNat ≤ 63 := hG 267 x1.toNat
      refine x_A k165_37 (fun _ => rfl) ?_
      refine x_ishr_any k165_38 (fun z731 g_z731 => ?_)
      unfold in32 at g_z731
      refine x_A k165_39 (fun _ => rfl) ?_
      refine x_and_mask k165_40 ⟨by omega, by omega⟩ (fun z732 g_z732 => ?_)
      refine x_A k165_41 (fun _ => rfl) ?_
      refine x_ic_ne k165_42 (t := 62) rfl (by first | exact x_rbe e_z732 g_z732 rfl rfl | exact x_rb g_z732 rfl rfl | exact ⟨by omega, by omega⟩) ⟨by decide, by decide⟩ (fun c733 => ?_) (fun c733 => ?_)
      · skip
        refine x_iinc k165_62 (ls' := [(3, vi (x3 + 1)), (0, .ref 256), (1, vi x1), (2, vi x2)]) rfl (by decide) rfl ?_
        refine x_goto k165_65 (t := 25) rfl ?_
        refine x_ls (l := [(0, .ref 256), (1, vi x1), (2, vi x2), (3, vi (x3 + 1))]) (show ([0, 1, 2, 3] : List Nat).Nodup from by decide +kernel) ⟨rfl, rfl, rfl, rfl, trivial⟩ ?_
        exact ih s x1 x2 (x3 + 1) hG f (by first | exact x_rb b_x1 rfl rfl | exact ⟨by omega, by omega⟩) (by first | exact x_rb b_x2 rfl rfl | exact ⟨by omega, by omega⟩) ⟨by omega, by omega⟩  (by omega)
      · skip
        refine x_A k165_45 (fun _ => rfl) ?_
        refine x_A k165_46 (fun _ => rfl) ?_
        refine x_A k165_47 (fun _ => rfl) ?_
        refine x_getR k165_48 (f := 12) rfl (q := 256) (n := 62) (kd := 15) ⟨by decide, rfl⟩ (q2 := 265) (by decide) rfl ?_
        refine x_A k165_51 (fun _ => rfl) ?_
        refine x_iald k165_52 (q := 265) (n := 120) ⟨by decide, rfl⟩ (by decide) (by first | exact x_rbl b_x1 rfl rfl | exact ⟨by omega, by omega⟩) ?_
        refine x_top (fun z734 e_z734 => ?_)
        have g_z734 : (0 : Int) ≤ s 265 x1.toNat ∧ s 265 x1.toNat ≤ 39 := hG 265 x1.toNat
        refine x_A k165_53 (fun _ => rfl) ?_
        refine x_callV k165_54 (y := 164) (n := 3) (w0 := 0) (w1 := 3) (as := [vi x3, vi z734, vi x2]) (rest := []) (by decide +kernel) (q := 256) (nq := 62) (kq := 15) ⟨by decide, rfl⟩ rfl rfl rfl rfl (xe_mono (C_X11_isAllowed_256 s hG (hJ0.fl f (by decide +kernel)) x3 (by first | exact x_rb b_x3 rfl rfl | exact ⟨by omega, by omega⟩) z734 (by first | exact x_rbe e_z734 g_z734 rfl rfl | exact x_rb g_z734 rfl rfl | exact ⟨by omega, by omega⟩) x2 (by first | exact x_rb b_x2 rfl rfl | exact ⟨by omega, by omega⟩)) ?_)
        rintro s736 v ⟨-, t_s736, z735, rfl, g_z735⟩
        rw [t_s736.nil]
        show xe none 165 57 [(0, .ref 256), (1, vi x1), (2, vi x2), (3, vi x3)] [vi z735] s 0 0 _
        refine x_if_ne k165_57 (t := 62) rfl (by first | exact x_rbe e_z735 g_z735 rfl rfl | exact x_rb g_z735 rfl rfl | exact ⟨by omega, by omega⟩) (fun c737 => ?_) (fun c737 => ?_)
        · skip
          refine x_iinc k165_62 (ls' := [(3, vi (x3 + 1)), (0, .ref 256), (1, vi x1), (2, vi x2)]) rfl (by decide) rfl ?_
          refine x_goto k165_65 (t := 25) rfl ?_
          refine x_ls (l := [(0, .ref 256), (1, vi x1), (2, vi x2), (3, vi (x3 + 1))]) (show ([0, 1, 2, 3] : List Nat).Nodup from by decide +kernel) ⟨rfl, rfl, rfl, rfl, trivial⟩ ?_
          exact ih s x1 x2 (x3 + 1) hG f (by first | exact x_rb b_x1 rfl rfl | exact ⟨by omega, by omega⟩) (by first | exact x_rb b_x2 rfl rfl | exact ⟨by omega, by omega⟩) ⟨by omega, by omega⟩  (by omega)
        · skip
          refine x_A k165_60 (fun _ => rfl) ?_
          exact x_iret k165_61 rfl ⟨hG, f, 2, rfl, ⟨by decide, by decide⟩⟩
theorem C_X11_whyWrong_256 (s0 : xS) (hG0 : GI s0) (hJ0 : J s0) (a : Int) (b_a : 0 ≤ a ∧ a ≤ 119) : xe none 165 0 (lv_args 0 [.ref 256, vi a]) [] s0 0 0 (fun s' v => GI s' ∧ FL [] s0 s' ∧ ∃ z, v = some (vi z) ∧ (0 ≤ z ∧ z ≤ 4)) := by
  have f0 : FL [] s0 s0 := FL.rf
  show xe none 165 0 [(0, .ref 256), (1, vi a)] [] s0 0 0 _
  refine x_A k165_0 (fun _ => rfl) ?_
  refine x_getR k165_1 (f := 15) rfl (q := 256) (n := 62) (kd := 15) ⟨by decide, rfl⟩ (q2 := 268) (by decide) rfl ?_
  refine x_A k165_4 (fun _ => rfl) ?_
  refine x_iald k165_5 (q := 268) (n := 120) ⟨by decide, rfl⟩ (by decide) (by first | exact x_rbl b_a rfl rfl | exact ⟨by omega, by omega⟩) ?_
  refine x_top (fun z738 e_z738 => ?_)
  have g_z738 : (0 : Int) ≤ s0 268 a.toNat ∧ s0 268 a.toNat ≤ 9 := hG0 268 a.toNat
  refine x_istore_n k165_6 (ls' := [(2, vi z738), (0, .ref 256), (1, vi a)]) (by decide) rfl ?_
  refine x_A k165_7 (fun _ => rfl) ?_
  refine x_A k165_8 (fun _ => rfl) ?_
  refine x_getR k165_9 (f := 12) rfl (q := 256) (n := 62) (kd := 15) ⟨by decide, rfl⟩ (q2 := 265) (by decide) rfl ?_
  refine x_A k165_12 (fun _ => rfl) ?_
  refine x_iald k165_13 (q := 265) (n := 120) ⟨by decide, rfl⟩ (by decide) (by first | exact x_rbl b_a rfl rfl | exact ⟨by omega, by omega⟩) ?_
  refine x_top (fun z739 e_z739 => ?_)
  have g_z739 : (0 : Int) ≤ s0 265 a.toNat ∧ s0 265 a.toNat ≤ 39 := hG0 265 a.toNat
  refine x_A k165_14 (fun _ => rfl) ?_
  obtain ⟨z740, e_z740⟩ : ∃ z, z = s0 256 1 := ⟨_, rfl⟩
  have g_z740 : (1 : Int) ≤ s0 256 1 ∧ s0 256 1 ≤ 40 := hG0 256 1
  refine x_callV k165_15 (y := 142) (n := 2) (w0 := 0) (w1 := 2) (as := [vi z739, vi z738]) (rest := []) (by decide +kernel) (q := 256) (nq := 62) (kq := 15) ⟨by decide, rfl⟩ rfl rfl rfl rfl (xe_mono (C_X11_isThere_256 s0 hG0 z739 (by first | exact x_rbe e_z739 g_z739 rfl rfl | exact x_rb g_z739 rfl rfl | exact ⟨by omega, by omega⟩) z738 (by first | exact x_rbe e_z738 g_z738 rfl rfl | exact x_rb g_z738 rfl rfl | exact ⟨by omega, by omega⟩)) ?_)
  rintro s742 v ⟨h_s742, z741, rfl, hz_z741⟩
  rw [h_s742]
  rcases hz_z741 with ⟨c_z741, e_z741, m_z741⟩ | ⟨e_z741, m_z741⟩
  · rw [e_z741]
    show xe none 165 18 [(2, vi z738), (0, .ref 256), (1, vi a)] [vi 1] s0 0 0 _
    refine x_if_ne k165_18 (t := 23) rfl ⟨by decide, by decide⟩ (fun c743 => ?_) (fun c743 => by exfalso; omega)
    refine x_A k165_23 (fun _ => rfl) ?_
    refine x_istore_n k165_24 (ls' := [(3, vi 0), (2, vi z738), (0, .ref 256), (1, vi a)]) (by decide) rfl ?_
    refine x_ls (l := [(0, .ref 256), (1, vi a), (2, vi z738), (3, vi 0)]) (show ([0, 1, 2, 3] : List Nat).Nodup from by decide +kernel) ⟨rfl, rfl, rfl, rfl, trivial⟩ ?_
    exact L_C_X11_whyWrong_256_25 s0 hJ0  (((6 - 0) + 1 : Int)).toNat s0 a z738 0 hG0 f0 (by first | exact x_rb b_a rfl rfl | exact ⟨by omega, by omega⟩) (by first | exact x_rbe e_z738 g_z738 rfl rfl | exact x_rb g_z738 rfl rfl | exact ⟨by omega, by omega⟩) ⟨by decide, by decide⟩  (by omega)
  · rw [e_z741]
    show xe none 165 18 [(2, vi z738), (0, .ref 256), (1, vi a)] [vi 0] s0 0 0 _
    refine x_if_ne k165_18 (t := 23) rfl ⟨by decide, by decide⟩ (fun c744 => by exfalso; omega) (fun c744 => ?_)
    refine x_A k165_21 (fun _ => rfl) ?_
    exact x_iret k165_22 rfl ⟨hG0, f0, 1, rfl, ⟨by decide, by decide⟩⟩
theorem L_C_X11_findWrong_256_61 (s0 : xS) (hJ0 : J s0) (n_4 : Nat) (ih_4 : ∀ (s : xS) (x1 : Int) (x2 : Int) (hG : GI s) (f : FL [5312, 5376, 4123, 5440, 5504, 5568] s0 s) (b_x1 : (-1) ≤ x1 ∧ x1 ≤ 9) (b_x2 : 0 ≤ x2 ∧ x2 ≤ 120) (hm : (120 - x2) < (n_4 : Int)), xe none 166 4 [(0, .ref 256), (1, vi x1), (2, vi x2)] [] s 0 0 (fun s' v => GI s' ∧ FL [5312, 5376, 4123, 5440, 5504, 5568] s0 s' ∧ v = none)) : ∀ (n : Nat) (s : xS) (x1 : Int) (x2 : Int) (x3 : Int) (hG : GI s) (f : FL [5312, 5376, 4123, 5440, 5504, 5568] s0 s) (b_x1 : 0 ≤ x1 ∧ x1 ≤ 9) (b_x2 : 0 ≤ x2 ∧ x2 ≤ 119) (b_x3 : 0 ≤ x3 ∧ x3 ≤ 6) (w_0 : s 279 x2.toNat ≤ x3) (k_4 : (120 - x2) < (n_4 : Int) + 1) (hm : (6 - x3) < (n : Int)), xe none 166 61 [(0, .ref 256), (1, vi x1), (2, vi x2), (3, vi x3)] [] s 0 0 (fun s' v => GI s' ∧ FL [5312, 5376, 4123, 5440, 5504, 5568] s0 s' ∧ v = none) := by
  intro n
  induction n with
  | zero => intro s x1 x2 x3 hG f b_x1 b_x2 b_x3 w_0 k_4 hm; exfalso; omega
  | succ n ih =>
    intro s x1 x2 x3 hG f b_x1 b_x2 b_x3 w_0 k_4 hm
    refine x_A k166_61 (fun _ => rfl) ?_
    refine x_bipush k166_62 (by decide +kernel) ?_
    refine x_ic_ge k166_64 (t := 158) rfl (by first | exact x_rb b_x3 rfl rfl | exact ⟨by omega, by omega⟩) ⟨by decide, by decide⟩ (fun c3099 => ?_) (fun c3099 => ?_)
    · skip
      refine x_iinc k166_158 (ls' := [(2, vi (x2 + 1)), (0, .ref 256), (1, vi x1), (3, vi x3)]) rfl (by decide) rfl ?_
      refine x_goto k166_161 (t := 4) rfl ?_
      refine x_ls (l := [(0, .ref 256), (1, vi x1), (2, vi (x2 + 1))]) (show ([0, 1, 2] : List Nat).Nodup from by decide +kernel) ⟨rfl, rfl, rfl, trivial⟩ ?_
      exact ih_4 s x1 (x2 + 1) hG f (by first | exact x_rb b_x1 rfl rfl | exact ⟨by omega, by omega⟩) ⟨by omega, by omega⟩ (by omega)
    · skip
      obtain ⟨z3100, e_z3100⟩ : ∃ z, z = s 279 x2.toNat := ⟨_, rfl⟩
      have g_z3100 : (0 : Int) ≤ s 279 x2.toNat ∧ s 279 x2.toNat ≤ 6 := hG 279 x2.toNat
      refine x_A k166_67 (fun _ => rfl) ?_
      refine x_getR k166_68 (f := 14) rfl (q := 256) (n := 62) (kd := 15) ⟨by decide, rfl⟩ (q2 := 267) (by decide) rfl ?_
      refine x_A k166_71 (fun _ => rfl) ?_
      refine x_iald k166_72 (q := 267) (n := 120) ⟨by decide, rfl⟩ (by decide) (by first | exact x_rbl b_x2 rfl rfl | exact ⟨by omega, by omega⟩) ?_
      refine x_top (fun z3101 e_z3101 => ?_)
      have g_z3101 : (0 : Int) ≤ s 267 x2.toNat ∧ s 267 x2.toNat ≤ 63 := hG 267 x2.toNat
      refine x_A k166_73 (fun _ => rfl) ?_
      refine x_ishr_any k166_74 (fun z3102 g_z3102 => ?_)
      unfold in32 at g_z3102
      refine x_A k166_75 (fun _ => rfl) ?_
      refine x_and_mask k166_76 ⟨by omega, by omega⟩ (fun z3103 g_z3103 => ?_)
      refine x_A k166_77 (fun _ => rfl) ?_
      refine x_ic_ne k166_78 (t := 85) rfl (by first | exact x_rbe e_z3103 g_z3103 rfl rfl | exact x_rb g_z3103 rfl rfl | exact ⟨by omega, by omega⟩) ⟨by decide, by decide⟩ (fun c3104 => ?_) (fun c3104 => ?_)
      · skip
        refine x_A k166_85 (fun _ => rfl) ?_
        refine x_istore k166_86 (ls' := [(4, vi 0), (0, .ref 256), (1, vi x1), (2, vi x2), (3, vi x3)]) (by decide) rfl ?_
        refine x_A k166_88 (fun _ => rfl) ?_
        refine x_getR k166_89 (f := 28) rfl (q := 256) (n := 62) (kd := 15) ⟨by decide, rfl⟩ (q2 := 278) (by decide) rfl ?_
        refine x_A k166_92 (fun _ => rfl) ?_
        refine x_A k166_93 (fun _ => rfl) ?_
        refine x_getR k166_94 (f := 28) rfl (q := 256) (n := 62) (kd := 15) ⟨by decide, rfl⟩ (q2 := 278) (by decide) rfl ?_
        refine x_A k166_97 (fun _ => rfl) ?_
        refine x_bald k166_98 (q := 278) (n := 120) ⟨by decide, rfl⟩ (by decide) (by first | exact x_rbl b_x2 rfl rfl | exact ⟨by omega, by omega⟩) ?_
        refine x_top (fun z3105 e_z3105 => ?_)
        have g_z3105 : (0 : Int) ≤ s 278 x2.toNat ∧ s 278 x2.toNat ≤ 1 := hG 278 x2.toNat
        refine x_if_ne k166_99 (t := 117) rfl (by first | exact x_rbe e_z3105 g_z3105 rfl rfl | exact x_rb g_z3105 rfl rfl | exact ⟨by omega, by omega⟩) (fun c3106 => ?_) (fun c3106 => ?_)
        · skip
          refine x_A k166_117 (fun _ => rfl) ?_
          refine x_goto k166_118 (t := 122) rfl ?_
          refine x_bast k166_122 (q := 278) (n := 120) ⟨by decide, rfl⟩ (by decide) (by first | exact x_rbl b_x2 rfl rfl | exact ⟨by omega, by omega⟩) ⟨by omega, by omega⟩ ?_
          refine x_nh (fun s3107 e_s3107 => ?_)
          have hG_s3107 : GI s3107 := by rw [e_s3107]; exact hG.up (show 0 ≤ 1 ∧ 1 ≤ 1 from ⟨by decide, by decide⟩)
          have f_s3107 : FL [5312, 5376, 4123, 5440, 5504, 5568] s0 s3107 := by rw [e_s3107]; exact f.up (show 5504 ∈ [5312, 5376, 4123, 5440, 5504, 5568] from by decide +kernel)
          have q3108 : s3107 279 x2.toNat = z3100 := by rw [e_s3107, x_up_q (by first | decide | omega)]; exact e_z3100.symm
          have q3109 : s3107 267 x2.toNat = z3101 := by rw [e_s3107, x_up_q (by first | decide | omega)]; exact e_z3101.symm
          have q3110 : s3107 278 x2.toNat = 1 := by rw [e_s3107]; exact x_up_same
          refine x_A k166_123 (fun _ => rfl) ?_
          refine x_getR k166_124 (f := 29) rfl (q := 256) (n := 62) (kd := 15) ⟨by decide, rfl⟩ (q2 := 279) (by decide) rfl ?_
          refine x_A k166_127 (fun _ => rfl) ?_
          refine x_A k166_128 (fun _ => rfl) ?_
          refine x_iald k166_129 (q := 279) (n := 120) ⟨by decide, rfl⟩ (by decide) (by first | exact x_rbl b_x2 rfl rfl | exact ⟨by omega, by omega⟩) ?_
          rw [q3108]
          refine x_A k166_130 (fun _ => rfl) ?_
          refine x_if_eq k166_132 (t := 149) rfl ⟨by decide, by decide⟩ (fun c3111 => ?_) (fun c3111 => by exfalso; omega)
          refine x_A k166_149 (fun _ => rfl) ?_
          refine x_iadd k166_150 ?_
          refine x_top (fun z3112 e_z3112 => ?_)
          refine x_iast k166_151 (q := 279) (n := 120) ⟨by decide, rfl⟩ (by decide) (by first | exact x_rbl b_x2 rfl rfl | exact ⟨by omega, by omega⟩) ?_
          refine x_nh (fun s3113 e_s3113 => ?_)
          have hG_s3113 : GI s3113 := by rw [e_s3113]; exact hG_s3107.up (show 0 ≤ z3112 ∧ z3112 ≤ 6 from (by first | exact x_rbe e_z3112 g_z3112 rfl rfl | exact x_rb g_z3112 rfl rfl | exact ⟨by omega, by omega⟩))
          have f_s3113 : FL [5312, 5376, 4123, 5440, 5504, 5568] s0 s3113 := by rw [e_s3113]; exact f_s3107.up (show 5568 ∈ [5312, 5376, 4123, 5440, 5504, 5568] from by decide +kernel)
          have q3114 : s3113 267 x2.toNat = z3101 := by rw [e_s3113, x_up_q (by first | decide | omega)]; exact q3109
          have q3115 : s3113 278 x2.toNat = 1 := by rw [e_s3113, x_up_q (by first | decide | omega)]; exact q3110
          have q3116 : s3113 279 x2.toNat = z3112 := by rw [e_s3113]; exact x_up_same
          refine x_iinc k166_152 (ls' := [(3, vi (x3 + 1)), (4, vi 0), (0, .ref 256), (1, vi x1), (2, vi x2)]) rfl (by decide) rfl ?_
          refine x_goto k166_155 (t := 61) rfl ?_
          refine x_ls (l := [(0, .ref 256), (1, vi x1), (2, vi x2), (3, vi (x3 + 1))]) (show ([0, 1, 2, 3] : List Nat).Nodup from by decide +kernel) ⟨rfl, rfl, rfl, rfl, trivial⟩ ?_
          exact ih s3113 x1 x2 (x3 + 1) hG_s3113 f_s3113 (by first | exact x_rb b_x1 rfl rfl | exact ⟨by omega, by omega⟩) (by first | exact x_rb b_x2 rfl rfl | exact ⟨by omega, by omega⟩) ⟨by omega, by omega⟩ (by omega) (by omega) (by omega)
        · skip
          refine x_A k166_102 (fun _ => rfl) ?_
          refine x_if_eq k166_104 (t := 121) rfl ⟨by decide, by decide⟩ (fun c3117 => ?_) (fun c3117 => by exfalso; omega)
          refine x_A k166_121 (fun _ => rfl) ?_
          refine x_bast k166_122 (q := 278) (n := 120) ⟨by decide, rfl⟩ (by decide) (by first | exact x_rbl b_x2 rfl rfl | exact ⟨by omega, by omega⟩) ⟨by omega, by omega⟩ ?_
          refine x_nh (fun s3118 e_s3118 => ?_)
          have hG_s3118 : GI s3118 := by rw [e_s3118]; exact hG.up (show 0 ≤ 0 ∧ 0 ≤ 1 from ⟨by decide, by decide⟩)
          have f_s3118 : FL [5312, 5376, 4123, 5440, 5504, 5568] s0 s3118 := by rw [e_s3118]; exact f.up (show 5504 ∈ [5312, 5376, 4123, 5440, 5504, 5568] from by decide +kernel)
          have q3119 : s3118 279 x2.toNat = z3100 := by rw [e_s3118, x_up_q (by first | decide | omega)]; exact e_z3100.symm
          have q3120 : s3118 267 x2.toNat = z3101 := by rw [e_s3118, x_up_q (by first | decide | omega)]; exact e_z3101.symm
          have q3121 : s3118 278 x2.toNat = 0 := by rw [e_s3118]; exact x_up_same
          refine x_A k166_123 (fun _ => rfl) ?_
          refine x_getR k166_124 (f := 29) rfl (q := 256) (n := 62) (kd := 15) ⟨by decide, rfl⟩ (q2 := 279) (by decide) rfl ?_
          refine x_A k166_127 (fun _ => rfl) ?_
          refine x_A k166_128 (fun _ => rfl) ?_
          refine x_iald k166_129 (q := 279) (n := 120) ⟨by decide, rfl⟩ (by decide) (by first | exact x_rbl b_x2 rfl rfl | exact ⟨by omega, by omega⟩) ?_
          rw [q3119]
          refine x_A k166_130 (fun _ => rfl) ?_
          refine x_if_eq k166_132 (t := 149) rfl ⟨by decide, by decide⟩ (fun c3122 => ?_) (fun c3122 => by exfalso; omega)
          refine x_A k166_149 (fun _ => rfl) ?_
          refine x_iadd k166_150 ?_
          refine x_top (fun z3123 e_z3123 => ?_)
          refine x_iast k166_151 (q := 279) (n := 120) ⟨by decide, rfl⟩ (by decide) (by first | exact x_rbl b_x2 rfl rfl | exact ⟨by omega, by omega⟩) ?_
          refine x_nh (fun s3124 e_s3124 => ?_)
          have hG_s3124 : GI s3124 := by rw [e_s3124]; exact hG_s3118.up (show 0 ≤ z3123 ∧ z3123 ≤ 6 from (by first | exact x_rbe e_z3123 g_z3123 rfl rfl | exact x_rb g_z3123 rfl rfl | exact ⟨by omega, by omega⟩))
          have f_s3124 : FL [5312, 5376, 4123, 5440, 5504, 5568] s0 s3124 := by rw [e_s3124]; exact f_s3118.up (show 5568 ∈ [5312, 5376, 4123, 5440, 5504, 5568] from by decide +kernel)
          have q3125 : s3124 267 x2.toNat = z3101 := by rw [e_s3124, x_up_q (by first | decide | omega)]; exact q3120
          have q3126 : s3124 278 x2.toNat = 0 := by rw [e_s3124, x_up_q (by first | decide | omega)]; exact q3121
          have q3127 : s3124 279 x2.toNat = z3123 := by rw [e_s3124]; exact x_up_same
          refine x_iinc k166_152 (ls' := [(3, vi (x3 + 1)), (4, vi 0), (0, .ref 256), (1, vi x1), (2, vi x2)]) rfl (by decide) rfl ?_
          refine x_goto k166_155 (t := 61) rfl ?_
          refine x_ls (l := [(0, .ref 256), (1, vi x1), (2, vi x2), (3, vi (x3 + 1))]) (show ([0, 1, 2, 3] : List Nat).Nodup from by decide +kernel) ⟨rfl, rfl, rfl, rfl, trivial⟩ ?_
          exact ih s3124 x1 x2 (x3 + 1) hG_s3124 f_s3124 (by first | exact x_rb b_x1 rfl rfl | exact ⟨by omega, by omega⟩) (by first | exact x_rb b_x2 rfl rfl | exact ⟨by omega, by omega⟩) ⟨by omega, by omega⟩ (by omega) (by omega) (by omega)
      · skip
        refine x_A k166_81 (fun _ => rfl) ?_
        refine x_goto k166_82 (t := 86) rfl ?_
        refine x_istore k166_86 (ls' := [(4, vi 1), (0, .ref 256), (1, vi x1), (2, vi x2), (3, vi x3)]) (by decide) rfl ?_
        refine x_A k166_88 (fun _ => rfl) ?_
        refine x_getR k166_89 (f := 28) rfl (q := 256) (n := 62) (kd := 15) ⟨by decide, rfl⟩ (q2 := 278) (by decide) rfl ?_
        refine x_A k166_92 (fun _ => rfl) ?_
        refine x_A k166_93 (fun _ => rfl) ?_
        refine x_getR k166_94 (f := 28) rfl (q := 256) (n := 62) (kd := 15) ⟨by decide, rfl⟩ (q2 := 278) (by decide) rfl ?_
        refine x_A k166_97 (fun _ => rfl) ?_
        refine x_bald k166_98 (q := 278) (n := 120) ⟨by decide, rfl⟩ (by decide) (by first | exact x_rbl b_x2 rfl rfl | exact ⟨by omega, by omega⟩) ?_
        refine x_top (fun z3128 e_z3128 => ?_)
        have g_z3128 : (0 : Int) ≤ s 278 x2.toNat ∧ s 278 x2.toNat ≤ 1 := hG 278 x2.toNat
        refine x_if_ne k166_99 (t := 117) rfl (by first | exact x_rbe e_z3128 g_z3128 rfl rfl | exact x_rb g_z3128 rfl rfl | exact ⟨by omega, by omega⟩) (fun c3129 => ?_) (fun c3129 => ?_)
        · skip
          refine x_A k166_117 (fun _ => rfl) ?_
          refine x_goto k166_118 (t := 122) rfl ?_
          refine x_bast k166_122 (q := 278) (n := 120) ⟨by decide, rfl⟩ (by decide) (by first | exact x_rbl b_x2 rfl rfl | exact ⟨by omega, by omega⟩) ⟨by omega, by omega⟩ ?_
          refine x_nh (fun s3130 e_s3130 => ?_)
          have hG_s3130 : GI s3130 := by rw [e_s3130]; exact hG.up (show 0 ≤ 1 ∧ 1 ≤ 1 from ⟨by decide, by decide⟩)
          have f_s3130 : FL [5312, 5376, 4123, 5440, 5504, 5568] s0 s3130 := by rw [e_s3130]; exact f.up (show 5504 ∈ [5312, 5376, 4123, 5440, 5504, 5568] from by decide +kernel)
          have q3131 : s3130 279 x2.toNat = z3100 := by rw [e_s3130, x_up_q (by first | decide | omega)]; exact e_z3100.symm
          have q3132 : s3130 267 x2.toNat = z3101 := by rw [e_s3130, x_up_q (by first | decide | omega)]; exact e_z3101.symm
          have q3133 : s3130 278 x2.toNat = 1 := by rw [e_s3130]; exact x_up_same
          refine x_A k166_123 (fun _ => rfl) ?_
          refine x_getR k166_124 (f := 29) rfl (q := 256) (n := 62) (kd := 15) ⟨by decide, rfl⟩ (q2 := 279) (by decide) rfl ?_
          refine x_A k166_127 (fun _ => rfl) ?_
          refine x_A k166_128 (fun _ => rfl) ?_
          refine x_iald k166_129 (q := 279) (n := 120) ⟨by decide, rfl⟩ (by decide) (by first | exact x_rbl b_x2 rfl rfl | exact ⟨by omega, by omega⟩) ?_
          rw [q3131]
          refine x_A k166_130 (fun _ => rfl) ?_
          refine x_if_eq k166_132 (t := 149) rfl ⟨by decide, by decide⟩ (fun c3134 => by exfalso; omega) (fun c3134 => ?_)
          refine x_A k166_135 (fun _ => rfl) ?_
          refine x_getR k166_136 (f := 25) rfl (q := 256) (n := 62) (kd := 15) ⟨by decide, rfl⟩ (q2 := 276) (by decide) rfl ?_
          refine x_A k166_139 (fun _ => rfl) ?_
          refine x_iald k166_140 (q := 276) (n := 6) ⟨by decide, rfl⟩ (by decide) (by first | exact x_rbl b_x3 rfl rfl | exact ⟨by omega, by omega⟩) ?_
          refine x_top (fun z3135 e_z3135 => ?_)
          have g_z3135 : (-2147483648) ≤ s3130 276 x3.toNat ∧ s3130 276 x3.toNat ≤ 2147483647 := hG_s3130 276 x3.toNat
          refine x_A k166_141 (fun _ => rfl) ?_
          refine x_ic_ne k166_142 (t := 149) rfl (by first | exact x_rbe e_z3135 g_z3135 rfl rfl | exact x_rb g_z3135 rfl rfl | exact ⟨by omega, by omega⟩) ⟨by decide, by decide⟩ (fun c3136 => ?_) (fun c3136 => ?_)
          · skip
            refine x_A k166_149 (fun _ => rfl) ?_
            refine x_iadd k166_150 ?_
            refine x_top (fun z3137 e_z3137 => ?_)
            refine x_iast k166_151 (q := 279) (n := 120) ⟨by decide, rfl⟩ (by decide) (by first | exact x_rbl b_x2 rfl rfl | exact ⟨by omega, by omega⟩) ?_
            refine x_nh (fun s3138 e_s3138 => ?_)
            have hG_s3138 : GI s3138 := by rw [e_s3138]; exact hG_s3130.up (show 0 ≤ z3137 ∧ z3137 ≤ 6 from (by first | exact x_rbe e_z3137 g_z3137 rfl rfl | exact x_rb g_z3137 rfl rfl | exact ⟨by omega, by omega⟩))
            have f_s3138 : FL [5312, 5376, 4123, 5440, 5504, 5568] s0 s3138 := by rw [e_s3138]; exact f_s3130.up (show 5568 ∈ [5312, 5376, 4123, 5440, 5504, 5568] from by decide +kernel)
            have q3139 : s3138 267 x2.toNat = z3101 := by rw [e_s3138, x_up_q (by first | decide | omega)]; exact q3132
            have q3140 : s3138 278 x2.toNat = 1 := by rw [e_s3138, x_up_q (by first | decide | omega)]; exact q3133
            have q3141 : s3138 276 x3.toNat = z3135 := by rw [e_s3138, x_up_q (by first | decide | omega)]; exact e_z3135.symm
            have q3142 : s3138 279 x2.toNat = z3137 := by rw [e_s3138]; exact x_up_same
            refine x_iinc k166_152 (ls' := [(3, vi (x3 + 1)), (4, vi 1), (0, .ref 256), (1, vi x1), (2, vi x2)]) rfl (by decide) rfl ?_
            refine x_goto k166_155 (t := 61) rfl ?_
            refine x_ls (l := [(0, .ref 256), (1, vi x1), (2, vi x2), (3, vi (x3 + 1))]) (show ([0, 1, 2, 3] : List Nat).Nodup from by decide +kernel) ⟨rfl, rfl, rfl, rfl, trivial⟩ ?_
            exact ih s3138 x1 x2 (x3 + 1) hG_s3138 f_s3138 (by first | exact x_rb b_x1 rfl rfl | exact ⟨by omega, by omega⟩) (by first | exact x_rb b_x2 rfl rfl | exact ⟨by omega, by omega⟩) ⟨by omega, by omega⟩ (by omega) (by omega) (by omega)
          · skip
            refine x_A k166_145 (fun _ => rfl) ?_
            refine x_goto k166_146 (t := 150) rfl ?_
            refine x_iadd k166_150 ?_
            refine x_top (fun z3143 e_z3143 => ?_)
            refine x_iast k166_151 (q := 279) (n := 120) ⟨by decide, rfl⟩ (by decide) (by first | exact x_rbl b_x2 rfl rfl | exact ⟨by omega, by omega⟩) ?_
            refine x_nh (fun s3144 e_s3144 => ?_)
            have hG_s3144 : GI s3144 := by rw [e_s3144]; exact hG_s3130.up (show 0 ≤ z3143 ∧ z3143 ≤ 6 from (by first | exact x_rbe e_z3143 g_z3143 rfl rfl | exact x_rb g_z3143 rfl rfl | exact ⟨by omega, by omega⟩))
            have f_s3144 : FL [5312, 5376, 4123, 5440, 5504, 5568] s0 s3144 := by rw [e_s3144]; exact f_s3130.up (show 5568 ∈ [5312, 5376, 4123, 5440, 5504, 5568] from by decide +kernel)
            have q3145 : s3144 267 x2.toNat = z3101 := by rw [e_s3144, x_up_q (by first | decide | omega)]; exact q3132
            have q3146 : s3144 278 x2.toNat = 1 := by rw [e_s3144, x_up_q (by first | decide | omega)]; exact q3133
            have q3147 : s3144 276 x3.toNat = z3135 := by rw [e_s3144, x_up_q (by first | decide | omega)]; exact e_z3135.symm
            have q3148 : s3144 279 x2.toNat = z3143 := by rw [e_s3144]; exact x_up_same
            refine x_iinc k166_152 (ls' := [(3, vi (x3 + 1)), (4, vi 1), (0, .ref 256), (1, vi x1), (2, vi x2)]) rfl (by decide) rfl ?_
            refine x_goto k166_155 (t := 61) rfl ?_
            refine x_ls (l := [(0, .ref 256), (1, vi x1), (2, vi x2), (3, vi (x3 + 1))]) (show ([0, 1, 2, 3] : List Nat).Nodup from by decide +kernel) ⟨rfl, rfl, rfl, rfl, trivial⟩ ?_
            exact ih s3144 x1 x2 (x3 + 1) hG_s3144 f_s3144 (by first | exact x_rb b_x1 rfl rfl | exact ⟨by omega, by omega⟩) (by first | exact x_rb b_x2 rfl rfl | exact ⟨by omega, by omega⟩) ⟨by omega, by omega⟩ (by omega) (by omega) (by omega)
        · skip
          refine x_A k166_102 (fun _ => rfl) ?_
          refine x_if_eq k166_104 (t := 121) rfl ⟨by decide, by decide⟩ (fun c3149 => by exfalso; omega) (fun c3149 => ?_)
          refine x_A k166_107 (fun _ => rfl) ?_
          refine x_getR k166_108 (f := 25) rfl (q := 256) (n := 62) (kd := 15) ⟨by decide, rfl⟩ (q2 := 276) (by decide) rfl ?_
          refine x_A k166_111 (fun _ => rfl) ?_
          refine x_iald k166_112 (q := 276) (n := 6) ⟨by decide, rfl⟩ (by decide) (by first | exact x_rbl b_x3 rfl rfl | exact ⟨by omega, by omega⟩) ?_
          refine x_top (fun z3150 e_z3150 => ?_)
          have g_z3150 : (-2147483648) ≤ s 276 x3.toNat ∧ s 276 x3.toNat ≤ 2147483647 := hG 276 x3.toNat
          refine x_A k166_113 (fun _ => rfl) ?_
          refine x_ic_ne k166_114 (t := 121) rfl (by first | exact x_rbe e_z3150 g_z3150 rfl rfl | exact x_rb g_z3150 rfl rfl | exact ⟨by omega, by omega⟩) ⟨by decide, by decide⟩ (fun c3151 => ?_) (fun c3151 => ?_)
          · skip
            refine x_A k166_121 (fun _ => rfl) ?_
            refine x_bast k166_122 (q := 278) (n := 120) ⟨by decide, rfl⟩ (by decide) (by first | exact x_rbl b_x2 rfl rfl | exact ⟨by omega, by omega⟩) ⟨by omega, by omega⟩ ?_
            refine x_nh (fun s3152 e_s3152 => ?_)
            have hG_s3152 : GI s3152 := by rw [e_s3152]; exact hG.up (show 0 ≤ 0 ∧ 0 ≤ 1 from ⟨by decide, by decide⟩)
            have f_s3152 : FL [5312, 5376, 4123, 5440, 5504, 5568] s0 s3152 := by rw [e_s3152]; exact f.up (show 5504 ∈ [5312, 5376, 4123, 5440, 5504, 5568] from by decide +kernel)
            have q3153 : s3152 279 x2.toNat = z3100 := by rw [e_s3152, x_up_q (by first | decide | omega)]; exact e_z3100.symm
            have q3154 : s3152 267 x2.toNat = z3101 := by rw [e_s3152, x_up_q (by first | decide | omega)]; exact e_z3101.symm
            have q3155 : s3152 276 x3.toNat = z3150 := by rw [e_s3152, x_up_q (by first | decide | omega)]; exact e_z3150.symm
            have q3156 : s3152 278 x2.toNat = 0 := by rw [e_s3152]; exact x_up_same
            refine x_A k166_123 (fun _ => rfl) ?_
            refine x_getR k166_124 (f := 29) rfl (q := 256) (n := 62) (kd := 15) ⟨by decide, rfl⟩ (q2 := 279) (by decide) rfl ?_
            refine x_A k166_127 (fun _ => rfl) ?_
            refine x_A k166_128 (fun _ => rfl) ?_
            refine x_iald k166_129 (q := 279) (n := 120) ⟨by decide, rfl⟩ (by decide) (by first | exact x_rbl b_x2 rfl rfl | exact ⟨by omega, by omega⟩) ?_
            rw [q3153]
            refine x_A k166_130 (fun _ => rfl) ?_
            refine x_if_eq k166_132 (t := 149) rfl ⟨by decide, by decide⟩ (fun c3157 => by exfalso; omega) (fun c3157 => ?_)
            refine x_A k166_135 (fun _ => rfl) ?_
            refine x_getR k166_136 (f := 25) rfl (q := 256) (n := 62) (kd := 15) ⟨by decide, rfl⟩ (q2 := 276) (by decide) rfl ?_
            refine x_A k166_139 (fun _ => rfl) ?_
            refine x_iald k166_140 (q := 276) (n := 6) ⟨by decide, rfl⟩ (by decide) (by first | exact x_rbl b_x3 rfl rfl | exact ⟨by omega, by omega⟩) ?_
            rw [q3155]
            refine x_A k166_141 (fun _ => rfl) ?_
            refine x_ic_ne k166_142 (t := 149) rfl (by first | exact x_rbe e_z3150 g_z3150 rfl rfl | exact x_rb g_z3150 rfl rfl | exact ⟨by omega, by omega⟩) ⟨by decide, by decide⟩ (fun c3158 => ?_) (fun c3158 => ?_)
            · skip
              refine x_A k166_149 (fun _ => rfl) ?_
              refine x_iadd k166_150 ?_
              refine x_top (fun z3159 e_z3159 => ?_)
              refine x_iast k166_151 (q := 279) (n := 120) ⟨by decide, rfl⟩ (by decide) (by first | exact x_rbl b_x2 rfl rfl | exact ⟨by omega, by omega⟩) ?_
              refine x_nh (fun s3160 e_s3160 => ?_)
              have hG_s3160 : GI s3160 := by rw [e_s3160]; exact hG_s3152.up (show 0 ≤ z3159 ∧ z3159 ≤ 6 from (by first | exact x_rbe e_z3159 g_z3159 rfl rfl | exact x_rb g_z3159 rfl rfl | exact ⟨by omega, by omega⟩))
              have f_s3160 : FL [5312, 5376, 4123, 5440, 5504, 5568] s0 s3160 := by rw [e_s3160]; exact f_s3152.up (show 5568 ∈ [5312, 5376, 4123, 5440, 5504, 5568] from by decide +kernel)
              have q3161 : s3160 267 x2.toNat = z3101 := by rw [e_s3160, x_up_q (by first | decide | omega)]; exact q3154
              have q3162 : s3160 276 x3.toNat = z3150 := by rw [e_s3160, x_up_q (by first | decide | omega)]; exact q3155
              have q3163 : s3160 278 x2.toNat = 0 := by rw [e_s3160, x_up_q (by first | decide | omega)]; exact q3156
              have q3164 : s3160 279 x2.toNat = z3159 := by rw [e_s3160]; exact x_up_same
              refine x_iinc k166_152 (ls' := [(3, vi (x3 + 1)), (4, vi 1), (0, .ref 256), (1, vi x1), (2, vi x2)]) rfl (by decide) rfl ?_
              refine x_goto k166_155 (t := 61) rfl ?_
              refine x_ls (l := [(0, .ref 256), (1, vi x1), (2, vi x2), (3, vi (x3 + 1))]) (show ([0, 1, 2, 3] : List Nat).Nodup from by decide +kernel) ⟨rfl, rfl, rfl, rfl, trivial⟩ ?_
              exact ih s3160 x1 x2 (x3 + 1) hG_s3160 f_s3160 (by first | exact x_rb b_x1 rfl rfl | exact ⟨by omega, by omega⟩) (by first | exact x_rb b_x2 rfl rfl | exact ⟨by omega, by omega⟩) ⟨by omega, by omega⟩ (by omega) (by omega) (by omega)
            · skip
              refine x_A k166_145 (fun _ => rfl) ?_
              refine x_goto k166_146 (t := 150) rfl ?_
              refine x_iadd k166_150 ?_
              refine x_top (fun z3165 e_z3165 => ?_)
              refine x_iast k166_151 (q := 279) (n := 120) ⟨by decide, rfl⟩ (by decide) (by first | exact x_rbl b_x2 rfl rfl | exact ⟨by omega, by omega⟩) ?_
              refine x_nh (fun s3166 e_s3166 => ?_)
              have hG_s3166 : GI s3166 := by rw [e_s3166]; exact hG_s3152.up (show 0 ≤ z3165 ∧ z3165 ≤ 6 from (by first | exact x_rbe e_z3165 g_z3165 rfl rfl | exact x_rb g_z3165 rfl rfl | exact ⟨by omega, by omega⟩))
              have f_s3166 : FL [5312, 5376, 4123, 5440, 5504, 5568] s0 s3166 := by rw [e_s3166]; exact f_s3152.up (show 5568 ∈ [5312, 5376, 4123, 5440, 5504, 5568] from by decide +kernel)
              have q3167 : s3166 267 x2.toNat = z3101 := by rw [e_s3166, x_up_q (by first | decide | omega)]; exact q3154
              have q3168 : s3166 276 x3.toNat = z3150 := by rw [e_s3166, x_up_q (by first | decide | omega)]; exact q3155
              have q3169 : s3166 278 x2.toNat = 0 := by rw [e_s3166, x_up_q (by first | decide | omega)]; exact q3156
              have q3170 : s3166 279 x2.toNat = z3165 := by rw [e_s3166]; exact x_up_same
              refine x_iinc k166_152 (ls' := [(3, vi (x3 + 1)), (4, vi 1), (0, .ref 256), (1, vi x1), (2, vi x2)]) rfl (by decide) rfl ?_
              refine x_goto k166_155 (t := 61) rfl ?_
              refine x_ls (l := [(0, .ref 256), (1, vi x1), (2, vi x2), (3, vi (x3 + 1))]) (show ([0, 1, 2, 3] : List Nat).Nodup from by decide +kernel) ⟨rfl, rfl, rfl, rfl, trivial⟩ ?_
              exact ih s3166 x1 x2 (x3 + 1) hG_s3166 f_s3166 (by first | exact x_rb b_x1 rfl rfl | exact ⟨by omega, by omega⟩) (by first | exact x_rb b_x2 rfl rfl | exact ⟨by omega, by omega⟩) ⟨by omega, by omega⟩ (by omega) (by omega) (by omega)
          · skip
            refine x_A k166_117 (fun _ => rfl) ?_
            refine x_goto k166_118 (t := 122) rfl ?_
            refine x_bast k166_122 (q := 278) (n := 120) ⟨by decide, rfl⟩ (by decide) (by first | exact x_rbl b_x2 rfl rfl | exact ⟨by omega, by omega⟩) ⟨by omega, by omega⟩ ?_
            refine x_nh (fun s3171 e_s3171 => ?_)
            have hG_s3171 : GI s3171 := by rw [e_s3171]; exact hG.up (show 0 ≤ 1 ∧ 1 ≤ 1 from ⟨by decide, by decide⟩)
            have f_s3171 : FL [5312, 5376, 4123, 5440, 5504, 5568] s0 s3171 := by rw [e_s3171]; exact f.up (show 5504 ∈ [5312, 5376, 4123, 5440, 5504, 5568] from by decide +kernel)
            have q3172 : s3171 279 x2.toNat = z3100 := by rw [e_s3171, x_up_q (by first | decide | omega)]; exact e_z3100.symm
            have q3173 : s3171 267 x2.toNat = z3101 := by rw [e_s3171, x_up_q (by first | decide | omega)]; exact e_z3101.symm
            have q3174 : s3171 276 x3.toNat = z3150 := by rw [e_s3171, x_up_q (by first | decide | omega)]; exact e_z3150.symm
            have q3175 : s3171 278 x2.toNat = 1 := by rw [e_s3171]; exact x_up_same
            refine x_A k166_123 (fun _ => rfl) ?_
            refine x_getR k166_124 (f := 29) rfl (q := 256) (n := 62) (kd := 15) ⟨by decide, rfl⟩ (q2 := 279) (by decide) rfl ?_
            refine x_A k166_127 (fun _ => rfl) ?_
            refine x_A k166_128 (fun _ => rfl) ?_
            refine x_iald k166_129 (q := 279) (n := 120) ⟨by decide, rfl⟩ (by decide) (by first | exact x_rbl b_x2 rfl rfl | exact ⟨by omega, by omega⟩) ?_
            rw [q3172]
            refine x_A k166_130 (fun _ => rfl) ?_
            refine x_if_eq k166_132 (t := 149) rfl ⟨by decide, by decide⟩ (fun c3176 => by exfalso; omega) (fun c3176 => ?_)
            refine x_A k166_135 (fun _ => rfl) ?_
            refine x_getR k166_136 (f := 25) rfl (q := 256) (n := 62) (kd := 15) ⟨by decide, rfl⟩ (q2 := 276) (by decide) rfl ?_
            refine x_A k166_139 (fun _ => rfl) ?_
            refine x_iald k166_140 (q := 276) (n := 6) ⟨by decide, rfl⟩ (by decide) (by first | exact x_rbl b_x3 rfl rfl | exact ⟨by omega, by omega⟩) ?_
            rw [q3174]
            refine x_A k166_141 (fun _ => rfl) ?_
            refine x_ic_ne k166_142 (t := 149) rfl (by first | exact x_rbe e_z3150 g_z3150 rfl rfl | exact x_rb g_z3150 rfl rfl | exact ⟨by omega, by omega⟩) ⟨by decide, by decide⟩ (fun c3177 => ?_) (fun c3177 => by exfalso; omega)
            refine x_A k166_149 (fun _ => rfl) ?_
            refine x_iadd k166_150 ?_
            refine x_top (fun z3178 e_z3178 => ?_)
            refine x_iast k166_151 (q := 279) (n := 120) ⟨by decide, rfl⟩ (by decide) (by first | exact x_rbl b_x2 rfl rfl | exact ⟨by omega, by omega⟩) ?_
            refine x_nh (fun s3179 e_s3179 => ?_)
            have hG_s3179 : GI s3179 := by rw [e_s3179]; exact hG_s3171.up (show 0 ≤ z3178 ∧ z3178 ≤ 6 from (by first | exact x_rbe e_z3178 g_z3178 rfl rfl | exact x_rb g_z3178 rfl rfl | exact ⟨by omega, by omega⟩))
            have f_s3179 : FL [5312, 5376, 4123, 5440, 5504, 5568] s0 s3179 := by rw [e_s3179]; exact f_s3171.up (show 5568 ∈ [5312, 5376, 4123, 5440, 5504, 5568] from by decide +kernel)
            have q3180 : s3179 267 x2.toNat = z3101 := by rw [e_s3179, x_up_q (by first | decide | omega)]; exact q3173
            have q3181 : s3179 276 x3.toNat = z3150 := by rw [e_s3179, x_up_q (by first | decide | omega)]; exact q3174
            have q3182 : s3179 278 x2.toNat = 1 := by rw [e_s3179, x_up_q (by first | decide | omega)]; exact q3175
            have q3183 : s3179 279 x2.toNat = z3178 := by rw [e_s3179]; exact x_up_same
            refine x_iinc k166_152 (ls' := [(3, vi (x3 + 1)), (4, vi 1), (0, .ref 256), (1, vi x1), (2, vi x2)]) rfl (by decide) rfl ?_
            refine x_goto k166_155 (t := 61) rfl ?_
            refine x_ls (l := [(0, .ref 256), (1, vi x1), (2, vi x2), (3, vi (x3 + 1))]) (show ([0, 1, 2, 3] : List Nat).Nodup from by decide +kernel) ⟨rfl, rfl, rfl, rfl, trivial⟩ ?_
            exact ih s3179 x1 x2 (x3 + 1) hG_s3179 f_s3179 (by first | exact x_rb b_x1 rfl rfl | exact ⟨by omega, by omega⟩) (by first | exact x_rb b_x2 rfl rfl | exact ⟨by omega, by omega⟩) ⟨by omega, by omega⟩ (by omega) (by omega) (by omega)
theorem L_C_X11_findWrong_256_4 (s0 : xS) (hJ0 : J s0)  : ∀ (n : Nat) (s : xS) (x1 : Int) (x2 : Int) (hG : GI s) (f : FL [5312, 5376, 4123, 5440, 5504, 5568] s0 s) (b_x1 : (-1) ≤ x1 ∧ x1 ≤ 9) (b_x2 : 0 ≤ x2 ∧ x2 ≤ 120)  (hm : (120 - x2) < (n : Int)), xe none 166 4 [(0, .ref 256), (1, vi x1), (2, vi x2)] [] s 0 0 (fun s' v => GI s' ∧ FL [5312, 5376, 4123, 5440, 5504, 5568] s0 s' ∧ v = none) := by
  intro n
  induction n with
  | zero => intro s x1 x2 hG f b_x1 b_x2  hm; exfalso; omega
  | succ n ih =>
    intro s x1 x2 hG f b_x1 b_x2  hm
    refine x_A k166_4 (fun _ => rfl) ?_
    refine x_A k166_5 (fun _ => rfl) ?_
    refine x_getI k166_6 (f := 10) rfl (q := 256) (n := 62) (kd := 15) ⟨by decide, rfl⟩ (by decide) rfl ?_
    refine x_top (fun z3184 e_z3184 => ?_)
    have g_z3184 : (0 : Int) ≤ s 256 10 ∧ s 256 10 ≤ 120 := hG 256 10
    refine x_ic_ge k166_9 (t := 164) rfl (by first | exact x_rb b_x2 rfl rfl | exact ⟨by omega, by omega⟩) (by first | exact x_rbe e_z3184 g_z3184 rfl rfl | exact x_rb g_z3184 rfl rfl | exact ⟨by omega, by omega⟩) (fun c3185 => ?_) (fun c3185 => ?_)
    · skip
      exact x_vret k166_164 rfl ⟨hG, f, rfl⟩
    · skip
      refine x_A k166_12 (fun _ => rfl) ?_
      refine x_getR k166_13 (f := 15) rfl (q := 256) (n := 62) (kd := 15) ⟨by decide, rfl⟩ (q2 := 268) (by decide) rfl ?_
      refine x_A k166_16 (fun _ => rfl) ?_
      refine x_iald k166_17 (q := 268) (n := 120) ⟨by decide, rfl⟩ (by decide) (by first | exact x_rbl b_x2 rfl rfl | exact ⟨by omega, by omega⟩) ?_
      refine x_top (fun z3186 e_z3186 => ?_)
      have g_z3186 : (0 : Int) ≤ s 268 x2.toNat ∧ s 268 x2.toNat ≤ 9 := hG 268 x2.toNat
      refine x_A k166_18 (fun _ => rfl) ?_
      refine x_ic_eq k166_19 (t := 34) rfl (by first | exact x_rbe e_z3186 g_z3186 rfl rfl | exact x_rb g_z3186 rfl rfl | exact ⟨by omega, by omega⟩) (by first | exact x_rb b_x1 rfl rfl | exact ⟨by omega, by omega⟩) (fun c3187 => ?_) (fun c3187 => ?_)
      · skip
        refine x_A k166_34 (fun _ => rfl) ?_
        refine x_getR k166_35 (f := 27) rfl (q := 256) (n := 62) (kd := 15) ⟨by decide, rfl⟩ (q2 := 277) (by decide) rfl ?_
        refine x_A k166_38 (fun _ => rfl) ?_
        refine x_A k166_39 (fun _ => rfl) ?_
        refine x_A k166_40 (fun _ => rfl) ?_
        refine x_callV k166_41 (y := 165) (n := 1) (w0 := 2) (w1 := 1) (as := [vi x2]) (rest := [vi x2, .ref 277]) (by decide +kernel) (q := 256) (nq := 62) (kq := 15) ⟨by decide, rfl⟩ rfl rfl rfl rfl (xe_mono (C_X11_whyWrong_256 s hG (hJ0.fl f (by decide +kernel)) x2 (by first | exact x_rb b_x2 rfl rfl | exact ⟨by omega, by omega⟩)) ?_)
        rintro s3189 v ⟨-, t_s3189, z3188, rfl, g_z3188⟩
        rw [t_s3189.nil]
        show xe none 166 44 [(0, .ref 256), (1, vi x1), (2, vi x2)] [vi z3188, vi x2, .ref 277] s 0 0 _
        refine x_iast k166_44 (q := 277) (n := 120) ⟨by decide, rfl⟩ (by decide) (by first | exact x_rbl b_x2 rfl rfl | exact ⟨by omega, by omega⟩) ?_
        refine x_nh (fun s3190 e_s3190 => ?_)
        have hG_s3190 : GI s3190 := by rw [e_s3190]; exact hG.up (show 0 ≤ z3188 ∧ z3188 ≤ 4 from (by first | exact x_rbe e_z3188 g_z3188 rfl rfl | exact x_rb g_z3188 rfl rfl | exact ⟨by omega, by omega⟩))
        have f_s3190 : FL [5312, 5376, 4123, 5440, 5504, 5568] s0 s3190 := by rw [e_s3190]; exact f.up (show 5440 ∈ [5312, 5376, 4123, 5440, 5504, 5568] from by decide +kernel)
        have q3191 : s3190 256 10 = z3184 := by rw [e_s3190, x_up_q (by decide)]; exact e_z3184.symm
        have q3192 : s3190 268 x2.toNat = z3186 := by rw [e_s3190, x_up_q (by first | decide | omega)]; exact e_z3186.symm
        have q3193 : s3190 277 x2.toNat = z3188 := by rw [e_s3190]; exact x_up_same
        refine x_A k166_45 (fun _ => rfl) ?_
        refine x_getR k166_46 (f := 28) rfl (q := 256) (n := 62) (kd := 15) ⟨by decide, rfl⟩ (q2 := 278) (by decide) rfl ?_
        refine x_A k166_49 (fun _ => rfl) ?_
        refine x_A k166_50 (fun _ => rfl) ?_
        refine x_bast k166_51 (q := 278) (n := 120) ⟨by decide, rfl⟩ (by decide) (by first | exact x_rbl b_x2 rfl rfl | exact ⟨by omega, by omega⟩) ⟨by omega, by omega⟩ ?_
        refine x_nh (fun s3194 e_s3194 => ?_)
        have hG_s3194 : GI s3194 := by rw [e_s3194]; exact hG_s3190.up (show 0 ≤ 0 ∧ 0 ≤ 1 from ⟨by decide, by decide⟩)
        have f_s3194 : FL [5312, 5376, 4123, 5440, 5504, 5568] s0 s3194 := by rw [e_s3194]; exact f_s3190.up (show 5504 ∈ [5312, 5376, 4123, 5440, 5504, 5568] from by decide +kernel)
        have q3195 : s3194 256 10 = z3184 := by rw [e_s3194, x_up_q (by decide)]; exact q3191
        have q3196 : s3194 268 x2.toNat = z3186 := by rw [e_s3194, x_up_q (by first | decide | omega)]; exact q3192
        have q3197 : s3194 277 x2.toNat = z3188 := by rw [e_s3194, x_up_q (by first | decide | omega)]; exact q3193
        have q3198 : s3194 278 x2.toNat = 0 := by rw [e_s3194]; exact x_up_same
        refine x_A k166_52 (fun _ => rfl) ?_
        refine x_getR k166_53 (f := 29) rfl (q := 256) (n := 62) (kd := 15) ⟨by decide, rfl⟩ (q2 := 279) (by decide) rfl ?_
        refine x_A k166_56 (fun _ => rfl) ?_
        refine x_A k166_57 (fun _ => rfl) ?_
        refine x_iast k166_58 (q := 279) (n := 120) ⟨by decide, rfl⟩ (by decide) (by first | exact x_rbl b_x2 rfl rfl | exact ⟨by omega, by omega⟩) ?_
        refine x_nh (fun s3199 e_s3199 => ?_)
        have hG_s3199 : GI s3199 := by rw [e_s3199]; exact hG_s3194.up (show 0 ≤ 0 ∧ 0 ≤ 6 from ⟨by decide, by decide⟩)
        have f_s3199 : FL [5312, 5376, 4123, 5440, 5504, 5568] s0 s3199 := by rw [e_s3199]; exact f_s3194.up (show 5568 ∈ [5312, 5376, 4123, 5440, 5504, 5568] from by decide +kernel)
        have q3200 : s3199 256 10 = z3184 := by rw [e_s3199, x_up_q (by decide)]; exact q3195
        have q3201 : s3199 268 x2.toNat = z3186 := by rw [e_s3199, x_up_q (by first | decide | omega)]; exact q3196
        have q3202 : s3199 277 x2.toNat = z3188 := by rw [e_s3199, x_up_q (by first | decide | omega)]; exact q3197
        have q3203 : s3199 278 x2.toNat = 0 := by rw [e_s3199, x_up_q (by first | decide | omega)]; exact q3198
        have q3204 : s3199 279 x2.toNat = 0 := by rw [e_s3199]; exact x_up_same
        refine x_A k166_59 (fun _ => rfl) ?_
        refine x_istore_n k166_60 (ls' := [(3, vi 0), (0, .ref 256), (1, vi x1), (2, vi x2)]) (by decide) rfl ?_
        refine x_ls (l := [(0, .ref 256), (1, vi x1), (2, vi x2), (3, vi 0)]) (show ([0, 1, 2, 3] : List Nat).Nodup from by decide +kernel) ⟨rfl, rfl, rfl, rfl, trivial⟩ ?_
        exact L_C_X11_findWrong_256_61 s0 hJ0 n (fun s x1 x2 hG f b_x1 b_x2 hm => ih s x1 x2 hG f b_x1 b_x2  hm) (((6 - 0) + 1 : Int)).toNat s3199 x1 x2 0 hG_s3199 f_s3199 (by first | exact x_rb b_x1 rfl rfl | exact ⟨by omega, by omega⟩) (by first | exact x_rb b_x2 rfl rfl | exact ⟨by omega, by omega⟩) ⟨by decide, by decide⟩ (by omega) (by omega) (by omega)
      · skip
        refine x_A k166_22 (fun _ => rfl) ?_
        refine x_getR k166_23 (f := 15) rfl (q := 256) (n := 62) (kd := 15) ⟨by decide, rfl⟩ (q2 := 268) (by decide) rfl ?_
        refine x_A k166_26 (fun _ => rfl) ?_
        refine x_iald k166_27 (q := 268) (n := 120) ⟨by decide, rfl⟩ (by decide) (by first | exact x_rbl b_x2 rfl rfl | exact ⟨by omega, by omega⟩) ?_
        rw [e_z3186.symm]
        refine x_istore_n k166_28 (ls' := [(1, vi z3186), (0, .ref 256), (2, vi x2)]) (by decide) rfl ?_
        refine x_A k166_29 (fun _ => rfl) ?_
        refine x_A k166_30 (fun _ => rfl) ?_
        refine x_callV k166_31 (y := 160) (n := 1) (w0 := 0) (w1 := 1) (as := [vi z3186]) (rest := []) (by decide +kernel) (q := 256) (nq := 62) (kq := 15) ⟨by decide, rfl⟩ rfl rfl rfl rfl (xe_mono (C_X11_findRules_256 s hG (hJ0.fl f (by decide +kernel)) z3186 (by first | exact x_rbe e_z3186 g_z3186 rfl rfl | exact x_rb g_z3186 rfl rfl | exact ⟨by omega, by omega⟩)) ?_)
        rintro s3206 v ⟨hG_s3206, t_s3206, rfl⟩
        have f_s3206 : FL [5312, 5376, 4123, 5440, 5504, 5568] s0 s3206 := f.tr t_s3206 (by decide +kernel)
        have q3207 : s3206 256 10 = z3184 := (t_s3206 256 10 (show 4107 ∉ [5312, 5376, 4123] from by decide +kernel)).trans e_z3184.symm
        have q3208 : s3206 268 x2.toNat = z3186 := (t_s3206 268 x2.toNat (show 4864 ∉ [5312, 5376, 4123] from by decide +kernel)).trans e_z3186.symm
        show xe none 166 34 [(1, vi z3186), (0, .ref 256), (2, vi x2)] [] s3206 0 0 _
        refine x_A k166_34 (fun _ => rfl) ?_
        refine x_getR k166_35 (f := 27) rfl (q := 256) (n := 62) (kd := 15) ⟨by decide, rfl⟩ (q2 := 277) (by decide) rfl ?_
        refine x_A k166_38 (fun _ => rfl) ?_
        refine x_A k166_39 (fun _ => rfl) ?_
        refine x_A k166_40 (fun _ => rfl) ?_
        refine x_callV k166_41 (y := 165) (n := 1) (w0 := 2) (w1 := 1) (as := [vi x2]) (rest := [vi x2, .ref 277]) (by decide +kernel) (q := 256) (nq := 62) (kq := 15) ⟨by decide, rfl⟩ rfl rfl rfl rfl (xe_mono (C_X11_whyWrong_256 s3206 hG_s3206 (hJ0.fl f_s3206 (by decide +kernel)) x2 (by first | exact x_rb b_x2 rfl rfl | exact ⟨by omega, by omega⟩)) ?_)
        rintro s3210 v ⟨-, t_s3210, z3209, rfl, g_z3209⟩
        rw [t_s3210.nil]
        show xe none 166 44 [(1, vi z3186), (0, .ref 256), (2, vi x2)] [vi z3209, vi x2, .ref 277] s3206 0 0 _
        refine x_iast k166_44 (q := 277) (n := 120) ⟨by decide, rfl⟩ (by decide) (by first | exact x_rbl b_x2 rfl rfl | exact ⟨by omega, by omega⟩) ?_
        refine x_nh (fun s3211 e_s3211 => ?_)
        have hG_s3211 : GI s3211 := by rw [e_s3211]; exact hG_s3206.up (show 0 ≤ z3209 ∧ z3209 ≤ 4 from (by first | exact x_rbe e_z3209 g_z3209 rfl rfl | exact x_rb g_z3209 rfl rfl | exact ⟨by omega, by omega⟩))
        have f_s3211 : FL [5312, 5376, 4123, 5440, 5504, 5568] s0 s3211 := by rw [e_s3211]; exact f_s3206.up (show 5440 ∈ [5312, 5376, 4123, 5440, 5504, 5568] from by decide +kernel)
        have q3212 : s3211 256 10 = z3184 := by rw [e_s3211, x_up_q (by decide)]; exact q3207
        have q3213 : s3211 268 x2.toNat = z3186 := by rw [e_s3211, x_up_q (by first | decide | omega)]; exact q3208
        have q3214 : s3211 277 x2.toNat = z3209 := by rw [e_s3211]; exact x_up_same
        refine x_A k166_45 (fun _ => rfl) ?_
        refine x_getR k166_46 (f := 28) rfl (q := 256) (n := 62) (kd := 15) ⟨by decide, rfl⟩ (q2 := 278) (by decide) rfl ?_
        refine x_A k166_49 (fun _ => rfl) ?_
        refine x_A k166_50 (fun _ => rfl) ?_
        refine x_bast k166_51 (q := 278) (n := 120) ⟨by decide, rfl⟩ (by decide) (by first | exact x_rbl b_x2 rfl rfl | exact ⟨by omega, by omega⟩) ⟨by omega, by omega⟩ ?_
        refine x_nh (fun s3215 e_s3215 => ?_)
        have hG_s3215 : GI s3215 := by rw [e_s3215]; exact hG_s3211.up (show 0 ≤ 0 ∧ 0 ≤ 1 from ⟨by decide, by decide⟩)
        have f_s3215 : FL [5312, 5376, 4123, 5440, 5504, 5568] s0 s3215 := by rw [e_s3215]; exact f_s3211.up (show 5504 ∈ [5312, 5376, 4123, 5440, 5504, 5568] from by decide +kernel)
        have q3216 : s3215 256 10 = z3184 := by rw [e_s3215, x_up_q (by decide)]; exact q3212
        have q3217 : s3215 268 x2.toNat = z3186 := by rw [e_s3215, x_up_q (by first | decide | omega)]; exact q3213
        have q3218 : s3215 277 x2.toNat = z3209 := by rw [e_s3215, x_up_q (by first | decide | omega)]; exact q3214
        have q3219 : s3215 278 x2.toNat = 0 := by rw [e_s3215]; exact x_up_same
        refine x_A k166_52 (fun _ => rfl) ?_
        refine x_getR k166_53 (f := 29) rfl (q := 256) (n := 62) (kd := 15) ⟨by decide, rfl⟩ (q2 := 279) (by decide) rfl ?_
        refine x_A k166_56 (fun _ => rfl) ?_
        refine x_A k166_57 (fun _ => rfl) ?_
        refine x_iast k166_58 (q := 279) (n := 120) ⟨by decide, rfl⟩ (by decide) (by first | exact x_rbl b_x2 rfl rfl | exact ⟨by omega, by omega⟩) ?_
        refine x_nh (fun s3220 e_s3220 => ?_)
        have hG_s3220 : GI s3220 := by rw [e_s3220]; exact hG_s3215.up (show 0 ≤ 0 ∧ 0 ≤ 6 from ⟨by decide, by decide⟩)
        have f_s3220 : FL [5312, 5376, 4123, 5440, 5504, 5568] s0 s3220 := by rw [e_s3220]; exact f_s3215.up (show 5568 ∈ [5312, 5376, 4123, 5440, 5504, 5568] from by decide +kernel)
        have q3221 : s3220 256 10 = z3184 := by rw [e_s3220, x_up_q (by decide)]; exact q3216
        have q3222 : s3220 268 x2.toNat = z3186 := by rw [e_s3220, x_up_q (by first | decide | omega)]; exact q3217
        have q3223 : s3220 277 x2.toNat = z3209 := by rw [e_s3220, x_up_q (by first | decide | omega)]; exact q3218
        have q3224 : s3220 278 x2.toNat = 0 := by rw [e_s3220, x_up_q (by first | decide | omega)]; exact q3219
        have q3225 : s3220 279 x2.toNat = 0 := by rw [e_s3220]; exact x_up_same
        refine x_A k166_59 (fun _ => rfl) ?_
        refine x_istore_n k166_60 (ls' := [(3, vi 0), (1, vi z3186), (0, .ref 256), (2, vi x2)]) (by decide) rfl ?_
        refine x_ls (l := [(0, .ref 256), (1, vi z3186), (2, vi x2), (3, vi 0)]) (show ([0, 1, 2, 3] : List Nat).Nodup from by decide +kernel) ⟨rfl, rfl, rfl, rfl, trivial⟩ ?_
        exact L_C_X11_findWrong_256_61 s0 hJ0 n (fun s x1 x2 hG f b_x1 b_x2 hm => ih s x1 x2 hG f b_x1 b_x2  hm) (((6 - 0) + 1 : Int)).toNat s3220 z3186 x2 0 hG_s3220 f_s3220 (by first | exact x_rbe e_z3186 g_z3186 rfl rfl | exact x_rb g_z3186 rfl rfl | exact ⟨by omega, by omega⟩) (by first | exact x_rb b_x2 rfl rfl | exact ⟨by omega, by omega⟩) ⟨by decide, by decide⟩ (by omega) (by omega) (by omega)
theorem C_X11_findWrong_256 (s0 : xS) (hG0 : GI s0) (hJ0 : J s0)  : xe none 166 0 (lv_args 0 [.ref 256]) [] s0 0 0 (fun s' v => GI s' ∧ FL [5312, 5376, 4123, 5440, 5504, 5568] s0 s' ∧ v = none) := by
  have f0 : FL [5312, 5376, 4123, 5440, 5504, 5568] s0 s0 := FL.rf
  show xe none 166 0 [(0, .ref 256)] [] s0 0 0 _
  refine x_A k166_0 (fun _ => rfl) ?_
  refine x_istore_n k166_1 (ls' := [(1, vi (-1)), (0, .ref 256)]) (by decide) rfl ?_
  refine x_A k166_2 (fun _ => rfl) ?_
  refine x_istore_n k166_3 (ls' := [(2, vi 0), (1, vi (-1)), (0, .ref 256)]) (by decide) rfl ?_
  refine x_ls (l := [(0, .ref 256), (1, vi (-1)), (2, vi 0)]) (show ([0, 1, 2] : List Nat).Nodup from by decide +kernel) ⟨rfl, rfl, rfl, trivial⟩ ?_
  exact L_C_X11_findWrong_256_4 s0 hJ0  (((120 - 0) + 1 : Int)).toNat s0 (-1) 0 hG0 f0 ⟨by decide, by decide⟩ ⟨by decide, by decide⟩  (by omega)
theorem L_C_X11_findMeant_256_132 (s0 : xS) (hJ0 : J s0) (rk : Int → Int → Nat) (hrk : JP1 s0 rk) (jr : Int → Nat) (hjr : JE1 s0 jr)  : ∀ (n : Nat) (s : xS) (x1 : Int) (x2 : Int) (x3 : Int) (x4 : Int) (hG : GI s) (f : FL [5632, 5696] s0 s) (b_x1 : 0 ≤ x1 ∧ x1 ≤ 119) (b_x2 : 0 ≤ x2 ∧ x2 ≤ 9) (b_x3 : 0 ≤ x3 ∧ x3 ≤ 39) (b_x4 : 0 ≤ x4 ∧ x4 ≤ 6)  (hm : (6 - x4) < (n : Int)), xe none 167 132 [(0, .ref 256), (1, vi x1), (2, vi x2), (3, vi x3), (4, vi x4)] [] s 0 0 (fun s' v => GI s' ∧ FL [5632, 5696] s0 s' ∧ v = none) := by
  intro n
  induction n with
  | zero => intro s x1 x2 x3 x4 hG f b_x1 b_x2 b_x3 b_x4  hm; exfalso; omega
  | succ n ih =>
    intro s x1 x2 x3 x4 hG f b_x1 b_x2 b_x3 b_x4  hm
    refine x_A k167_132 (fun _ => rfl) ?_
    refine x_A k167_134 (fun _ => rfl) ?_
    refine x_getR k167_135 (f := 29) rfl (q := 256) (n := 62) (kd := 15) ⟨by decide, rfl⟩ (q2 := 279) (by decide) rfl ?_
    refine x_A k167_138 (fun _ => rfl) ?_
    refine x_iald k167_139 (q := 279) (n := 120) ⟨by decide, rfl⟩ (by decide) (by first | exact x_rbl b_x1 rfl rfl | exact ⟨by omega, by omega⟩) ?_
    refine x_top (fun z297 e_z297 => ?_)
    have g_z297 : (0 : Int) ≤ s 279 x1.toNat ∧ s 279 x1.toNat ≤ 6 := hG 279 x1.toNat
    refine x_ic_ge k167_140 (t := 169) rfl (by first | exact x_rb b_x4 rfl rfl | exact ⟨by omega, by omega⟩) (by first | exact x_rbe e_z297 g_z297 rfl rfl | exact x_rb g_z297 rfl rfl | exact ⟨by omega, by omega⟩) (fun c298 => ?_) (fun c298 => ?_)
    · skip
      refine x_A k167_169 (fun _ => rfl) ?_
      refine x_getR k167_170 (f := 30) rfl (q := 256) (n := 62) (kd := 15) ⟨by decide, rfl⟩ (q2 := 280) (by decide) rfl ?_
      refine x_A k167_173 (fun _ => rfl) ?_
      refine x_A k167_174 (fun _ => rfl) ?_
      refine x_iast k167_175 (q := 280) (n := 120) ⟨by decide, rfl⟩ (by decide) (by first | exact x_rbl b_x1 rfl rfl | exact ⟨by omega, by omega⟩) ?_
      refine x_nh (fun s299 e_s299 => ?_)
      have hG_s299 : GI s299 := by rw [e_s299]; exact hG.up (show (-1) ≤ x3 ∧ x3 ≤ 39 from (by first | exact x_rb b_x3 rfl rfl | exact ⟨by omega, by omega⟩))
      have f_s299 : FL [5632, 5696] s0 s299 := by rw [e_s299]; exact f.up (show 5632 ∈ [5632, 5696] from by decide +kernel)
      have q300 : s299 279 x1.toNat = z297 := by rw [e_s299, x_up_q (by first | decide | omega)]; exact e_z297.symm
      have q301 : s299 280 x1.toNat = x3 := by rw [e_s299]; exact x_up_same
      exact x_vret k167_176 rfl ⟨hG_s299, f_s299, rfl⟩
    · skip
      refine x_A k167_143 (fun _ => rfl) ?_
      refine x_if_ne k167_144 (t := 151) rfl (by first | exact x_rb b_x3 rfl rfl | exact ⟨by omega, by omega⟩) (fun c302 => ?_) (fun c302 => ?_)
      · skip
        refine x_A k167_151 (fun _ => rfl) ?_
        refine x_getR k167_152 (f := 5) rfl (q := 256) (n := 62) (kd := 15) ⟨by decide, rfl⟩ (q2 := 260) (by decide) rfl ?_
        refine x_bipush k167_155 (by decide +kernel) ?_
        refine x_A k167_157 (fun _ => rfl) ?_
        refine x_imul k167_158 ?_
        refine x_top (fun z303 e_z303 => ?_)
        refine x_A k167_159 (fun _ => rfl) ?_
        refine x_iadd k167_160 ?_
        refine x_top (fun z304 e_z304 => ?_)
        refine x_iald k167_161 (q := 260) (n := 400) ⟨by decide, rfl⟩ (by decide) (by first | exact x_rbel e_z304 g_z304 rfl rfl | exact x_rbl g_z304 rfl rfl | exact ⟨by omega, by omega⟩) ?_
        refine x_top (fun z305 e_z305 => ?_)
        have g_z305 : (-1) ≤ s 260 z304.toNat ∧ s 260 z304.toNat ≤ 39 := hG 260 z304.toNat
        have d_z305 := (hrk.fl f (by decide +kernel)).dn x3 x2 ⟨by omega, by omega⟩ ⟨by omega, by omega⟩
        rw [show 10 * x3 + x2 = z304 by omega, e_z305.symm] at d_z305
        refine x_istore_n k167_162 (ls' := [(3, vi z305), (0, .ref 256), (1, vi x1), (2, vi x2), (4, vi x4)]) (by decide) rfl ?_
        refine x_iinc k167_163 (ls' := [(4, vi (x4 + 1)), (3, vi z305), (0, .ref 256), (1, vi x1), (2, vi x2)]) rfl (by decide) rfl ?_
        refine x_goto k167_166 (t := 132) rfl ?_
        refine x_ls (l := [(0, .ref 256), (1, vi x1), (2, vi x2), (3, vi z305), (4, vi (x4 + 1))]) (show ([0, 1, 2, 3, 4] : List Nat).Nodup from by decide +kernel) ⟨rfl, rfl, rfl, rfl, rfl, trivial⟩ ?_
        exact ih s x1 x2 z305 (x4 + 1) hG f (by first | exact x_rb b_x1 rfl rfl | exact ⟨by omega, by omega⟩) (by first | exact x_rb b_x2 rfl rfl | exact ⟨by omega, by omega⟩) (by first | exact x_rbe e_z305 g_z305 rfl rfl | exact x_rb g_z305 rfl rfl | exact ⟨by omega, by omega⟩) ⟨by omega, by omega⟩  (by omega)
      · skip
        refine x_A k167_147 (fun _ => rfl) ?_
        refine x_goto k167_148 (t := 162) rfl ?_
        refine x_istore_n k167_162 (ls' := [(3, vi 0), (0, .ref 256), (1, vi x1), (2, vi x2), (4, vi x4)]) (by decide) rfl ?_
        refine x_iinc k167_163 (ls' := [(4, vi (x4 + 1)), (3, vi 0), (0, .ref 256), (1, vi x1), (2, vi x2)]) rfl (by decide) rfl ?_
        refine x_goto k167_166 (t := 132) rfl ?_
        refine x_ls (l := [(0, .ref 256), (1, vi x1), (2, vi x2), (3, vi 0), (4, vi (x4 + 1))]) (show ([0, 1, 2, 3, 4] : List Nat).Nodup from by decide +kernel) ⟨rfl, rfl, rfl, rfl, rfl, trivial⟩ ?_
        exact ih s x1 x2 0 (x4 + 1) hG f (by first | exact x_rb b_x1 rfl rfl | exact ⟨by omega, by omega⟩) (by first | exact x_rb b_x2 rfl rfl | exact ⟨by omega, by omega⟩) ⟨by decide, by decide⟩ ⟨by omega, by omega⟩  (by omega)
theorem L_C_X11_findMeant_256_105 (s0 : xS) (hJ0 : J s0) (rk : Int → Int → Nat) (hrk : JP1 s0 rk) (jr : Int → Nat) (hjr : JE1 s0 jr) (n_60 : Nat) (ih_60 : ∀ (s : xS) (x1 : Int) (x2 : Int) (x3 : Int) (hG : GI s) (f : FL [5632, 5696] s0 s) (b_x1 : 0 ≤ x1 ∧ x1 ≤ 119) (b_x2 : 0 ≤ x2 ∧ x2 ≤ 9) (b_x3 : 0 ≤ x3 ∧ x3 ≤ 39) (hm : ((jm s0 jr x2 x3 : Nat) : Int) < (n_60 : Int)), xe none 167 60 [(0, .ref 256), (1, vi x1), (2, vi x2), (3, vi x3)] [] s 0 0 (fun s' v => GI s' ∧ FL [5632, 5696] s0 s' ∧ v = none)) : ∀ (n : Nat) (s : xS) (x1 : Int) (x2 : Int) (x3 : Int) (hG : GI s) (f : FL [5632, 5696] s0 s) (b_x1 : 0 ≤ x1 ∧ x1 ≤ 119) (b_x2 : 0 ≤ x2 ∧ x2 ≤ 9) (b_x3 : 0 ≤ x3 ∧ x3 ≤ 39) (k_60 : (1 : Int) < (n_60 : Int) + 1) (hm : ((rkm (rk x2) x3 : Nat) : Int) < (n : Int)), xe none 167 105 [(0, .ref 256), (1, vi x1), (2, vi x2), (3, vi x3)] [] s 0 0 (fun s' v => GI s' ∧ FL [5632, 5696] s0 s' ∧ v = none) := by
  intro n
  induction n with
  | zero => intro s x1 x2 x3 hG f b_x1 b_x2 b_x3 k_60 hm; exfalso; omega
  | succ n ih =>
    intro s x1 x2 x3 hG f b_x1 b_x2 b_x3 k_60 hm
    refine x_A k167_105 (fun _ => rfl) ?_
    refine x_A k167_106 (fun _ => rfl) ?_
    refine x_A k167_107 (fun _ => rfl) ?_
    obtain ⟨z306, e_z306⟩ : ∃ z, z = s 256 1 := ⟨_, rfl⟩
    have g_z306 : (1 : Int) ≤ s 256 1 ∧ s 256 1 ≤ 40 := hG 256 1
    refine x_callV k167_108 (y := 142) (n := 2) (w0 := 0) (w1 := 2) (as := [vi x3, vi x2]) (rest := []) (by decide +kernel) (q := 256) (nq := 62) (kq := 15) ⟨by decide, rfl⟩ rfl rfl rfl rfl (xe_mono (C_X11_isThere_256 s hG x3 (by first | exact x_rb b_x3 rfl rfl | exact ⟨by omega, by omega⟩) x2 (by first | exact x_rb b_x2 rfl rfl | exact ⟨by omega, by omega⟩)) ?_)
    rintro s308 v ⟨h_s308, z307, rfl, hz_z307⟩
    rw [h_s308]
    rcases hz_z307 with ⟨c_z307, e_z307, m_z307⟩ | ⟨e_z307, m_z307⟩
    · rw [e_z307]
      show xe none 167 111 [(0, .ref 256), (1, vi x1), (2, vi x2), (3, vi x3)] [vi 1] s 0 0 _
      have jz_m_z307 : jm s0 jr x2 x3 = 0 := jm_out (by rw [← f 258 _ (show 4224 ∉ [5632, 5696] from by decide +kernel)]; exact m_z307.2)
      refine x_if_ne k167_111 (t := 60) rfl ⟨by decide, by decide⟩ (fun c309 => ?_) (fun c309 => by exfalso; omega)
      refine x_ls (l := [(0, .ref 256), (1, vi x1), (2, vi x2), (3, vi x3)]) (show ([0, 1, 2, 3] : List Nat).Nodup from by decide +kernel) ⟨rfl, rfl, rfl, rfl, trivial⟩ ?_
      exact ih_60 s x1 x2 x3 hG f (by first | exact x_rb b_x1 rfl rfl | exact ⟨by omega, by omega⟩) (by first | exact x_rb b_x2 rfl rfl | exact ⟨by omega, by omega⟩) (by first | exact x_rb b_x3 rfl rfl | exact ⟨by omega, by omega⟩) (by omega)
    · rw [e_z307]
      show xe none 167 111 [(0, .ref 256), (1, vi x1), (2, vi x2), (3, vi x3)] [vi 0] s 0 0 _
      have n0_m_z307 := (hJ0.fl f (by decide +kernel)).n0 hG (by omega) m_z307
      refine x_if_ne k167_111 (t := 60) rfl ⟨by decide, by decide⟩ (fun c310 => by exfalso; omega) (fun c310 => ?_)
      refine x_A k167_114 (fun _ => rfl) ?_
      refine x_getR k167_115 (f := 5) rfl (q := 256) (n := 62) (kd := 15) ⟨by decide, rfl⟩ (q2 := 260) (by decide) rfl ?_
      refine x_bipush k167_118 (by decide +kernel) ?_
      refine x_A k167_120 (fun _ => rfl) ?_
      refine x_imul k167_121 ?_
      refine x_top (fun z311 e_z311 => ?_)
      refine x_A k167_122 (fun _ => rfl) ?_
      refine x_iadd k167_123 ?_
      refine x_top (fun z312 e_z312 => ?_)
      refine x_iald k167_124 (q := 260) (n := 400) ⟨by decide, rfl⟩ (by decide) (by first | exact x_rbel e_z312 g_z312 rfl rfl | exact x_rbl g_z312 rfl rfl | exact ⟨by omega, by omega⟩) ?_
      refine x_top (fun z313 e_z313 => ?_)
      have g_z313 : (-1) ≤ s 260 z312.toNat ∧ s 260 z312.toNat ≤ 39 := hG 260 z312.toNat
      have d_z313 := (hrk.fl f (by decide +kernel)).dn x3 x2 ⟨by omega, by omega⟩ ⟨by omega, by omega⟩
      rw [show 10 * x3 + x2 = z312 by omega, e_z313.symm] at d_z313
      refine x_istore_n k167_125 (ls' := [(3, vi z313), (0, .ref 256), (1, vi x1), (2, vi x2)]) (by decide) rfl ?_
      refine x_goto k167_126 (t := 105) rfl ?_
      refine x_ls (l := [(0, .ref 256), (1, vi x1), (2, vi x2), (3, vi z313)]) (show ([0, 1, 2, 3] : List Nat).Nodup from by decide +kernel) ⟨rfl, rfl, rfl, rfl, trivial⟩ ?_
      exact ih s x1 x2 z313 hG f (by first | exact x_rb b_x1 rfl rfl | exact ⟨by omega, by omega⟩) (by first | exact x_rb b_x2 rfl rfl | exact ⟨by omega, by omega⟩) (by first | exact x_rbe e_z313 g_z313 rfl rfl | exact x_rb g_z313 rfl rfl | exact ⟨by omega, by omega⟩) (by omega) (by omega)
theorem L_C_X11_findMeant_256_60 (s0 : xS) (hJ0 : J s0) (rk : Int → Int → Nat) (hrk : JP1 s0 rk) (jr : Int → Nat) (hjr : JE1 s0 jr)  : ∀ (n : Nat) (s : xS) (x1 : Int) (x2 : Int) (x3 : Int) (hG : GI s) (f : FL [5632, 5696] s0 s) (b_x1 : 0 ≤ x1 ∧ x1 ≤ 119) (b_x2 : 0 ≤ x2 ∧ x2 ≤ 9) (b_x3 : 0 ≤ x3 ∧ x3 ≤ 39)  (hm : ((jm s0 jr x2 x3 : Nat) : Int) < (n : Int)), xe none 167 60 [(0, .ref 256), (1, vi x1), (2, vi x2), (3, vi x3)] [] s 0 0 (fun s' v => GI s' ∧ FL [5632, 5696] s0 s' ∧ v = none) := by
  intro n
  induction n with
  | zero => intro s x1 x2 x3 hG f b_x1 b_x2 b_x3  hm; exfalso; omega
  | succ n ih =>
    intro s x1 x2 x3 hG f b_x1 b_x2 b_x3  hm
    refine x_A k167_60 (fun _ => rfl) ?_
    refine x_getR k167_61 (f := 3) rfl (q := 256) (n := 62) (kd := 15) ⟨by decide, rfl⟩ (q2 := 258) (by decide) rfl ?_
    refine x_A k167_64 (fun _ => rfl) ?_
    refine x_iald k167_65 (q := 258) (n := 40) ⟨by decide, rfl⟩ (by decide) (by first | exact x_rbl b_x3 rfl rfl | exact ⟨by omega, by omega⟩) ?_
    refine x_top (fun z314 e_z314 => ?_)
    have g_z314 : (-1) ≤ s 258 x3.toNat ∧ s 258 x3.toNat ≤ 9 := hG 258 x3.toNat
    refine x_if_lt k167_66 (t := 129) rfl (by first | exact x_rbe e_z314 g_z314 rfl rfl | exact x_rb g_z314 rfl rfl | exact ⟨by omega, by omega⟩) (fun c315 => ?_) (fun c315 => ?_)
    · skip
      refine x_A k167_129 (fun _ => rfl) ?_
      refine x_istore k167_130 (ls' := [(4, vi 0), (0, .ref 256), (1, vi x1), (2, vi x2), (3, vi x3)]) (by decide) rfl ?_
      refine x_ls (l := [(0, .ref 256), (1, vi x1), (2, vi x2), (3, vi x3), (4, vi 0)]) (show ([0, 1, 2, 3, 4] : List Nat).Nodup from by decide +kernel) ⟨rfl, rfl, rfl, rfl, rfl, trivial⟩ ?_
      exact L_C_X11_findMeant_256_132 s0 hJ0 rk hrk jr hjr  (((6 - 0) + 1 : Int)).toNat s x1 x2 x3 0 hG f (by first | exact x_rb b_x1 rfl rfl | exact ⟨by omega, by omega⟩) (by first | exact x_rb b_x2 rfl rfl | exact ⟨by omega, by omega⟩) (by first | exact x_rb b_x3 rfl rfl | exact ⟨by omega, by omega⟩) ⟨by decide, by decide⟩  (by omega)
    · skip
      refine x_A k167_69 (fun _ => rfl) ?_
      refine x_getR k167_70 (f := 3) rfl (q := 256) (n := 62) (kd := 15) ⟨by decide, rfl⟩ (q2 := 258) (by decide) rfl ?_
      refine x_A k167_73 (fun _ => rfl) ?_
      refine x_iald k167_74 (q := 258) (n := 40) ⟨by decide, rfl⟩ (by decide) (by first | exact x_rbl b_x3 rfl rfl | exact ⟨by omega, by omega⟩) ?_
      rw [e_z314.symm]
      refine x_A k167_75 (fun _ => rfl) ?_
      refine x_ic_gt k167_76 (t := 129) rfl (by first | exact x_rbe e_z314 g_z314 rfl rfl | exact x_rb g_z314 rfl rfl | exact ⟨by omega, by omega⟩) (by first | exact x_rb b_x2 rfl rfl | exact ⟨by omega, by omega⟩) (fun c316 => ?_) (fun c316 => ?_)
      · skip
        refine x_A k167_129 (fun _ => rfl) ?_
        refine x_istore k167_130 (ls' := [(4, vi 0), (0, .ref 256), (1, vi x1), (2, vi x2), (3, vi x3)]) (by decide) rfl ?_
        refine x_ls (l := [(0, .ref 256), (1, vi x1), (2, vi x2), (3, vi x3), (4, vi 0)]) (show ([0, 1, 2, 3, 4] : List Nat).Nodup from by decide +kernel) ⟨rfl, rfl, rfl, rfl, rfl, trivial⟩ ?_
        exact L_C_X11_findMeant_256_132 s0 hJ0 rk hrk jr hjr  (((6 - 0) + 1 : Int)).toNat s x1 x2 x3 0 hG f (by first | exact x_rb b_x1 rfl rfl | exact ⟨by omega, by omega⟩) (by first | exact x_rb b_x2 rfl rfl | exact ⟨by omega, by omega⟩) (by first | exact x_rb b_x3 rfl rfl | exact ⟨by omega, by omega⟩) ⟨by decide, by decide⟩  (by omega)
      · skip
        have ji : jm s0 jr x2 x3 = jr x3 + 1 := jm_in (by rw [← f 258 _ (show 4224 ∉ [5632, 5696] from by decide +kernel), e_z314.symm]; exact ⟨by omega, by omega⟩)
        refine x_A k167_79 (fun _ => rfl) ?_
        refine x_getR k167_80 (f := 4) rfl (q := 256) (n := 62) (kd := 15) ⟨by decide, rfl⟩ (q2 := 259) (by decide) rfl ?_
        refine x_A k167_83 (fun _ => rfl) ?_
        refine x_iald k167_84 (q := 259) (n := 40) ⟨by decide, rfl⟩ (by decide) (by first | exact x_rbl b_x3 rfl rfl | exact ⟨by omega, by omega⟩) ?_
        refine x_top (fun z317 e_z317 => ?_)
        have g_z317 : (-1) ≤ s 259 x3.toNat ∧ s 259 x3.toNat ≤ 39 := hG 259 x3.toNat
        refine x_if_lt k167_85 (t := 98) rfl (by first | exact x_rbe e_z317 g_z317 rfl rfl | exact x_rb g_z317 rfl rfl | exact ⟨by omega, by omega⟩) (fun c318 => ?_) (fun c318 => ?_)
        · skip
          refine x_A k167_98 (fun _ => rfl) ?_
          refine x_getR k167_99 (f := 31) rfl (q := 256) (n := 62) (kd := 15) ⟨by decide, rfl⟩ (q2 := 281) (by decide) rfl ?_
          refine x_A k167_102 (fun _ => rfl) ?_
          refine x_A k167_103 (fun _ => rfl) ?_
          refine x_bast k167_104 (q := 281) (n := 120) ⟨by decide, rfl⟩ (by decide) (by first | exact x_rbl b_x1 rfl rfl | exact ⟨by omega, by omega⟩) ⟨by omega, by omega⟩ ?_
          refine x_nh (fun s319 e_s319 => ?_)
          have hG_s319 : GI s319 := by rw [e_s319]; exact hG.up (show 0 ≤ 1 ∧ 1 ≤ 1 from ⟨by decide, by decide⟩)
          have f_s319 : FL [5632, 5696] s0 s319 := by rw [e_s319]; exact f.up (show 5696 ∈ [5632, 5696] from by decide +kernel)
          have q320 : s319 258 x3.toNat = z314 := by rw [e_s319, x_up_q (by first | decide | omega)]; exact e_z314.symm
          have q321 : s319 259 x3.toNat = z317 := by rw [e_s319, x_up_q (by first | decide | omega)]; exact e_z317.symm
          have q322 : s319 281 x1.toNat = 1 := by rw [e_s319]; exact x_up_same
          refine x_ls (l := [(0, .ref 256), (1, vi x1), (2, vi x2), (3, vi x3)]) (show ([0, 1, 2, 3] : List Nat).Nodup from by decide +kernel) ⟨rfl, rfl, rfl, rfl, trivial⟩ ?_
          exact L_C_X11_findMeant_256_105 s0 hJ0 rk hrk jr hjr n (fun s x1 x2 x3 hG f b_x1 b_x2 b_x3 hm => ih s x1 x2 x3 hG f b_x1 b_x2 b_x3  hm) ((((rkm (rk x2) x3 : Nat) : Int) + 1 : Int)).toNat s319 x1 x2 x3 hG_s319 f_s319 (by first | exact x_rb b_x1 rfl rfl | exact ⟨by omega, by omega⟩) (by first | exact x_rb b_x2 rfl rfl | exact ⟨by omega, by omega⟩) (by first | exact x_rb b_x3 rfl rfl | exact ⟨by omega, by omega⟩) (by omega) (by omega)
        · skip
          refine x_A k167_88 (fun _ => rfl) ?_
          refine x_getR k167_89 (f := 4) rfl (q := 256) (n := 62) (kd := 15) ⟨by decide, rfl⟩ (q2 := 259) (by decide) rfl ?_
          refine x_A k167_92 (fun _ => rfl) ?_
          refine x_iald k167_93 (q := 259) (n := 40) ⟨by decide, rfl⟩ (by decide) (by first | exact x_rbl b_x3 rfl rfl | exact ⟨by omega, by omega⟩) ?_
          rw [e_z317.symm]
          have jl := (hjr.fl f (by decide +kernel)) x3 (by omega) (by omega) (by rw [e_z317.symm]; omega)
          rw [e_z317.symm] at jl
          have jk := jm_le (s := s0) (jr := jr) x2 z317
          refine x_istore_n k167_94 (ls' := [(3, vi z317), (0, .ref 256), (1, vi x1), (2, vi x2)]) (by decide) rfl ?_
          refine x_goto k167_95 (t := 60) rfl ?_
          refine x_ls (l := [(0, .ref 256), (1, vi x1), (2, vi x2), (3, vi z317)]) (show ([0, 1, 2, 3] : List Nat).Nodup from by decide +kernel) ⟨rfl, rfl, rfl, rfl, trivial⟩ ?_
          exact ih s x1 x2 z317 hG f (by first | exact x_rb b_x1 rfl rfl | exact ⟨by omega, by omega⟩) (by first | exact x_rb b_x2 rfl rfl | exact ⟨by omega, by omega⟩) (by first | exact x_rbe e_z317 g_z317 rfl rfl | exact x_rb g_z317 rfl rfl | exact ⟨by omega, by omega⟩)  (by omega)
theorem C_X11_findMeant_256 (s0 : xS) (hG0 : GI s0) (hJ0 : J s0) (a : Int) (b_a : 0 ≤ a ∧ a ≤ 119) (b : Int) (b_b : 0 ≤ b ∧ b ≤ 9) : xe none 167 0 (lv_args 0 [.ref 256, vi a, vi b]) [] s0 0 0 (fun s' v => GI s' ∧ FL [5632, 5696] s0 s' ∧ v = none) := by
  have f0 : FL [5632, 5696] s0 s0 := FL.rf
  show xe none 167 0 [(0, .ref 256), (1, vi a), (2, vi b)] [] s0 0 0 _
  obtain ⟨rk, hrk⟩ := hJ0.2.1
  obtain ⟨jr, hjr⟩ := hJ0.2.2.2.1
  refine x_A k167_0 (fun _ => rfl) ?_
  refine x_getR k167_1 (f := 31) rfl (q := 256) (n := 62) (kd := 15) ⟨by decide, rfl⟩ (q2 := 281) (by decide) rfl ?_
  refine x_A k167_4 (fun _ => rfl) ?_
  refine x_A k167_5 (fun _ => rfl) ?_
  refine x_bast k167_6 (q := 281) (n := 120) ⟨by decide, rfl⟩ (by decide) (by first | exact x_rbl b_a rfl rfl | exact ⟨by omega, by omega⟩) ⟨by omega, by omega⟩ ?_
  refine x_nh (fun s323 e_s323 => ?_)
  have hG_s323 : GI s323 := by rw [e_s323]; exact hG0.up (show 0 ≤ 0 ∧ 0 ≤ 1 from ⟨by decide, by decide⟩)
  have f_s323 : FL [5632, 5696] s0 s323 := by rw [e_s323]; exact f0.up (show 5696 ∈ [5632, 5696] from by decide +kernel)
  have q324 : s323 281 a.toNat = 0 := by rw [e_s323]; exact x_up_same
  refine x_A k167_7 (fun _ => rfl) ?_
  refine x_getR k167_8 (f := 30) rfl (q := 256) (n := 62) (kd := 15) ⟨by decide, rfl⟩ (q2 := 280) (by decide) rfl ?_
  refine x_A k167_11 (fun _ => rfl) ?_
  refine x_A k167_12 (fun _ => rfl) ?_
  refine x_iast k167_13 (q := 280) (n := 120) ⟨by decide, rfl⟩ (by decide) (by first | exact x_rbl b_a rfl rfl | exact ⟨by omega, by omega⟩) ?_
  refine x_nh (fun s325 e_s325 => ?_)
  have hG_s325 : GI s325 := by rw [e_s325]; exact hG_s323.up (show (-1) ≤ (-1) ∧ (-1) ≤ 39 from ⟨by decide, by decide⟩)
  have f_s325 : FL [5632, 5696] s0 s325 := by rw [e_s325]; exact f_s323.up (show 5632 ∈ [5632, 5696] from by decide +kernel)
  have q326 : s325 281 a.toNat = 0 := by rw [e_s325, x_up_q (by first | decide | omega)]; exact q324
  have q327 : s325 280 a.toNat = (-1) := by rw [e_s325]; exact x_up_same
  refine x_A k167_14 (fun _ => rfl) ?_
  refine x_getR k167_15 (f := 15) rfl (q := 256) (n := 62) (kd := 15) ⟨by decide, rfl⟩ (q2 := 268) (by decide) rfl ?_
  refine x_A k167_18 (fun _ => rfl) ?_
  refine x_iald k167_19 (q := 268) (n := 120) ⟨by decide, rfl⟩ (by decide) (by first | exact x_rbl b_a rfl rfl | exact ⟨by omega, by omega⟩) ?_
  refine x_top (fun z328 e_z328 => ?_)
  have g_z328 : (0 : Int) ≤ s325 268 a.toNat ∧ s325 268 a.toNat ≤ 9 := hG_s325 268 a.toNat
  refine x_A k167_20 (fun _ => rfl) ?_
  refine x_ic_gt k167_21 (t := 52) rfl (by first | exact x_rbe e_z328 g_z328 rfl rfl | exact x_rb g_z328 rfl rfl | exact ⟨by omega, by omega⟩) (by first | exact x_rb b_b rfl rfl | exact ⟨by omega, by omega⟩) (fun c329 => ?_) (fun c329 => ?_)
  · skip
    exact x_vret k167_52 rfl ⟨hG_s325, f_s325, rfl⟩
  · skip
    refine x_A k167_24 (fun _ => rfl) ?_
    refine x_getR k167_25 (f := 27) rfl (q := 256) (n := 62) (kd := 15) ⟨by decide, rfl⟩ (q2 := 277) (by decide) rfl ?_
    refine x_A k167_28 (fun _ => rfl) ?_
    refine x_iald k167_29 (q := 277) (n := 120) ⟨by decide, rfl⟩ (by decide) (by first | exact x_rbl b_a rfl rfl | exact ⟨by omega, by omega⟩) ?_
    refine x_top (fun z330 e_z330 => ?_)
    have g_z330 : (0 : Int) ≤ s325 277 a.toNat ∧ s325 277 a.toNat ≤ 4 := hG_s325 277 a.toNat
    refine x_if_gt k167_30 (t := 52) rfl (by first | exact x_rbe e_z330 g_z330 rfl rfl | exact x_rb g_z330 rfl rfl | exact ⟨by omega, by omega⟩) (fun c331 => ?_) (fun c331 => ?_)
    · skip
      exact x_vret k167_52 rfl ⟨hG_s325, f_s325, rfl⟩
    · skip
      refine x_A k167_33 (fun _ => rfl) ?_
      refine x_getR k167_34 (f := 28) rfl (q := 256) (n := 62) (kd := 15) ⟨by decide, rfl⟩ (q2 := 278) (by decide) rfl ?_
      refine x_A k167_37 (fun _ => rfl) ?_
      refine x_bald k167_38 (q := 278) (n := 120) ⟨by decide, rfl⟩ (by decide) (by first | exact x_rbl b_a rfl rfl | exact ⟨by omega, by omega⟩) ?_
      refine x_top (fun z332 e_z332 => ?_)
      have g_z332 : (0 : Int) ≤ s325 278 a.toNat ∧ s325 278 a.toNat ≤ 1 := hG_s325 278 a.toNat
      refine x_if_ne k167_39 (t := 52) rfl (by first | exact x_rbe e_z332 g_z332 rfl rfl | exact x_rb g_z332 rfl rfl | exact ⟨by omega, by omega⟩) (fun c333 => ?_) (fun c333 => ?_)
      · skip
        exact x_vret k167_52 rfl ⟨hG_s325, f_s325, rfl⟩
      · skip
        refine x_A k167_42 (fun _ => rfl) ?_
        refine x_A k167_43 (fun _ => rfl) ?_
        refine x_A k167_44 (fun _ => rfl) ?_
        refine x_callV k167_45 (y := 156) (n := 2) (w0 := 0) (w1 := 2) (as := [vi a, vi b]) (rest := []) (by decide +kernel) (q := 256) (nq := 62) (kq := 15) ⟨by decide, rfl⟩ rfl rfl rfl rfl (xe_mono (C_X11_doubts_256 s325 hG_s325 a (by first | exact x_rb b_a rfl rfl | exact ⟨by omega, by omega⟩) b (by first | exact x_rb b_b rfl rfl | exact ⟨by omega, by omega⟩)) ?_)
        rintro s335 v ⟨-, t_s335, z334, rfl, g_z334⟩
        rw [t_s335.nil]
        show xe none 167 48 [(0, .ref 256), (1, vi a), (2, vi b)] [vi z334] s325 0 0 _
        refine x_A k167_48 (fun _ => rfl) ?_
        refine x_ic_le k167_49 (t := 53) rfl (by first | exact x_rbe e_z334 g_z334 rfl rfl | exact x_rb g_z334 rfl rfl | exact ⟨by omega, by omega⟩) ⟨by decide, by decide⟩ (fun c336 => ?_) (fun c336 => ?_)
        · skip
          refine x_A k167_53 (fun _ => rfl) ?_
          refine x_getR k167_54 (f := 12) rfl (q := 256) (n := 62) (kd := 15) ⟨by decide, rfl⟩ (q2 := 265) (by decide) rfl ?_
          refine x_A k167_57 (fun _ => rfl) ?_
          refine x_iald k167_58 (q := 265) (n := 120) ⟨by decide, rfl⟩ (by decide) (by first | exact x_rbl b_a rfl rfl | exact ⟨by omega, by omega⟩) ?_
          refine x_top (fun z337 e_z337 => ?_)
          have g_z337 : (0 : Int) ≤ s325 265 a.toNat ∧ s325 265 a.toNat ≤ 39 := hG_s325 265 a.toNat
          refine x_istore_n k167_59 (ls' := [(3, vi z337), (0, .ref 256), (1, vi a), (2, vi b)]) (by decide) rfl ?_
          refine x_ls (l := [(0, .ref 256), (1, vi a), (2, vi b), (3, vi z337)]) (show ([0, 1, 2, 3] : List Nat).Nodup from by decide +kernel) ⟨rfl, rfl, rfl, rfl, trivial⟩ ?_
          exact L_C_X11_findMeant_256_60 s0 hJ0 rk hrk jr hjr  ((((jm s0 jr b z337 : Nat) : Int) + 1 : Int)).toNat s325 a b z337 hG_s325 f_s325 (by first | exact x_rb b_a rfl rfl | exact ⟨by omega, by omega⟩) (by first | exact x_rb b_b rfl rfl | exact ⟨by omega, by omega⟩) (by first | exact x_rbe e_z337 g_z337 rfl rfl | exact x_rb g_z337 rfl rfl | exact ⟨by omega, by omega⟩)  (by omega)
        · skip
          exact x_vret k167_52 rfl ⟨hG_s325, f_s325, rfl⟩
theorem L_C_X11_find_256_50 (s0 : xS) (hJ0 : J s0) (rk : Int → Int → Nat) (hrk : JP1 s0 rk) (n_29 : Nat) (ih_29 : ∀ (s : xS) (x1 : Int) (x2 : Int) (hG : GI s) (f : FL [5312, 5376, 4123, 5440, 5504, 5568, 5632, 5696, 5760] s0 s) (b_x1 : 0 ≤ x1 ∧ x1 ≤ 9) (b_x2 : 0 ≤ x2 ∧ x2 ≤ 120) (hm : (120 - x2) < (n_29 : Int)), xe none 168 29 [(0, .ref 256), (1, vi x1), (2, vi x2)] [] s 0 0 (fun s' v => GI s' ∧ FL [5312, 5376, 4123, 5440, 5504, 5568, 5632, 5696, 5760] s0 s' ∧ v = none)) : ∀ (n : Nat) (s : xS) (x1 : Int) (x2 : Int) (x3 : Int) (hG : GI s) (f : FL [5312, 5376, 4123, 5440, 5504, 5568, 5632, 5696, 5760] s0 s) (b_x1 : 0 ≤ x1 ∧ x1 ≤ 9) (b_x2 : 0 ≤ x2 ∧ x2 ≤ 119) (b_x3 : (-1) ≤ x3 ∧ x3 ≤ 39) (k_29 : (120 - x2) < (n_29 : Int) + 1) (hm : ((rkm (rk x1) x3 : Nat) : Int) < (n : Int)), xe none 168 50 [(0, .ref 256), (1, vi x1), (2, vi x2), (3, vi x3)] [] s 0 0 (fun s' v => GI s' ∧ FL [5312, 5376, 4123, 5440, 5504, 5568, 5632, 5696, 5760] s0 s' ∧ v = none) := by
  intro n
  induction n with
  | zero => intro s x1 x2 x3 hG f b_x1 b_x2 b_x3 k_29 hm; exfalso; omega
  | succ n ih =>
    intro s x1 x2 x3 hG f b_x1 b_x2 b_x3 k_29 hm
    refine x_A k168_50 (fun _ => rfl) ?_
    refine x_if_lt k168_51 (t := 86) rfl (by first | exact x_rb b_x3 rfl rfl | exact ⟨by omega, by omega⟩) (fun c457 => ?_) (fun c457 => ?_)
    · skip
      refine x_iinc k168_86 (ls' := [(2, vi (x2 + 1)), (0, .ref 256), (1, vi x1), (3, vi x3)]) rfl (by decide) rfl ?_
      refine x_goto k168_89 (t := 29) rfl ?_
      refine x_ls (l := [(0, .ref 256), (1, vi x1), (2, vi (x2 + 1))]) (show ([0, 1, 2] : List Nat).Nodup from by decide +kernel) ⟨rfl, rfl, rfl, trivial⟩ ?_
      exact ih_29 s x1 (x2 + 1) hG f (by first | exact x_rb b_x1 rfl rfl | exact ⟨by omega, by omega⟩) ⟨by omega, by omega⟩ (by omega)
    · skip
      refine x_A k168_54 (fun _ => rfl) ?_
      refine x_getR k168_55 (f := 32) rfl (q := 256) (n := 62) (kd := 15) ⟨by decide, rfl⟩ (q2 := 282) (by decide) rfl ?_
      refine x_A k168_58 (fun _ => rfl) ?_
      refine x_getR k168_59 (f := 11) rfl (q := 256) (n := 62) (kd := 15) ⟨by decide, rfl⟩ (q2 := 264) (by decide) rfl ?_
      refine x_A k168_62 (fun _ => rfl) ?_
      refine x_iald k168_63 (q := 264) (n := 120) ⟨by decide, rfl⟩ (by decide) (by first | exact x_rbl b_x2 rfl rfl | exact ⟨by omega, by omega⟩) ?_
      refine x_top (fun z458 e_z458 => ?_)
      have g_z458 : (0 : Int) ≤ s 264 x2.toNat ∧ s 264 x2.toNat ≤ 39 := hG 264 x2.toNat
      refine x_A k168_64 (fun _ => rfl) ?_
      refine x_lald k168_65 (q := 282) (n := 40) ⟨by decide, rfl⟩ (by decide) (by first | exact x_rbel e_z458 g_z458 rfl rfl | exact x_rbl g_z458 rfl rfl | exact ⟨by omega, by omega⟩) ?_
      refine x_topL (fun z459 e_z459 => ?_)
      have b_z459 : in64 z459 := by rw [e_z459]; exact hG 282 z458.toNat
      refine x_lconst k168_66 (z := 1) (by decide +kernel) ?_
      refine x_A k168_67 (fun _ => rfl) ?_
      refine x_lshl_any k168_68 (fun z460 b_z460 => ?_)
      refine x_lor_any k168_69 (fun z461 b_z461 => ?_)
      refine x_last k168_70 (q := 282) (n := 40) ⟨by decide, rfl⟩ (by decide) (by first | exact x_rbel e_z458 g_z458 rfl rfl | exact x_rbl g_z458 rfl rfl | exact ⟨by omega, by omega⟩) ?_
      refine x_nh (fun s462 e_s462 => ?_)
      have hG_s462 : GI s462 := by rw [e_s462]; exact hG.up (show in64 z461 from b_z461)
      have f_s462 : FL [5312, 5376, 4123, 5440, 5504, 5568, 5632, 5696, 5760] s0 s462 := by rw [e_s462]; exact f.up (show 5760 ∈ [5312, 5376, 4123, 5440, 5504, 5568, 5632, 5696, 5760] from by decide +kernel)
      have q463 : s462 264 x2.toNat = z458 := by rw [e_s462, x_up_q (by first | decide | omega)]; exact e_z458.symm
      refine x_A k168_71 (fun _ => rfl) ?_
      refine x_getR k168_72 (f := 5) rfl (q := 256) (n := 62) (kd := 15) ⟨by decide, rfl⟩ (q2 := 260) (by decide) rfl ?_
      refine x_bipush k168_75 (by decide +kernel) ?_
      refine x_A k168_77 (fun _ => rfl) ?_
      refine x_imul k168_78 ?_
      refine x_top (fun z464 e_z464 => ?_)
      refine x_A k168_79 (fun _ => rfl) ?_
      refine x_iadd k168_80 ?_
      refine x_top (fun z465 e_z465 => ?_)
      refine x_iald k168_81 (q := 260) (n := 400) ⟨by decide, rfl⟩ (by decide) (by first | exact x_rbel e_z465 g_z465 rfl rfl | exact x_rbl g_z465 rfl rfl | exact ⟨by omega, by omega⟩) ?_
      refine x_top (fun z466 e_z466 => ?_)
      have g_z466 : (-1) ≤ s462 260 z465.toNat ∧ s462 260 z465.toNat ≤ 39 := hG_s462 260 z465.toNat
      have d_z466 := (hrk.fl f_s462 (by decide +kernel)).dn x3 x1 ⟨by omega, by omega⟩ ⟨by omega, by omega⟩
      rw [show 10 * x3 + x1 = z465 by omega, e_z466.symm] at d_z466
      refine x_istore_n k168_82 (ls' := [(3, vi z466), (0, .ref 256), (1, vi x1), (2, vi x2)]) (by decide) rfl ?_
      refine x_goto k168_83 (t := 50) rfl ?_
      refine x_ls (l := [(0, .ref 256), (1, vi x1), (2, vi x2), (3, vi z466)]) (show ([0, 1, 2, 3] : List Nat).Nodup from by decide +kernel) ⟨rfl, rfl, rfl, rfl, trivial⟩ ?_
      exact ih s462 x1 x2 z466 hG_s462 f_s462 (by first | exact x_rb b_x1 rfl rfl | exact ⟨by omega, by omega⟩) (by first | exact x_rb b_x2 rfl rfl | exact ⟨by omega, by omega⟩) (by first | exact x_rbe e_z466 g_z466 rfl rfl | exact x_rb g_z466 rfl rfl | exact ⟨by omega, by omega⟩) (by omega) (by omega)
theorem L_C_X11_find_256_29 (s0 : xS) (hJ0 : J s0) (rk : Int → Int → Nat) (hrk : JP1 s0 rk)  : ∀ (n : Nat) (s : xS) (x1 : Int) (x2 : Int) (hG : GI s) (f : FL [5312, 5376, 4123, 5440, 5504, 5568, 5632, 5696, 5760] s0 s) (b_x1 : 0 ≤ x1 ∧ x1 ≤ 9) (b_x2 : 0 ≤ x2 ∧ x2 ≤ 120)  (hm : (120 - x2) < (n : Int)), xe none 168 29 [(0, .ref 256), (1, vi x1), (2, vi x2)] [] s 0 0 (fun s' v => GI s' ∧ FL [5312, 5376, 4123, 5440, 5504, 5568, 5632, 5696, 5760] s0 s' ∧ v = none) := by
  intro n
  induction n with
  | zero => intro s x1 x2 hG f b_x1 b_x2  hm; exfalso; omega
  | succ n ih =>
    intro s x1 x2 hG f b_x1 b_x2  hm
    refine x_A k168_29 (fun _ => rfl) ?_
    refine x_A k168_30 (fun _ => rfl) ?_
    refine x_getI k168_31 (f := 10) rfl (q := 256) (n := 62) (kd := 15) ⟨by decide, rfl⟩ (by decide) rfl ?_
    refine x_top (fun z467 e_z467 => ?_)
    have g_z467 : (0 : Int) ≤ s 256 10 ∧ s 256 10 ≤ 120 := hG 256 10
    refine x_ic_ge k168_34 (t := 92) rfl (by first | exact x_rb b_x2 rfl rfl | exact ⟨by omega, by omega⟩) (by first | exact x_rbe e_z467 g_z467 rfl rfl | exact x_rb g_z467 rfl rfl | exact ⟨by omega, by omega⟩) (fun c468 => ?_) (fun c468 => ?_)
    · skip
      exact x_vret k168_92 rfl ⟨hG, f, rfl⟩
    · skip
      refine x_A k168_37 (fun _ => rfl) ?_
      refine x_A k168_38 (fun _ => rfl) ?_
      refine x_A k168_39 (fun _ => rfl) ?_
      refine x_callV k168_40 (y := 167) (n := 2) (w0 := 0) (w1 := 2) (as := [vi x2, vi x1]) (rest := []) (by decide +kernel) (q := 256) (nq := 62) (kq := 15) ⟨by decide, rfl⟩ rfl rfl rfl rfl (xe_mono (C_X11_findMeant_256 s hG (hJ0.fl f (by decide +kernel)) x2 (by first | exact x_rb b_x2 rfl rfl | exact ⟨by omega, by omega⟩) x1 (by first | exact x_rb b_x1 rfl rfl | exact ⟨by omega, by omega⟩)) ?_)
      rintro s470 v ⟨hG_s470, t_s470, rfl⟩
      have f_s470 : FL [5312, 5376, 4123, 5440, 5504, 5568, 5632, 5696, 5760] s0 s470 := f.tr t_s470 (by decide +kernel)
      have q471 : s470 256 10 = z467 := (t_s470 256 10 (show 4107 ∉ [5632, 5696] from by decide +kernel)).trans e_z467.symm
      show xe none 168 43 [(0, .ref 256), (1, vi x1), (2, vi x2)] [] s470 0 0 _
      refine x_A k168_43 (fun _ => rfl) ?_
      refine x_getR k168_44 (f := 30) rfl (q := 256) (n := 62) (kd := 15) ⟨by decide, rfl⟩ (q2 := 280) (by decide) rfl ?_
      refine x_A k168_47 (fun _ => rfl) ?_
      refine x_iald k168_48 (q := 280) (n := 120) ⟨by decide, rfl⟩ (by decide) (by first | exact x_rbl b_x2 rfl rfl | exact ⟨by omega, by omega⟩) ?_
      refine x_top (fun z472 e_z472 => ?_)
      have g_z472 : (-1) ≤ s470 280 x2.toNat ∧ s470 280 x2.toNat ≤ 39 := hG_s470 280 x2.toNat
      refine x_istore_n k168_49 (ls' := [(3, vi z472), (0, .ref 256), (1, vi x1), (2, vi x2)]) (by decide) rfl ?_
      refine x_ls (l := [(0, .ref 256), (1, vi x1), (2, vi x2), (3, vi z472)]) (show ([0, 1, 2, 3] : List Nat).Nodup from by decide +kernel) ⟨rfl, rfl, rfl, rfl, trivial⟩ ?_
      exact L_C_X11_find_256_50 s0 hJ0 rk hrk n (fun s x1 x2 hG f b_x1 b_x2 hm => ih s x1 x2 hG f b_x1 b_x2  hm) ((((rkm (rk x1) z472 : Nat) : Int) + 1 : Int)).toNat s470 x1 x2 z472 hG_s470 f_s470 (by first | exact x_rb b_x1 rfl rfl | exact ⟨by omega, by omega⟩) (by first | exact x_rb b_x2 rfl rfl | exact ⟨by omega, by omega⟩) (by first | exact x_rbe e_z472 g_z472 rfl rfl | exact x_rb g_z472 rfl rfl | exact ⟨by omega, by omega⟩) (by omega) (by omega)
theorem L_C_X11_find_256_6 (s0 : xS) (hJ0 : J s0) (rk : Int → Int → Nat) (hrk : JP1 s0 rk)  : ∀ (n : Nat) (s : xS) (x1 : Int) (x2 : Int) (hG : GI s) (f : FL [5312, 5376, 4123, 5440, 5504, 5568, 5632, 5696, 5760] s0 s) (b_x1 : 0 ≤ x1 ∧ x1 ≤ 9) (b_x2 : 0 ≤ x2 ∧ x2 ≤ 40)  (hm : (40 - x2) < (n : Int)), xe none 168 6 [(0, .ref 256), (1, vi x1), (2, vi x2)] [] s 0 0 (fun s' v => GI s' ∧ FL [5312, 5376, 4123, 5440, 5504, 5568, 5632, 5696, 5760] s0 s' ∧ v = none) := by
  intro n
  induction n with
  | zero => intro s x1 x2 hG f b_x1 b_x2  hm; exfalso; omega
  | succ n ih =>
    intro s x1 x2 hG f b_x1 b_x2  hm
    refine x_A k168_6 (fun _ => rfl) ?_
    refine x_A k168_7 (fun _ => rfl) ?_
    refine x_getI k168_8 (f := 6) rfl (q := 256) (n := 62) (kd := 15) ⟨by decide, rfl⟩ (by decide) rfl ?_
    refine x_top (fun z473 e_z473 => ?_)
    have g_z473 : (0 : Int) ≤ s 256 6 ∧ s 256 6 ≤ 40 := hG 256 6
    refine x_ic_ge k168_11 (t := 27) rfl (by first | exact x_rb b_x2 rfl rfl | exact ⟨by omega, by omega⟩) (by first | exact x_rbe e_z473 g_z473 rfl rfl | exact x_rb g_z473 rfl rfl | exact ⟨by omega, by omega⟩) (fun c474 => ?_) (fun c474 => ?_)
    · skip
      refine x_A k168_27 (fun _ => rfl) ?_
      refine x_istore_n k168_28 (ls' := [(2, vi 0), (0, .ref 256), (1, vi x1)]) (by decide) rfl ?_
      refine x_ls (l := [(0, .ref 256), (1, vi x1), (2, vi 0)]) (show ([0, 1, 2] : List Nat).Nodup from by decide +kernel) ⟨rfl, rfl, rfl, trivial⟩ ?_
      exact L_C_X11_find_256_29 s0 hJ0 rk hrk  (((120 - 0) + 1 : Int)).toNat s x1 0 hG f (by first | exact x_rb b_x1 rfl rfl | exact ⟨by omega, by omega⟩) ⟨by decide, by decide⟩  (by omega)
    · skip
      refine x_A k168_14 (fun _ => rfl) ?_
      refine x_getR k168_15 (f := 32) rfl (q := 256) (n := 62) (kd := 15) ⟨by decide, rfl⟩ (q2 := 282) (by decide) rfl ?_
      refine x_A k168_18 (fun _ => rfl) ?_
      refine x_lconst k168_19 (z := 0) (by decide +kernel) ?_
      refine x_last k168_20 (q := 282) (n := 40) ⟨by decide, rfl⟩ (by decide) (by first | exact x_rbl b_x2 rfl rfl | exact ⟨by omega, by omega⟩) ?_
      refine x_nh (fun s475 e_s475 => ?_)
      have hG_s475 : GI s475 := by rw [e_s475]; exact hG.up (show in64 0 from ⟨by omega, by omega⟩)
      have f_s475 : FL [5312, 5376, 4123, 5440, 5504, 5568, 5632, 5696, 5760] s0 s475 := by rw [e_s475]; exact f.up (show 5760 ∈ [5312, 5376, 4123, 5440, 5504, 5568, 5632, 5696, 5760] from by decide +kernel)
      have q476 : s475 256 6 = z473 := by rw [e_s475, x_up_q (by decide)]; exact e_z473.symm
      refine x_iinc k168_21 (ls' := [(2, vi (x2 + 1)), (0, .ref 256), (1, vi x1)]) rfl (by decide) rfl ?_
      refine x_goto k168_24 (t := 6) rfl ?_
      refine x_ls (l := [(0, .ref 256), (1, vi x1), (2, vi (x2 + 1))]) (show ([0, 1, 2] : List Nat).Nodup from by decide +kernel) ⟨rfl, rfl, rfl, trivial⟩ ?_
      exact ih s475 x1 (x2 + 1) hG_s475 f_s475 (by first | exact x_rb b_x1 rfl rfl | exact ⟨by omega, by omega⟩) ⟨by omega, by omega⟩  (by omega)
theorem C_X11_find_256 (s0 : xS) (hG0 : GI s0) (hJ0 : J s0) (a : Int) (b_a : 0 ≤ a ∧ a ≤ 9) : xe none 168 0 (lv_args 0 [.ref 256, vi a]) [] s0 0 0 (fun s' v => GI s' ∧ FL [5312, 5376, 4123, 5440, 5504, 5568, 5632, 5696, 5760] s0 s' ∧ v = none) := by
  have f0 : FL [5312, 5376, 4123, 5440, 5504, 5568, 5632, 5696, 5760] s0 s0 := FL.rf
  show xe none 168 0 [(0, .ref 256), (1, vi a)] [] s0 0 0 _
  obtain ⟨rk, hrk⟩ := hJ0.2.1
  refine x_A k168_0 (fun _ => rfl) ?_
  refine x_callV k168_1 (y := 166) (n := 0) (w0 := 0) (w1 := 0) (as := []) (rest := []) (by decide +kernel) (q := 256) (nq := 62) (kq := 15) ⟨by decide, rfl⟩ rfl rfl rfl rfl (xe_mono (C_X11_findWrong_256 s0 hG0 (hJ0.fl f0 (by decide +kernel))) ?_)
  rintro s478 v ⟨hG_s478, t_s478, rfl⟩
  have f_s478 : FL [5312, 5376, 4123, 5440, 5504, 5568, 5632, 5696, 5760] s0 s478 := f0.tr t_s478 (by decide +kernel)
  show xe none 168 4 [(0, .ref 256), (1, vi a)] [] s478 0 0 _
  refine x_A k168_4 (fun _ => rfl) ?_
  refine x_istore_n k168_5 (ls' := [(2, vi 0), (0, .ref 256), (1, vi a)]) (by decide) rfl ?_
  refine x_ls (l := [(0, .ref 256), (1, vi a), (2, vi 0)]) (show ([0, 1, 2] : List Nat).Nodup from by decide +kernel) ⟨rfl, rfl, rfl, trivial⟩ ?_
  exact L_C_X11_find_256_6 s0 hJ0 rk hrk  (((40 - 0) + 1 : Int)).toNat s478 a 0 hG_s478 f_s478 (by first | exact x_rb b_a rfl rfl | exact ⟨by omega, by omega⟩) ⟨by decide, by decide⟩  (by omega)
