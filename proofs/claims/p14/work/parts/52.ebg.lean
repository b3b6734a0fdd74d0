set_option maxHeartbeats 8000000 in
theorem E_X10_feed_0 (s0 : xS) (hG0 : GI s0) (a : Int) (b_a : (-2147483648) ≤ a ∧ a ≤ 2147483647) (b : Int) (b_b : in64 b) : xe none 104 0 (lv_args 0 [.ref 0, vi a, vj b]) [] s0 0 0 (fun s' v => GI s' ∧ FL [1218, 1280] s0 s' ∧ ∃ z, v = some (vi z) ∧ ((-1004) ≤ z ∧ z ≤ 160) ∧ (FdC s0 s' a b z)) := by
  have f0 : FL [1218, 1280] s0 s0 := FL.rf
  show xe none 104 0 [(0, .ref 0), (1, vi a), (2, vj b)] [] s0 0 0 _
  refine x_A k104_0 (fun _ => rfl) ?_
  refine x_A k104_1 (fun _ => rfl) ?_
  refine x_bipush k104_2 (by decide +kernel) ?_
  refine x_callS k104_4 (y := 121) (n := 3) (w0 := 0) (w1 := 3) (as := [vi a, vi 1, vi 8]) (rest := []) (by decide +kernel) rfl rfl rfl rfl (xe_mono (C_X10_isWithin s0 hG0 a (by first | exact x_rb b_a rfl rfl | exact ⟨by omega, by omega⟩) 1 ⟨by decide, by decide⟩ 8 ⟨by decide, by decide⟩) ?_)
  rintro s52 v ⟨h_s52, z51, rfl, hz_z51⟩
  rw [h_s52]
  rcases hz_z51 with ⟨c_z51, e_z51⟩ | ⟨c_z51, e_z51⟩
  · rw [e_z51]
    show xe none 104 7 [(0, .ref 0), (1, vi a), (2, vj b)] [vi 1] s0 0 0 _
    refine x_if_ne k104_7 (t := 14) rfl ⟨by decide, by decide⟩ (fun c53 => ?_) (fun c53 => by exfalso; omega)
    refine x_A k104_14 (fun _ => rfl) ?_
    refine x_getR k104_15 (f := 3) rfl (q := 0) (n := 12) (kd := 3) ⟨by decide, rfl⟩ (q2 := 177) (by decide) rfl ?_
    refine x_getI k104_18 (f := 1) rfl (q := 177) (n := 7) (kd := 7) ⟨by decide, rfl⟩ (by decide) rfl ?_
    refine x_top (fun z54 e_z54 => ?_)
    have g_z54 : (0 : Int) ≤ s0 177 1 ∧ s0 177 1 ≤ 160 := hG0 177 1
    refine x_A k104_21 (fun _ => rfl) ?_
    refine x_iadd k104_22 ?_
    refine x_top (fun z55 e_z55 => ?_)
    refine x_sipush k104_23 (by decide +kernel) ?_
    refine x_ic_le k104_26 (t := 33) rfl (by first | exact x_rbe e_z55 g_z55 rfl rfl | exact x_rb g_z55 rfl rfl | exact ⟨by omega, by omega⟩) ⟨by decide, by decide⟩ (fun c56 => ?_) (fun c56 => ?_)
    · skip
      refine x_A k104_33 (fun _ => rfl) ?_
      refine x_A k104_34 (fun _ => rfl) ?_
      refine x_isub k104_35 ?_
      refine x_top (fun z57 e_z57 => ?_)
      refine x_istore k104_36 (ls' := [(4, vi z57), (0, .ref 0), (1, vi a), (2, vj b)]) (by decide) rfl ?_
      refine x_ls (l := [(0, .ref 0), (1, vi a), (2, vj b), (4, vi z57)]) (show ([0, 1, 2, 4] : List Nat).Nodup from by decide +kernel) ⟨rfl, rfl, rfl, rfl, trivial⟩ ?_
      exact L_E_X10_feed_0_38 s0 a b_a b b_b  (((z57 - (-1)) + 1 : Int)).toNat s0 a b z57 z54 hG0 f0 (by first | exact x_rb b_a rfl rfl | exact ⟨by omega, by omega⟩) b_b (by first | exact x_rbe e_z57 g_z57 rfl rfl | exact x_rb g_z57 rfl rfl | exact ⟨by omega, by omega⟩) (by first | exact x_rbe e_z54 g_z54 rfl rfl | exact x_rb g_z54 rfl rfl | exact ⟨by omega, by omega⟩) (by omega) (by omega) (by omega) (by omega) (fun j => by rw [if_neg (by omega)]) rfl (e_z54.symm).symm  (by omega)
    · skip
      refine x_sipush k104_29 (by decide +kernel) ?_
      exact x_iret k104_32 rfl ⟨hG0, f0, (-1004), rfl, ⟨by decide, by decide⟩, (by unfold FdC; exact Or.inr (Or.inl ⟨by omega, by omega, rfl, rfl⟩))⟩
  · rw [e_z51]
    show xe none 104 7 [(0, .ref 0), (1, vi a), (2, vj b)] [vi 0] s0 0 0 _
    refine x_if_ne k104_7 (t := 14) rfl ⟨by decide, by decide⟩ (fun c58 => by exfalso; omega) (fun c58 => ?_)
    refine x_sipush k104_10 (by decide +kernel) ?_
    obtain ⟨z59, e_z59⟩ : ∃ z, z = s0 177 1 := ⟨_, rfl⟩
    have g_z59 : (0 : Int) ≤ s0 177 1 ∧ s0 177 1 ≤ 160 := hG0 177 1
    exact x_iret k104_13 rfl ⟨hG0, f0, (-1002), rfl, ⟨by decide, by decide⟩, (by unfold FdC; exact Or.inl ⟨by omega, rfl, rfl⟩)⟩
set_option maxHeartbeats 8000000 in
theorem L_E_X11_feed_256_37 (s0 : xS) (a : Int) (b_a : (-2147483648) ≤ a ∧ a ≤ 2147483647) (b : Int) (b_b : in64 b)  : ∀ (n : Nat) (s : xS) (x1 : Int) (x2 : Int) (x4 : Int) (x1000 : Int) (hG : GI s) (f : FL [4131, 5824] s0 s) (b_x1 : 1 ≤ x1 ∧ x1 ≤ 8) (b_x2 : in64 x2) (b_x4 : (-1) ≤ x4 ∧ x4 ≤ 7) (b_x1000 : 0 ≤ x1000 ∧ x1000 ≤ 160) (r_4_1 : x4 ≤ x1 + 0) (w_0 : x1 = a ∧ 1 ≤ a ∧ a ≤ 8 ∧ -1 ≤ x4 ∧ x4 ≤ a - 1) (w_1 : x1000 = s0 256 34 + (a - 1 - x4)) (w_2 : 0 ≤ s0 256 34 ∧ s0 256 34 + a ≤ 160) (w_3 : ∀ j : Nat, s 283 j = if s0 256 34 ≤ (j : Int) ∧ (j : Int) < s0 256 34 + (a - 1 - x4) then byt b (a - 1 - ((j : Int) - s0 256 34)) else s0 283 j) (w_4 : x2 = b) (e_x1000 : x1000 = s 256 34)  (hm : (x4 - (-1)) < (n : Int)), xe none 175 37 [(0, .ref 256), (1, vi x1), (2, vj x2), (4, vi x4)] [] s 0 0 (fun s' v => GI s' ∧ FL [4131, 5824] s0 s' ∧ ∃ z, v = some (vi z) ∧ ((-1004) ≤ z ∧ z ≤ 160) ∧ (FdR s0 s' a b z)) := by
  intro n
  induction n with
  | zero => intro s x1 x2 x4 x1000 hG f b_x1 b_x2 b_x4 b_x1000 r_4_1 w_0 w_1 w_2 w_3 w_4 e_x1000  hm; exfalso; omega
  | succ n ih =>
    intro s x1 x2 x4 x1000 hG f b_x1 b_x2 b_x4 b_x1000 r_4_1 w_0 w_1 w_2 w_3 w_4 e_x1000  hm
    refine x_A k175_37 (fun _ => rfl) ?_
    refine x_if_lt k175_39 (t := 79) rfl (by first | exact x_rb b_x4 rfl rfl | exact ⟨by omega, by omega⟩) (fun c52 => ?_) (fun c52 => ?_)
    · skip
      refine x_A k175_79 (fun _ => rfl) ?_
      refine x_getI k175_80 (f := 34) rfl (q := 256) (n := 62) (kd := 15) ⟨by decide, rfl⟩ (by decide) rfl ?_
      refine x_rw (e_x1000.symm) ?_
      exact x_iret k175_83 rfl ⟨hG, f, x1000, rfl, (by first | exact x_rb b_x1000 rfl rfl | exact ⟨by omega, by omega⟩), (by unfold FdR; exact Or.inr (Or.inr ⟨by omega, by omega, by omega, by omega, by rw [show a - 1 - x4 = a by omega] at w_3; exact w_3⟩))⟩
    · skip
      refine x_A k175_42 (fun _ => rfl) ?_
      refine x_getR k175_43 (f := 33) rfl (q := 256) (n := 62) (kd := 15) ⟨by decide, rfl⟩ (q2 := 283) (by decide) rfl ?_
      refine x_A k175_46 (fun _ => rfl) ?_
      refine x_getI k175_47 (f := 34) rfl (q := 256) (n := 62) (kd := 15) ⟨by decide, rfl⟩ (by decide) rfl ?_
      refine x_rw (e_x1000.symm) ?_
      refine x_A k175_50 (fun _ => rfl) ?_
      refine x_bipush k175_51 (by decide +kernel) ?_
      refine x_A k175_53 (fun _ => rfl) ?_
      refine x_imul k175_55 ?_
      refine x_top (fun z53 e_z53 => ?_)
      refine x_lshr_b k175_56 ⟨by omega, by omega⟩ (fun z54 b_z54 u_z54 => ?_)
      refine x_ldc2 k175_57 (z := 255) rfl (by decide +kernel) ?_
      refine x_land255 k175_60 (fun z55 u_z55 => ?_)
      refine x_l2i k175_61 ⟨by omega, by omega⟩ ?_
      have hb : z55 = byt b x4 := byt_R ⟨by omega, by omega⟩ (show z53 = 8 * x4 by omega) (by rw [← show x2 = b from w_4]; exact u_z54) u_z55
      refine x_iast k175_62 (q := 283) (n := 160) ⟨by decide, rfl⟩ (by decide) (by first | exact x_rbl b_x1000 rfl rfl | exact ⟨by omega, by omega⟩) ?_
      refine x_nh (fun s56 e_s56 => ?_)
      have hG_s56 : GI s56 := by rw [e_s56]; exact hG.up (show 0 ≤ z55 ∧ z55 ≤ 255 from (by first | exact x_rbe e_z55 g_z55 rfl rfl | exact x_rb g_z55 rfl rfl | exact ⟨by omega, by omega⟩))
      have f_s56 : FL [4131, 5824] s0 s56 := by rw [e_s56]; exact f.up (show 5824 ∈ [4131, 5824] from by decide +kernel)
      have q57 : s56 256 34 = x1000 := by rw [e_s56, x_up_q (by decide)]; exact e_x1000.symm
      have q58 : s56 283 x1000.toNat = z55 := by rw [e_s56]; exact x_up_same
      refine x_A k175_63 (fun _ => rfl) ?_
      refine x_A k175_64 (fun _ => rfl) ?_
      refine x_getI k175_65 (f := 34) rfl (q := 256) (n := 62) (kd := 15) ⟨by decide, rfl⟩ (by decide) rfl ?_
      refine x_rw (q57) ?_
      refine x_A k175_68 (fun _ => rfl) ?_
      refine x_iadd k175_69 ?_
      refine x_top (fun z59 e_z59 => ?_)
      refine x_putI k175_70 (f := 34) rfl (q := 256) (n := 62) (kd := 15) ⟨by decide, rfl⟩ rfl rfl rfl ?_
      refine x_nh (fun s60 e_s60 => ?_)
      have hG_s60 : GI s60 := by rw [e_s60]; exact hG_s56.up (show 0 ≤ z59 ∧ z59 ≤ 160 from (by first | exact x_rbe e_z59 g_z59 rfl rfl | exact x_rb g_z59 rfl rfl | exact ⟨by omega, by omega⟩))
      have f_s60 : FL [4131, 5824] s0 s60 := by rw [e_s60]; exact f_s56.up (show 4131 ∈ [4131, 5824] from by decide +kernel)
      have q61 : s60 256 34 = z59 := by rw [e_s60]; exact x_up_same
      have q62 : s60 283 x1000.toNat = z55 := by rw [e_s60, x_up_q (by first | decide | omega)]; exact q58
      refine x_iinc k175_73 (ls' := [(4, vi (x4 + (-1))), (0, .ref 256), (1, vi x1), (2, vj x2)]) rfl (by decide) rfl ?_
      refine x_goto k175_76 (t := 37) rfl ?_
      refine x_ls (l := [(0, .ref 256), (1, vi x1), (2, vj x2), (4, vi (x4 + (-1)))]) (show ([0, 1, 2, 4] : List Nat).Nodup from by decide +kernel) ⟨rfl, rfl, rfl, rfl, trivial⟩ ?_
      exact ih s60 x1 x2 (x4 + (-1)) z59 hG_s60 f_s60 (by first | exact x_rb b_x1 rfl rfl | exact ⟨by omega, by omega⟩) b_x2 ⟨by omega, by omega⟩ (by first | exact x_rbe e_z59 g_z59 rfl rfl | exact x_rb g_z59 rfl rfl | exact ⟨by omega, by omega⟩) (by omega) (by omega) (by omega) (by omega) (by rw [show a - 1 - (x4 + (-1)) = (a - 1 - x4) + 1 by omega]; exact fd_up w_3 (by omega) (by omega) (fun j => by rw [e_s60, x_up_q (by decide), e_s56, x_up_at, show x1000 = s0 256 34 + (a - 1 - x4) by omega, hb, show a - 1 - (a - 1 - x4) = x4 by omega])) w_4 (q61).symm  (by omega)
set_option maxHeartbeats 8000000 in
theorem E_X11_feed_256 (s0 : xS) (hG0 : GI s0) (a : Int) (b_a : (-2147483648) ≤ a ∧ a ≤ 2147483647) (b : Int) (b_b : in64 b) : xe none 175 0 (lv_args 0 [.ref 256, vi a, vj b]) [] s0 0 0 (fun s' v => GI s' ∧ FL [4131, 5824] s0 s' ∧ ∃ z, v = some (vi z) ∧ ((-1004) ≤ z ∧ z ≤ 160) ∧ (FdR s0 s' a b z)) := by
  have f0 : FL [4131, 5824] s0 s0 := FL.rf
  show xe none 175 0 [(0, .ref 256), (1, vi a), (2, vj b)] [] s0 0 0 _
  refine x_A k175_0 (fun _ => rfl) ?_
  refine x_i2l k175_1 (by first | exact x_rb b_a rfl rfl | exact ⟨by omega, by omega⟩) ?_
  refine x_lconst k175_2 (z := 1) (by decide +kernel) ?_
  refine x_ldc2 k175_3 (z := 8) rfl (by decide +kernel) ?_
  refine x_callS k175_6 (y := 136) (n := 3) (w0 := 0) (w1 := 6) (as := [vj a, vj 1, vj 8]) (rest := []) (by decide +kernel) rfl rfl rfl rfl (xe_mono (C_X11_in s0 hG0 a ⟨by omega, by omega⟩ 1 ⟨by omega, by omega⟩ 8 ⟨by omega, by omega⟩) ?_)
  rintro s64 v ⟨h_s64, z63, rfl, hz_z63⟩
  rw [h_s64]
  rcases hz_z63 with ⟨c_z63, e_z63⟩ | ⟨c_z63, e_z63⟩
  · rw [e_z63]
    show xe none 175 9 [(0, .ref 256), (1, vi a), (2, vj b)] [vi 1] s0 0 0 _
    refine x_if_ne k175_9 (t := 16) rfl ⟨by decide, by decide⟩ (fun c65 => ?_) (fun c65 => by exfalso; omega)
    refine x_A k175_16 (fun _ => rfl) ?_
    refine x_getI k175_17 (f := 34) rfl (q := 256) (n := 62) (kd := 15) ⟨by decide, rfl⟩ (by decide) rfl ?_
    refine x_top (fun z66 e_z66 => ?_)
    have g_z66 : (0 : Int) ≤ s0 256 34 ∧ s0 256 34 ≤ 160 := hG0 256 34
    refine x_A k175_20 (fun _ => rfl) ?_
    refine x_iadd k175_21 ?_
    refine x_top (fun z67 e_z67 => ?_)
    refine x_sipush k175_22 (by decide +kernel) ?_
    refine x_ic_le k175_25 (t := 32) rfl (by first | exact x_rbe e_z67 g_z67 rfl rfl | exact x_rb g_z67 rfl rfl | exact ⟨by omega, by omega⟩) ⟨by decide, by decide⟩ (fun c68 => ?_) (fun c68 => ?_)
    · skip
      refine x_A k175_32 (fun _ => rfl) ?_
      refine x_A k175_33 (fun _ => rfl) ?_
      refine x_isub k175_34 ?_
      refine x_top (fun z69 e_z69 => ?_)
      refine x_istore k175_35 (ls' := [(4, vi z69), (0, .ref 256), (1, vi a), (2, vj b)]) (by decide) rfl ?_
      refine x_ls (l := [(0, .ref 256), (1, vi a), (2, vj b), (4, vi z69)]) (show ([0, 1, 2, 4] : List Nat).Nodup from by decide +kernel) ⟨rfl, rfl, rfl, rfl, trivial⟩ ?_
      exact L_E_X11_feed_256_37 s0 a b_a b b_b  (((z69 - (-1)) + 1 : Int)).toNat s0 a b z69 z66 hG0 f0 (by first | exact x_rb b_a rfl rfl | exact ⟨by omega, by omega⟩) b_b (by first | exact x_rbe e_z69 g_z69 rfl rfl | exact x_rb g_z69 rfl rfl | exact ⟨by omega, by omega⟩) (by first | exact x_rbe e_z66 g_z66 rfl rfl | exact x_rb g_z66 rfl rfl | exact ⟨by omega, by omega⟩) (by omega) (by omega) (by omega) (by omega) (fun j => by rw [if_neg (by omega)]) rfl (e_z66.symm).symm  (by omega)
    · skip
      refine x_sipush k175_28 (by decide +kernel) ?_
      exact x_iret k175_31 rfl ⟨hG0, f0, (-1004), rfl, ⟨by decide, by decide⟩, (by unfold FdR; exact Or.inr (Or.inl ⟨by omega, by omega, rfl, rfl⟩))⟩
  · rw [e_z63]
    show xe none 175 9 [(0, .ref 256), (1, vi a), (2, vj b)] [vi 0] s0 0 0 _
    refine x_if_ne k175_9 (t := 16) rfl ⟨by decide, by decide⟩ (fun c70 => by exfalso; omega) (fun c70 => ?_)
    refine x_sipush k175_12 (by decide +kernel) ?_
    obtain ⟨z71, e_z71⟩ : ∃ z, z = s0 256 34 := ⟨_, rfl⟩
    have g_z71 : (0 : Int) ≤ s0 256 34 ∧ s0 256 34 ≤ 160 := hG0 256 34
    exact x_iret k175_15 rfl ⟨hG0, f0, (-1002), rfl, ⟨by decide, by decide⟩, (by unfold FdR; exact Or.inl ⟨by omega, rfl, rfl⟩)⟩
set_option maxHeartbeats 8000000 in
theorem E_X11_fault_256 (s0 : xS) (hG0 : GI s0)  : xe none 188 0 (lv_args 0 [.ref 256]) [] s0 0 0 (fun s' v => GI s' ∧ FL [] s0 s' ∧ ∃ z, v = some (vi z) ∧ ((-2147483648) ≤ z ∧ z ≤ 2147483647) ∧ (z = s0 256 35)) := by
  have f0 : FL [] s0 s0 := FL.rf
  show xe none 188 0 [(0, .ref 256)] [] s0 0 0 _
  refine x_A k188_0 (fun _ => rfl) ?_
  refine x_getI k188_1 (f := 35) rfl (q := 256) (n := 62) (kd := 15) ⟨by decide, rfl⟩ (by decide) rfl ?_
  refine x_top (fun z1 e_z1 => ?_)
  have g_z1 : (-2147483648) ≤ s0 256 35 ∧ s0 256 35 ≤ 2147483647 := hG0 256 35
  exact x_iret k188_4 rfl ⟨hG0, f0, z1, rfl, (by first | exact x_rbe e_z1 g_z1 rfl rfl | exact x_rb g_z1 rfl rfl | exact ⟨by omega, by omega⟩), by omega⟩
set_option maxHeartbeats 8000000 in
theorem E_X10_fault_0 (s0 : xS) (hG0 : GI s0)  : xe none 106 0 (lv_args 0 [.ref 0]) [] s0 0 0 (fun s' v => GI s' ∧ FL [] s0 s' ∧ ∃ z, v = some (vi z) ∧ ((-2147483648) ≤ z ∧ z ≤ 2147483647) ∧ (z = s0 0 11)) := by
  have f0 : FL [] s0 s0 := FL.rf
  show xe none 106 0 [(0, .ref 0)] [] s0 0 0 _
  refine x_A k106_0 (fun _ => rfl) ?_
  refine x_getI k106_1 (f := 11) rfl (q := 0) (n := 12) (kd := 3) ⟨by decide, rfl⟩ (by decide) rfl ?_
  refine x_top (fun z1 e_z1 => ?_)
  have g_z1 : (-2147483648) ≤ s0 0 11 ∧ s0 0 11 ≤ 2147483647 := hG0 0 11
  exact x_iret k106_4 rfl ⟨hG0, f0, z1, rfl, (by first | exact x_rbe e_z1 g_z1 rfl rfl | exact x_rb g_z1 rfl rfl | exact ⟨by omega, by omega⟩), by omega⟩
set_option maxHeartbeats 8000000 in
theorem L_E_X4_counting_179_50 (s0 : xS) (hJ0 : J s0) (a : Int) (b_a : (-2147483648) ≤ a ∧ a ≤ 2147483647) (pR : R1 s0) (n_12 : Nat) (ih_12 : ∀ (s : xS) (x1 : Int) (x2 : Int) (x3 : Int) (x4 : Int) (x1000 : Int) (hG : GI s) (f : FL [] s0 s) (b_x1 : (-2147483648) ≤ x1 ∧ x1 ≤ 2147483647) (b_x2 : (-2147483648) ≤ x2 ∧ x2 ≤ 2147483647) (b_x3 : (-2147483648) ≤ x3 ∧ x3 ≤ 2147483647) (b_x4 : (-1) ≤ x4 ∧ x4 ≤ 7) (b_x1000 : 0 ≤ x1000 ∧ x1000 ≤ 8) (r_4_1000 : x4 ≤ x1000 + 0) (w_0 : x4 < x1000) (w_1 : CtI s0 a x2 x3 x4) (w_2 : x1000 = s0 179 5 ∧ x1000 ≤ 8) (w_3 : x1 = a) (e_x1000 : x1000 = s 179 5) (hm : (x4 - (-1)) < (n_12 : Int)), xe none 41 12 [(0, .ref 179), (1, vi x1), (2, vi x2), (3, vi x3), (4, vi x4)] [] s 0 0 (fun s' v => GI s' ∧ FL [] s0 s' ∧ ∃ z, v = some (vi z) ∧ ((-2147483648) ≤ z ∧ z ≤ 2147483647) ∧ (CtZ s0 a z))) : ∀ (n : Nat) (s : xS) (x1 : Int) (x2 : Int) (x3 : Int) (x4 : Int) (x5 : Int) (x1000 : Int) (hG : GI s) (f : FL [] s0 s) (b_x1 : 0 ≤ x1 ∧ x1 ≤ 2147483647) (b_x2 : (-2147483648) ≤ x2 ∧ x2 ≤ 2147483647) (b_x3 : (-2147483648) ≤ x3 ∧ x3 ≤ 2147483647) (b_x4 : 0 ≤ x4 ∧ x4 ≤ 7) (b_x5 : 0 ≤ x5 ∧ x5 ≤ 8) (b_x1000 : 0 ≤ x1000 ∧ x1000 ≤ 8) (r_4_1000 : x4 ≤ x1000 + 0) (w_0 : x4 < x1000) (w_1 : CtJ s0 a x2 x3 x4 x5) (w_2 : x1000 = s0 179 5 ∧ x1000 ≤ 8) (w_3 : x1 = a) (w_4 : x5 ≤ s 181 x4.toNat) (e_x1000 : x1000 = s 179 5) (k_12 : (x4 - (-1)) < (n_12 : Int) + 1) (hm : (8 - x5) < (n : Int)), xe none 41 50 [(0, .ref 179), (1, vi x1), (2, vi x2), (3, vi x3), (4, vi x4), (5, vi x5)] [] s 0 0 (fun s' v => GI s' ∧ FL [] s0 s' ∧ ∃ z, v = some (vi z) ∧ ((-2147483648) ≤ z ∧ z ≤ 2147483647) ∧ (CtZ s0 a z)) := by
  intro n
  induction n with
  | zero => intro s x1 x2 x3 x4 x5 x1000 hG f b_x1 b_x2 b_x3 b_x4 b_x5 b_x1000 r_4_1000 w_0 w_1 w_2 w_3 w_4 e_x1000 k_12 hm; exfalso; omega
  | succ n ih =>
    intro s x1 x2 x3 x4 x5 x1000 hG f b_x1 b_x2 b_x3 b_x4 b_x5 b_x1000 r_4_1000 w_0 w_1 w_2 w_3 w_4 e_x1000 k_12 hm
    refine x_A k41_50 (fun _ => rfl) ?_
    refine x_A k41_52 (fun _ => rfl) ?_
    refine x_getR k41_53 (f := 1) rfl (q := 179) (n := 6) (kd := 8) ⟨by decide, rfl⟩ (q2 := 181) (by decide) rfl ?_
    refine x_A k41_56 (fun _ => rfl) ?_
    refine x_iald k41_58 (q := 181) (n := 8) ⟨by decide, rfl⟩ (by decide) (by first | exact x_rbl b_x4 rfl rfl | exact ⟨by omega, by omega⟩) ?_
    refine x_top (fun z171 e_z171 => ?_)
    have g_z171 : (0 : Int) ≤ s 181 x4.toNat ∧ s 181 x4.toNat ≤ 9 := hG 181 x4.toNat
    refine x_ic_ge k41_59 (t := 98) rfl (by first | exact x_rb b_x5 rfl rfl | exact ⟨by omega, by omega⟩) (by first | exact x_rbe e_z171 g_z171 rfl rfl | exact x_rb g_z171 rfl rfl | exact ⟨by omega, by omega⟩) (fun c172 => ?_) (fun c172 => ?_)
    · skip
      refine x_iinc k41_98 (ls' := [(4, vi (x4 + (-1))), (0, .ref 179), (1, vi x1), (2, vi x2), (3, vi x3), (5, vi x5)]) rfl (by decide) rfl ?_
      refine x_goto k41_101 (t := 12) rfl ?_
      refine x_ls (l := [(0, .ref 179), (1, vi x1), (2, vi x2), (3, vi x3), (4, vi (x4 + (-1)))]) (show ([0, 1, 2, 3, 4] : List Nat).Nodup from by decide +kernel) ⟨rfl, rfl, rfl, rfl, rfl, trivial⟩ ?_
      exact ih_12 s x1 x2 x3 (x4 + (-1)) x1000 hG f (by first | exact x_rb b_x1 rfl rfl | exact ⟨by omega, by omega⟩) (by first | exact x_rb b_x2 rfl rfl | exact ⟨by omega, by omega⟩) (by first | exact x_rb b_x3 rfl rfl | exact ⟨by omega, by omega⟩) ⟨by omega, by omega⟩ (by first | exact x_rb b_x1000 rfl rfl | exact ⟨by omega, by omega⟩) (by omega) (by omega) (by rw [show x4 + (-1) = x4 - 1 by omega]; exact CtJ.out w_1 ⟨by omega, by omega⟩ (by rw [← f.nil, e_z171.symm]; omega)) (by omega) (by omega) (e_x1000.symm).symm (by omega)
    · skip
      have cr173 := (hJ0.fl f (by decide +kernel)).cr x4 x5 ⟨by omega, by omega⟩ (by omega) (by omega) (by rw [e_z171.symm]; omega)
      refine x_A k41_62 (fun _ => rfl) ?_
      refine x_getR k41_63 (f := 2) rfl (q := 179) (n := 6) (kd := 8) ⟨by decide, rfl⟩ (q2 := 182) (by decide) rfl ?_
      refine x_A k41_66 (fun _ => rfl) ?_
      refine x_aald k41_68 (q := 182) (t := 23) (n := 8) ⟨by decide, rfl⟩ (by decide) (by decide) ⟨by omega, by omega⟩ ?_
      refine x_A k41_69 (fun _ => rfl) ?_
      refine x_iald k41_71 (q := (182 + 1 + x4.toNat)) (n := 8) (xg_183 (by omega) (by omega)) (by decide) (by first | exact x_rbl b_x5 rfl rfl | exact ⟨by omega, by omega⟩) ?_
      refine x_top (fun z174 e_z174 => ?_)
      have r_z174 := hG (182 + 1 + x4.toNat) x5.toNat
      rw [(gr_183 x5.toNat (show 183 ≤ (182 + 1 + x4.toNat) by omega) (by omega)).1, (gr_183 x5.toNat (show 183 ≤ (182 + 1 + x4.toNat) by omega) (by omega)).2.1, ← e_z174] at r_z174
      refine x_bipush k41_72 (by decide +kernel) ?_
      refine x_ic_ne k41_74 (t := 92) rfl (by first | exact x_rbe e_z174 g_z174 rfl rfl | exact x_rb g_z174 rfl rfl | exact ⟨by omega, by omega⟩) ⟨by decide, by decide⟩ (fun c175 => ?_) (fun c175 => ?_)
      · skip
        refine x_iinc k41_92 (ls' := [(5, vi (x5 + 1)), (0, .ref 179), (1, vi x1), (2, vi x2), (3, vi x3), (4, vi x4)]) rfl (by decide) rfl ?_
        refine x_goto k41_95 (t := 50) rfl ?_
        refine x_ls (l := [(0, .ref 179), (1, vi x1), (2, vi x2), (3, vi x3), (4, vi x4), (5, vi (x5 + 1))]) (show ([0, 1, 2, 3, 4, 5] : List Nat).Nodup from by decide +kernel) ⟨rfl, rfl, rfl, rfl, rfl, rfl, trivial⟩ ?_
        exact ih s x1 x2 x3 x4 (x5 + 1) x1000 hG f (by first | exact x_rb b_x1 rfl rfl | exact ⟨by omega, by omega⟩) (by first | exact x_rb b_x2 rfl rfl | exact ⟨by omega, by omega⟩) (by first | exact x_rb b_x3 rfl rfl | exact ⟨by omega, by omega⟩) (by first | exact x_rb b_x4 rfl rfl | exact ⟨by omega, by omega⟩) ⟨by omega, by omega⟩ (by first | exact x_rb b_x1000 rfl rfl | exact ⟨by omega, by omega⟩) (by omega) (by omega) (CtJ.no w_1 ⟨by omega, by omega⟩ ⟨by omega, by rw [← f.nil, e_z171.symm]; omega⟩ (by rw [← f.nil, e_z174.symm]; omega)) (by omega) (by omega) (by omega) (e_x1000.symm).symm (by omega) (by omega)
      · skip
        refine x_A k41_77 (fun _ => rfl) ?_
        refine x_A k41_78 (fun _ => rfl) ?_
        refine x_A k41_79 (fun _ => rfl) ?_
        refine x_getR k41_80 (f := 3) rfl (q := 179) (n := 6) (kd := 8) ⟨by decide, rfl⟩ (q2 := 191) (by decide) rfl ?_
        refine x_A k41_83 (fun _ => rfl) ?_
        refine x_aald k41_85 (q := 191) (t := 23) (n := 8) ⟨by decide, rfl⟩ (by decide) (by decide) ⟨by omega, by omega⟩ ?_
        refine x_A k41_86 (fun _ => rfl) ?_
        refine x_iald k41_88 (q := (191 + 1 + x4.toNat)) (n := 8) (xg_192 (by omega) (by omega)) (by decide) (by first | exact x_rbl b_x5 rfl rfl | exact ⟨by omega, by omega⟩) ?_
        refine x_top (fun z176 e_z176 => ?_)
        have r_z176 := hG (191 + 1 + x4.toNat) x5.toNat
        rw [(gr_192 x5.toNat (show 192 ≤ (191 + 1 + x4.toNat) by omega) (by omega)).1, (gr_192 x5.toNat (show 192 ≤ (191 + 1 + x4.toNat) by omega) (by omega)).2.1, ← e_z176] at r_z176
        have ok := pR.ok (r := x4) (n := x5) ⟨by omega, by omega⟩ ⟨by omega, by rw [← f.nil, e_z171.symm]; omega⟩
        rw [← f.nil, e_z174.symm, e_z176.symm] at ok
        unfold okS at ok
        refine x_ishl1 k41_89 ⟨by omega, by omega⟩ (fun z177 i_z177 u_z177 => ?_)
        have g_z177 := i_z177
        unfold in32 at g_z177
        refine x_ior_b k41_90 (fun z178 i_z178 u_z178 => ?_)
        have g_z178 := i_z178
        unfold in32 at g_z178
        refine x_istore_n k41_91 (ls' := [(3, vi z178), (0, .ref 179), (1, vi x1), (2, vi x2), (4, vi x4), (5, vi x5)]) (by decide) rfl ?_
        refine x_iinc k41_92 (ls' := [(5, vi (x5 + 1)), (3, vi z178), (0, .ref 179), (1, vi x1), (2, vi x2), (4, vi x4)]) rfl (by decide) rfl ?_
        refine x_goto k41_95 (t := 50) rfl ?_
        refine x_ls (l := [(0, .ref 179), (1, vi x1), (2, vi x2), (3, vi z178), (4, vi x4), (5, vi (x5 + 1))]) (show ([0, 1, 2, 3, 4, 5] : List Nat).Nodup from by decide +kernel) ⟨rfl, rfl, rfl, rfl, rfl, rfl, trivial⟩ ?_
        exact ih s x1 x2 z178 x4 (x5 + 1) x1000 hG f (by first | exact x_rb b_x1 rfl rfl | exact ⟨by omega, by omega⟩) (by first | exact x_rb b_x2 rfl rfl | exact ⟨by omega, by omega⟩) (by first | exact x_rbe e_z178 g_z178 rfl rfl | exact x_rb g_z178 rfl rfl | exact ⟨by omega, by omega⟩) (by first | exact x_rb b_x4 rfl rfl | exact ⟨by omega, by omega⟩) ⟨by omega, by omega⟩ (by first | exact x_rb b_x1000 rfl rfl | exact ⟨by omega, by omega⟩) (by omega) (by omega) (CtJ.yes w_1 ⟨by omega, by omega⟩ ⟨by omega, by rw [← f.nil, e_z171.symm]; omega⟩ (by rw [← f.nil, e_z174.symm]; omega) (by rw [← f.nil]; exact e_z176.symm) (by omega) u_z177 u_z178) (by omega) (by omega) (by omega) (e_x1000.symm).symm (by omega) (by omega)
set_option maxHeartbeats 8000000 in
theorem L_E_X4_counting_179_12 (s0 : xS) (hJ0 : J s0) (a : Int) (b_a : (-2147483648) ≤ a ∧ a ≤ 2147483647) (pR : R1 s0)  : ∀ (n : Nat) (s : xS) (x1 : Int) (x2 : Int) (x3 : Int) (x4 : Int) (x1000 : Int) (hG : GI s) (f : FL [] s0 s) (b_x1 : (-2147483648) ≤ x1 ∧ x1 ≤ 2147483647) (b_x2 : (-2147483648) ≤ x2 ∧ x2 ≤ 2147483647) (b_x3 : (-2147483648) ≤ x3 ∧ x3 ≤ 2147483647) (b_x4 : (-1) ≤ x4 ∧ x4 ≤ 7) (b_x1000 : 0 ≤ x1000 ∧ x1000 ≤ 8) (r_4_1000 : x4 ≤ x1000 + 0) (w_0 : x4 < x1000) (w_1 : CtI s0 a x2 x3 x4) (w_2 : x1000 = s0 179 5 ∧ x1000 ≤ 8) (w_3 : x1 = a) (e_x1000 : x1000 = s 179 5)  (hm : (x4 - (-1)) < (n : Int)), xe none 41 12 [(0, .ref 179), (1, vi x1), (2, vi x2), (3, vi x3), (4, vi x4)] [] s 0 0 (fun s' v => GI s' ∧ FL [] s0 s' ∧ ∃ z, v = some (vi z) ∧ ((-2147483648) ≤ z ∧ z ≤ 2147483647) ∧ (CtZ s0 a z)) := by
  intro n
  induction n with
  | zero => intro s x1 x2 x3 x4 x1000 hG f b_x1 b_x2 b_x3 b_x4 b_x1000 r_4_1000 w_0 w_1 w_2 w_3 e_x1000  hm; exfalso; omega
  | succ n ih =>
    intro s x1 x2 x3 x4 x1000 hG f b_x1 b_x2 b_x3 b_x4 b_x1000 r_4_1000 w_0 w_1 w_2 w_3 e_x1000  hm
    refine x_A k41_12 (fun _ => rfl) ?_
    refine x_if_lt k41_14 (t := 104) rfl (by first | exact x_rb b_x4 rfl rfl | exact ⟨by omega, by omega⟩) (fun c179 => ?_) (fun c179 => ?_)
    · skip
      refine x_A k41_104 (fun _ => rfl) ?_
      exact x_iret k41_105 rfl ⟨hG, f, x2, rfl, (by first | exact x_rb b_x2 rfl rfl | exact ⟨by omega, by omega⟩), (CtI.fin w_1 (by omega))⟩
    · skip
      refine x_A k41_17 (fun _ => rfl) ?_
      refine x_getR k41_18 (f := 0) rfl (q := 179) (n := 6) (kd := 8) ⟨by decide, rfl⟩ (q2 := 180) (by decide) rfl ?_
      refine x_A k41_21 (fun _ => rfl) ?_
      refine x_iald k41_23 (q := 180) (n := 8) ⟨by decide, rfl⟩ (by decide) (by first | exact x_rbl b_x4 rfl rfl | exact ⟨by omega, by omega⟩) ?_
      refine x_top (fun z180 e_z180 => ?_)
      have g_z180 : (0 : Int) ≤ s 180 x4.toNat ∧ s 180 x4.toNat ≤ 9 := hG 180 x4.toNat
      refine x_A k41_24 (fun _ => rfl) ?_
      refine x_ic_gt k41_25 (t := 98) rfl (by first | exact x_rbe e_z180 g_z180 rfl rfl | exact x_rb g_z180 rfl rfl | exact ⟨by omega, by omega⟩) (by first | exact x_rb b_x1 rfl rfl | exact ⟨by omega, by omega⟩) (fun c181 => ?_) (fun c181 => ?_)
      · skip
        refine x_iinc k41_98 (ls' := [(4, vi (x4 + (-1))), (0, .ref 179), (1, vi x1), (2, vi x2), (3, vi x3)]) rfl (by decide) rfl ?_
        refine x_goto k41_101 (t := 12) rfl ?_
        refine x_ls (l := [(0, .ref 179), (1, vi x1), (2, vi x2), (3, vi x3), (4, vi (x4 + (-1)))]) (show ([0, 1, 2, 3, 4] : List Nat).Nodup from by decide +kernel) ⟨rfl, rfl, rfl, rfl, rfl, trivial⟩ ?_
        exact ih s x1 x2 x3 (x4 + (-1)) x1000 hG f (by first | exact x_rb b_x1 rfl rfl | exact ⟨by omega, by omega⟩) (by first | exact x_rb b_x2 rfl rfl | exact ⟨by omega, by omega⟩) (by first | exact x_rb b_x3 rfl rfl | exact ⟨by omega, by omega⟩) ⟨by omega, by omega⟩ (by first | exact x_rb b_x1000 rfl rfl | exact ⟨by omega, by omega⟩) (by omega) (by omega) (by rw [show x4 + (-1) = x4 - 1 by omega]; exact CtI.skipE w_1 ⟨by omega, by omega⟩ (by rw [← f.nil, e_z180.symm]; omega)) (by omega) (by omega) (e_x1000.symm).symm  (by omega)
      · skip
        refine x_A k41_28 (fun _ => rfl) ?_
        refine x_A k41_29 (fun _ => rfl) ?_
        refine x_iushr_b k41_31 ⟨by omega, by omega⟩ (fun z182 i_z182 u_z182 => ?_)
        have g_z182 := i_z182
        unfold in32 at g_z182
        refine x_A k41_32 (fun _ => rfl) ?_
        refine x_iand_b k41_33 (fun z183 i_z183 u_z183 => ?_)
        have g_z183 := i_z183
        unfold in32 at g_z183
        have bx := bi_at u_z182 i_z183 u_z183
        refine x_if_eq k41_34 (t := 40) rfl (by first | exact x_rbe e_z183 g_z183 rfl rfl | exact x_rb g_z183 rfl rfl | exact ⟨by omega, by omega⟩) (fun c184 => ?_) (fun c184 => ?_)
        · skip
          refine x_A k41_40 (fun _ => rfl) ?_
          refine x_A k41_41 (fun _ => rfl) ?_
          refine x_A k41_42 (fun _ => rfl) ?_
          refine x_ishl1 k41_44 ⟨by omega, by omega⟩ (fun z185 i_z185 u_z185 => ?_)
          have g_z185 := i_z185
          unfold in32 at g_z185
          refine x_ior_b k41_45 (fun z186 i_z186 u_z186 => ?_)
          have g_z186 := i_z186
          unfold in32 at g_z186
          refine x_istore_n k41_46 (ls' := [(2, vi z186), (0, .ref 179), (1, vi x1), (3, vi x3), (4, vi x4)]) (by decide) rfl ?_
          refine x_A k41_47 (fun _ => rfl) ?_
          refine x_istore k41_48 (ls' := [(5, vi 0), (2, vi z186), (0, .ref 179), (1, vi x1), (3, vi x3), (4, vi x4)]) (by decide) rfl ?_
          refine x_ls (l := [(0, .ref 179), (1, vi x1), (2, vi z186), (3, vi x3), (4, vi x4), (5, vi 0)]) (show ([0, 1, 2, 3, 4, 5] : List Nat).Nodup from by decide +kernel) ⟨rfl, rfl, rfl, rfl, rfl, rfl, trivial⟩ ?_
          exact L_E_X4_counting_179_50 s0 hJ0 a b_a pR n (fun s x1 x2 x3 x4 x1000 hG f b_x1 b_x2 b_x3 b_x4 b_x1000 r_4_1000 w_0 w_1 w_2 w_3 e_x1000 hm => ih s x1 x2 x3 x4 x1000 hG f b_x1 b_x2 b_x3 b_x4 b_x1000 r_4_1000 w_0 w_1 w_2 w_3 e_x1000  hm) (((8 - 0) + 1 : Int)).toNat s x1 z186 x3 x4 0 x1000 hG f (by first | exact x_rb b_x1 rfl rfl | exact ⟨by omega, by omega⟩) (by first | exact x_rbe e_z186 g_z186 rfl rfl | exact x_rb g_z186 rfl rfl | exact ⟨by omega, by omega⟩) (by first | exact x_rb b_x3 rfl rfl | exact ⟨by omega, by omega⟩) (by first | exact x_rb b_x4 rfl rfl | exact ⟨by omega, by omega⟩) ⟨by decide, by decide⟩ (by first | exact x_rb b_x1000 rfl rfl | exact ⟨by omega, by omega⟩) (by omega) (by omega) (CtI.go w_1 ⟨by omega, by omega⟩ (by omega) (by rw [← f.nil, e_z180.symm]; omega) (bx.resolve_right (fun q => by omega)).2 u_z185 u_z186) (by omega) (by omega) (show (0 : Int) ≤ s 181 x4.toNat ∧ s 181 x4.toNat ≤ 9 from hG 181 x4.toNat).1 (e_x1000.symm).symm (by omega) (by omega)
        · skip
          refine x_goto k41_37 (t := 98) rfl ?_
          refine x_iinc k41_98 (ls' := [(4, vi (x4 + (-1))), (0, .ref 179), (1, vi x1), (2, vi x2), (3, vi x3)]) rfl (by decide) rfl ?_
          refine x_goto k41_101 (t := 12) rfl ?_
          refine x_ls (l := [(0, .ref 179), (1, vi x1), (2, vi x2), (3, vi x3), (4, vi (x4 + (-1)))]) (show ([0, 1, 2, 3, 4] : List Nat).Nodup from by decide +kernel) ⟨rfl, rfl, rfl, rfl, rfl, trivial⟩ ?_
          exact ih s x1 x2 x3 (x4 + (-1)) x1000 hG f (by first | exact x_rb b_x1 rfl rfl | exact ⟨by omega, by omega⟩) (by first | exact x_rb b_x2 rfl rfl | exact ⟨by omega, by omega⟩) (by first | exact x_rb b_x3 rfl rfl | exact ⟨by omega, by omega⟩) ⟨by omega, by omega⟩ (by first | exact x_rb b_x1000 rfl rfl | exact ⟨by omega, by omega⟩) (by omega) (by omega) (by rw [show x4 + (-1) = x4 - 1 by omega]; exact CtI.skipS w_1 ⟨by omega, by omega⟩ (by omega) (bx.resolve_left (fun q => by omega)).2) (by omega) (by omega) (e_x1000.symm).symm  (by omega)
set_option maxHeartbeats 8000000 in
theorem E_X4_counting_179 (s0 : xS) (hG0 : GI s0) (hJ0 : J s0) (a : Int) (b_a : (-2147483648) ≤ a ∧ a ≤ 2147483647) (pR : R1 s0) : xe none 41 0 (lv_args 0 [.ref 179, vi a]) [] s0 0 0 (fun s' v => GI s' ∧ FL [] s0 s' ∧ ∃ z, v = some (vi z) ∧ ((-2147483648) ≤ z ∧ z ≤ 2147483647) ∧ (CtZ s0 a z)) := by
  have f0 : FL [] s0 s0 := FL.rf
  show xe none 41 0 [(0, .ref 179), (1, vi a)] [] s0 0 0 _
  have r8 := pR.1
  refine x_A k41_0 (fun _ => rfl) ?_
  refine x_istore_n k41_1 (ls' := [(2, vi 0), (0, .ref 179), (1, vi a)]) (by decide) rfl ?_
  refine x_A k41_2 (fun _ => rfl) ?_
  refine x_istore_n k41_3 (ls' := [(3, vi 0), (2, vi 0), (0, .ref 179), (1, vi a)]) (by decide) rfl ?_
  refine x_A k41_4 (fun _ => rfl) ?_
  refine x_getI k41_5 (f := 5) rfl (q := 179) (n := 6) (kd := 8) ⟨by decide, rfl⟩ (by decide) rfl ?_
  refine x_top (fun z187 e_z187 => ?_)
  have g_z187 : (0 : Int) ≤ s0 179 5 ∧ s0 179 5 ≤ 8 := hG0 179 5
  refine x_A k41_8 (fun _ => rfl) ?_
  refine x_isub k41_9 ?_
  refine x_top (fun z188 e_z188 => ?_)
  refine x_istore k41_10 (ls' := [(4, vi z188), (3, vi 0), (2, vi 0), (0, .ref 179), (1, vi a)]) (by decide) rfl ?_
  refine x_ls (l := [(0, .ref 179), (1, vi a), (2, vi 0), (3, vi 0), (4, vi z188)]) (show ([0, 1, 2, 3, 4] : List Nat).Nodup from by decide +kernel) ⟨rfl, rfl, rfl, rfl, rfl, trivial⟩ ?_
  exact L_E_X4_counting_179_12 s0 hJ0 a b_a pR  (((z188 - (-1)) + 1 : Int)).toNat s0 a 0 0 z188 z187 hG0 f0 (by first | exact x_rb b_a rfl rfl | exact ⟨by omega, by omega⟩) ⟨by decide, by decide⟩ ⟨by decide, by decide⟩ (by first | exact x_rbe e_z188 g_z188 rfl rfl | exact x_rb g_z188 rfl rfl | exact ⟨by omega, by omega⟩) (by first | exact x_rbe e_z187 g_z187 rfl rfl | exact x_rb g_z187 rfl rfl | exact ⟨by omega, by omega⟩) (by omega) (by omega) (CtI_0 (by omega) (by omega)) (by omega) (by omega) (e_z187.symm).symm  (by omega)
set_option maxHeartbeats 8000000 in
theorem L_E209_J7_fill_53178_210_c0_5 (s0 : xS)   : ∀ (n : Nat) (s : xS) (x1 : Int) (x2 : Int) (x3 : Int) (hG : GI s) (f : FL [1984] s0 s) (b_x1 : 0 ≤ x1 ∧ x1 ≤ 0) (b_x2 : 0 ≤ x2 ∧ x2 ≤ 6) (b_x3 : 6 ≤ x3 ∧ x3 ≤ 6) (r_3_2 : x3 ≤ x2 + 6) (r_3_1 : x3 ≤ x1 + 6) (r_1_3 : x1 ≤ x3 + (-6)) (r_1_2 : x1 ≤ x2 + 0) (w_0 : x3 = 6) (w_1 : x1 = 0) (w_2 : ∀ j : Nat, (j : Int) < x2 → s 210 j = 0)  (hm : (6 - x2) < (n : Int)), xe none 229 5 [(0, .ref 210), (1, vi x1), (2, vi x2), (3, vi x3)] [] s 0 0 (fun s' v => GI s' ∧ FL [1984] s0 s' ∧ v = none ∧ (∀ j : Nat, (j : Int) < 6 → s' 210 j = 0)) := by
  intro n
  induction n with
  | zero => intro s x1 x2 x3 hG f b_x1 b_x2 b_x3 r_3_2 r_3_1 r_1_3 r_1_2 w_0 w_1 w_2  hm; exfalso; omega
  | succ n ih =>
    intro s x1 x2 x3 hG f b_x1 b_x2 b_x3 r_3_2 r_3_1 r_1_3 r_1_2 w_0 w_1 w_2  hm
    refine x_A k229_5 (fun _ => rfl) ?_
    refine x_A k229_6 (fun _ => rfl) ?_
    refine x_ic_ge k229_7 (t := 20) rfl (by first | exact x_rb b_x2 rfl rfl | exact ⟨by omega, by omega⟩) (by first | exact x_rb b_x3 rfl rfl | exact ⟨by omega, by omega⟩) (fun c28 => ?_) (fun c28 => ?_)
    · skip
      exact x_vret k229_20 rfl ⟨hG, f, rfl, (fun j hj => w_2 j (by omega))⟩
    · skip
      refine x_A k229_10 (fun _ => rfl) ?_
      refine x_A k229_11 (fun _ => rfl) ?_
      refine x_A k229_12 (fun _ => rfl) ?_
      refine x_iast k229_13 (q := 210) (n := 6) ⟨by decide, rfl⟩ (by decide) (by first | exact x_rbl b_x2 rfl rfl | exact ⟨by omega, by omega⟩) ?_
      refine x_nh (fun s29 e_s29 => ?_)
      have hG_s29 : GI s29 := by rw [e_s29]; exact hG.up (show (-2147483648) ≤ x1 ∧ x1 ≤ 2147483647 from (by first | exact x_rb b_x1 rfl rfl | exact ⟨by omega, by omega⟩))
      have f_s29 : FL [1984] s0 s29 := by rw [e_s29]; exact f.up (show 1984 ∈ [1984] from by decide +kernel)
      have q30 : s29 210 x2.toNat = x1 := by rw [e_s29]; exact x_up_same
      refine x_iinc k229_14 (ls' := [(2, vi (x2 + 1)), (0, .ref 210), (1, vi x1), (3, vi x3)]) rfl (by decide) rfl ?_
      refine x_goto k229_17 (t := 5) rfl ?_
      refine x_ls (l := [(0, .ref 210), (1, vi x1), (2, vi (x2 + 1)), (3, vi x3)]) (show ([0, 1, 2, 3] : List Nat).Nodup from by decide +kernel) ⟨rfl, rfl, rfl, rfl, trivial⟩ ?_
      exact ih s29 x1 (x2 + 1) x3 hG_s29 f_s29 (by first | exact x_rb b_x1 rfl rfl | exact ⟨by omega, by omega⟩) ⟨by omega, by omega⟩ (by first | exact x_rb b_x3 rfl rfl | exact ⟨by omega, by omega⟩) (by omega) (by omega) (by omega) (by omega) (by omega) (by omega) (by rw [e_s29, show x1 = 0 by omega]; exact fl_z w_2 (by omega))  (by omega)
set_option maxHeartbeats 8000000 in
theorem E209_J7_fill_53178_210_c0 (s0 : xS) (hG0 : GI s0) (a : Int) (b_a : 0 ≤ a ∧ a ≤ 0) : xe none 229 0 (lv_args 0 [.ref 210, vi a]) [] s0 0 0 (fun s' v => GI s' ∧ FL [1984] s0 s' ∧ v = none ∧ (∀ j : Nat, (j : Int) < 6 → s' 210 j = 0)) := by
  have f0 : FL [1984] s0 s0 := FL.rf
  show xe none 229 0 [(0, .ref 210), (1, vi a)] [] s0 0 0 _
  refine x_A k229_0 (fun _ => rfl) ?_
  refine x_istore_n k229_1 (ls' := [(2, vi 0), (0, .ref 210), (1, vi a)]) (by decide) rfl ?_
  refine x_A k229_2 (fun _ => rfl) ?_
  refine x_alen k229_3 (q := 210) (t := 20) (n := 6) (kd := 0) ⟨by decide, rfl⟩ (by decide) ?_
  refine x_top (fun z31 e_z31 => ?_)
  refine x_istore_n k229_4 (ls' := [(3, vi z31), (2, vi 0), (0, .ref 210), (1, vi a)]) (by decide) rfl ?_
  refine x_ls (l := [(0, .ref 210), (1, vi a), (2, vi 0), (3, vi z31)]) (show ([0, 1, 2, 3] : List Nat).Nodup from by decide +kernel) ⟨rfl, rfl, rfl, rfl, trivial⟩ ?_
  exact L_E209_J7_fill_53178_210_c0_5 s0   (((6 - 0) + 1 : Int)).toNat s0 a 0 z31 hG0 f0 (by first | exact x_rb b_a rfl rfl | exact ⟨by omega, by omega⟩) ⟨by decide, by decide⟩ (by first | exact x_rbe e_z31 g_z31 rfl rfl | exact x_rb g_z31 rfl rfl | exact ⟨by omega, by omega⟩) (by omega) (by omega) (by omega) (by omega) (by omega) (by omega) (fun j hj => by omega)  (by omega)
set_option maxHeartbeats 8000000 in
theorem L_E209_J7_fill_d0a16_211_6 (s0 : xS) (a : Int) (b_a : in64 a)  : ∀ (n : Nat) (s : xS) (x1 : Int) (x3 : Int) (x4 : Int) (hG : GI s) (f : FL [2048] s0 s) (b_x1 : in64 x1) (b_x3 : 0 ≤ x3 ∧ x3 ≤ 6) (b_x4 : 6 ≤ x4 ∧ x4 ≤ 6) (r_4_3 : x4 ≤ x3 + 6) (w_0 : x4 = 6) (w_1 : x1 = a) (w_2 : ∀ j : Nat, (j : Int) < x3 → s 211 j = a)  (hm : (6 - x3) < (n : Int)), xe none 228 6 [(0, .ref 211), (1, vj x1), (3, vi x3), (4, vi x4)] [] s 0 0 (fun s' v => GI s' ∧ FL [2048] s0 s' ∧ v = none ∧ (∀ j : Nat, (j : Int) < 6 → s' 211 j = a)) := by
  intro n
  induction n with
  | zero => intro s x1 x3 x4 hG f b_x1 b_x3 b_x4 r_4_3 w_0 w_1 w_2  hm; exfalso; omega
  | succ n ih =>
    intro s x1 x3 x4 hG f b_x1 b_x3 b_x4 r_4_3 w_0 w_1 w_2  hm
    refine x_A k228_6 (fun _ => rfl) ?_
    refine x_A k228_7 (fun _ => rfl) ?_
    refine x_ic_ge k228_9 (t := 22) rfl (by first | exact x_rb b_x3 rfl rfl | exact ⟨by omega, by omega⟩) (by first | exact x_rb b_x4 rfl rfl | exact ⟨by omega, by omega⟩) (fun c21 => ?_) (fun c21 => ?_)
    · skip
      exact x_vret k228_22 rfl ⟨hG, f, rfl, (fun j hj => w_2 j (by omega))⟩
    · skip
      refine x_A k228_12 (fun _ => rfl) ?_
      refine x_A k228_13 (fun _ => rfl) ?_
      refine x_A k228_14 (fun _ => rfl) ?_
      refine x_last k228_15 (q := 211) (n := 6) ⟨by decide, rfl⟩ (by decide) (by first | exact x_rbl b_x3 rfl rfl | exact ⟨by omega, by omega⟩) ?_
      refine x_nh (fun s22 e_s22 => ?_)
      have hG_s22 : GI s22 := by rw [e_s22]; exact hG.up (show in64 x1 from b_x1)
      have f_s22 : FL [2048] s0 s22 := by rw [e_s22]; exact f.up (show 2048 ∈ [2048] from by decide +kernel)
      refine x_iinc k228_16 (ls' := [(3, vi (x3 + 1)), (0, .ref 211), (1, vj x1), (4, vi x4)]) rfl (by decide) rfl ?_
      refine x_goto k228_19 (t := 6) rfl ?_
      refine x_ls (l := [(0, .ref 211), (1, vj x1), (3, vi (x3 + 1)), (4, vi x4)]) (show ([0, 1, 3, 4] : List Nat).Nodup from by decide +kernel) ⟨rfl, rfl, rfl, rfl, trivial⟩ ?_
      exact ih s22 x1 (x3 + 1) x4 hG_s22 f_s22 b_x1 ⟨by omega, by omega⟩ (by first | exact x_rb b_x4 rfl rfl | exact ⟨by omega, by omega⟩) (by omega) (by omega) w_1 (by rw [e_s22, w_1]; exact fl_z w_2 (by omega))  (by omega)
set_option maxHeartbeats 8000000 in
theorem E209_J7_fill_d0a16_211 (s0 : xS) (hG0 : GI s0) (a : Int) (b_a : in64 a) : xe none 228 0 (lv_args 0 [.ref 211, vj a]) [] s0 0 0 (fun s' v => GI s' ∧ FL [2048] s0 s' ∧ v = none ∧ (∀ j : Nat, (j : Int) < 6 → s' 211 j = a)) := by
  have f0 : FL [2048] s0 s0 := FL.rf
  show xe none 228 0 [(0, .ref 211), (1, vj a)] [] s0 0 0 _
  refine x_A k228_0 (fun _ => rfl) ?_
  refine x_istore_n k228_1 (ls' := [(3, vi 0), (0, .ref 211), (1, vj a)]) (by decide) rfl ?_
  refine x_A k228_2 (fun _ => rfl) ?_
  refine x_alen k228_3 (q := 211) (t := 21) (n := 6) (kd := 1) ⟨by decide, rfl⟩ (by decide) ?_
  refine x_top (fun z23 e_z23 => ?_)
  refine x_istore k228_4 (ls' := [(4, vi z23), (3, vi 0), (0, .ref 211), (1, vj a)]) (by decide) rfl ?_
  refine x_ls (l := [(0, .ref 211), (1, vj a), (3, vi 0), (4, vi z23)]) (show ([0, 1, 3, 4] : List Nat).Nodup from by decide +kernel) ⟨rfl, rfl, rfl, rfl, trivial⟩ ?_
  exact L_E209_J7_fill_d0a16_211_6 s0 a b_a  (((6 - 0) + 1 : Int)).toNat s0 a 0 z23 hG0 f0 b_a ⟨by decide, by decide⟩ (by first | exact x_rbe e_z23 g_z23 rfl rfl | exact x_rb g_z23 rfl rfl | exact ⟨by omega, by omega⟩) (by omega) (by omega) rfl (fun j hj => by omega)  (by omega)
set_option maxHeartbeats 8000000 in
theorem L_E209_J7_fill_53178_212_c0_5 (s0 : xS)   : ∀ (n : Nat) (s : xS) (x1 : Int) (x2 : Int) (x3 : Int) (hG : GI s) (f : FL [2112] s0 s) (b_x1 : 0 ≤ x1 ∧ x1 ≤ 0) (b_x2 : 0 ≤ x2 ∧ x2 ≤ 6) (b_x3 : 6 ≤ x3 ∧ x3 ≤ 6) (r_3_2 : x3 ≤ x2 + 6) (r_3_1 : x3 ≤ x1 + 6) (r_1_3 : x1 ≤ x3 + (-6)) (r_1_2 : x1 ≤ x2 + 0) (w_0 : x3 = 6) (w_1 : x1 = 0) (w_2 : ∀ j : Nat, (j : Int) < x2 → s 212 j = 0)  (hm : (6 - x2) < (n : Int)), xe none 229 5 [(0, .ref 212), (1, vi x1), (2, vi x2), (3, vi x3)] [] s 0 0 (fun s' v => GI s' ∧ FL [2112] s0 s' ∧ v = none ∧ (∀ j : Nat, (j : Int) < 6 → s' 212 j = 0)) := by
  intro n
  induction n with
  | zero => intro s x1 x2 x3 hG f b_x1 b_x2 b_x3 r_3_2 r_3_1 r_1_3 r_1_2 w_0 w_1 w_2  hm; exfalso; omega
  | succ n ih =>
    intro s x1 x2 x3 hG f b_x1 b_x2 b_x3 r_3_2 r_3_1 r_1_3 r_1_2 w_0 w_1 w_2  hm
    refine x_A k229_5 (fun _ => rfl) ?_
    refine x_A k229_6 (fun _ => rfl) ?_
    refine x_ic_ge k229_7 (t := 20) rfl (by first | exact x_rb b_x2 rfl rfl | exact ⟨by omega, by omega⟩) (by first | exact x_rb b_x3 rfl rfl | exact ⟨by omega, by omega⟩) (fun c28 => ?_) (fun c28 => ?_)
    · skip
      exact x_vret k229_20 rfl ⟨hG, f, rfl, (fun j hj => w_2 j (by omega))⟩
    · skip
      refine x_A k229_10 (fun _ => rfl) ?_
      refine x_A k229_11 (fun _ => rfl) ?_
      refine x_A k229_12 (fun _ => rfl) ?_
      refine x_iast k229_13 (q := 212) (n := 6) ⟨by decide, rfl⟩ (by decide) (by first | exact x_rbl b_x2 rfl rfl | exact ⟨by omega, by omega⟩) ?_
      refine x_nh (fun s29 e_s29 => ?_)
      have hG_s29 : GI s29 := by rw [e_s29]; exact hG.up (show (-2147483648) ≤ x1 ∧ x1 ≤ 2147483647 from (by first | exact x_rb b_x1 rfl rfl | exact ⟨by omega, by omega⟩))
      have f_s29 : FL [2112] s0 s29 := by rw [e_s29]; exact f.up (show 2112 ∈ [2112] from by decide +kernel)
      have q30 : s29 212 x2.toNat = x1 := by rw [e_s29]; exact x_up_same
      refine x_iinc k229_14 (ls' := [(2, vi (x2 + 1)), (0, .ref 212), (1, vi x1), (3, vi x3)]) rfl (by decide) rfl ?_
      refine x_goto k229_17 (t := 5) rfl ?_
      refine x_ls (l := [(0, .ref 212), (1, vi x1), (2, vi (x2 + 1)), (3, vi x3)]) (show ([0, 1, 2, 3] : List Nat).Nodup from by decide +kernel) ⟨rfl, rfl, rfl, rfl, trivial⟩ ?_
      exact ih s29 x1 (x2 + 1) x3 hG_s29 f_s29 (by first | exact x_rb b_x1 rfl rfl | exact ⟨by omega, by omega⟩) ⟨by omega, by omega⟩ (by first | exact x_rb b_x3 rfl rfl | exact ⟨by omega, by omega⟩) (by omega) (by omega) (by omega) (by omega) (by omega) (by omega) (by rw [e_s29, show x1 = 0 by omega]; exact fl_z w_2 (by omega))  (by omega)
set_option maxHeartbeats 8000000 in
theorem E209_J7_fill_53178_212_c0 (s0 : xS) (hG0 : GI s0) (a : Int) (b_a : 0 ≤ a ∧ a ≤ 0) : xe none 229 0 (lv_args 0 [.ref 212, vi a]) [] s0 0 0 (fun s' v => GI s' ∧ FL [2112] s0 s' ∧ v = none ∧ (∀ j : Nat, (j : Int) < 6 → s' 212 j = 0)) := by
  have f0 : FL [2112] s0 s0 := FL.rf
  show xe none 229 0 [(0, .ref 212), (1, vi a)] [] s0 0 0 _
  refine x_A k229_0 (fun _ => rfl) ?_
  refine x_istore_n k229_1 (ls' := [(2, vi 0), (0, .ref 212), (1, vi a)]) (by decide) rfl ?_
  refine x_A k229_2 (fun _ => rfl) ?_
  refine x_alen k229_3 (q := 212) (t := 20) (n := 6) (kd := 0) ⟨by decide, rfl⟩ (by decide) ?_
  refine x_top (fun z31 e_z31 => ?_)
  refine x_istore_n k229_4 (ls' := [(3, vi z31), (2, vi 0), (0, .ref 212), (1, vi a)]) (by decide) rfl ?_
  refine x_ls (l := [(0, .ref 212), (1, vi a), (2, vi 0), (3, vi z31)]) (show ([0, 1, 2, 3] : List Nat).Nodup from by decide +kernel) ⟨rfl, rfl, rfl, rfl, trivial⟩ ?_
  exact L_E209_J7_fill_53178_212_c0_5 s0   (((6 - 0) + 1 : Int)).toNat s0 a 0 z31 hG0 f0 (by first | exact x_rb b_a rfl rfl | exact ⟨by omega, by omega⟩) ⟨by decide, by decide⟩ (by first | exact x_rbe e_z31 g_z31 rfl rfl | exact x_rb g_z31 rfl rfl | exact ⟨by omega, by omega⟩) (by omega) (by omega) (by omega) (by omega) (by omega) (by omega) (fun j hj => by omega)  (by omega)
set_option maxHeartbeats 8000000 in
theorem L_E209_J7_fill_d0a16_213_6 (s0 : xS) (a : Int) (b_a : in64 a)  : ∀ (n : Nat) (s : xS) (x1 : Int) (x3 : Int) (x4 : Int) (hG : GI s) (f : FL [2176] s0 s) (b_x1 : in64 x1) (b_x3 : 0 ≤ x3 ∧ x3 ≤ 40) (b_x4 : 40 ≤ x4 ∧ x4 ≤ 40) (r_4_3 : x4 ≤ x3 + 40) (w_0 : x4 = 40) (w_1 : x1 = a) (w_2 : ∀ j : Nat, (j : Int) < x3 → s 213 j = a)  (hm : (40 - x3) < (n : Int)), xe none 228 6 [(0, .ref 213), (1, vj x1), (3, vi x3), (4, vi x4)] [] s 0 0 (fun s' v => GI s' ∧ FL [2176] s0 s' ∧ v = none ∧ (∀ j : Nat, (j : Int) < 40 → s' 213 j = a)) := by
  intro n
  induction n with
  | zero => intro s x1 x3 x4 hG f b_x1 b_x3 b_x4 r_4_3 w_0 w_1 w_2  hm; exfalso; omega
  | succ n ih =>
    intro s x1 x3 x4 hG f b_x1 b_x3 b_x4 r_4_3 w_0 w_1 w_2  hm
    refine x_A k228_6 (fun _ => rfl) ?_
    refine x_A k228_7 (fun _ => rfl) ?_
    refine x_ic_ge k228_9 (t := 22) rfl (by first | exact x_rb b_x3 rfl rfl | exact ⟨by omega, by omega⟩) (by first | exact x_rb b_x4 rfl rfl | exact ⟨by omega, by omega⟩) (fun c42 => ?_) (fun c42 => ?_)
    · skip
      exact x_vret k228_22 rfl ⟨hG, f, rfl, (fun j hj => w_2 j (by omega))⟩
    · skip
      refine x_A k228_12 (fun _ => rfl) ?_
      refine x_A k228_13 (fun _ => rfl) ?_
      refine x_A k228_14 (fun _ => rfl) ?_
      refine x_last k228_15 (q := 213) (n := 40) ⟨by decide, rfl⟩ (by decide) (by first | exact x_rbl b_x3 rfl rfl | exact ⟨by omega, by omega⟩) ?_
      refine x_nh (fun s43 e_s43 => ?_)
      have hG_s43 : GI s43 := by rw [e_s43]; exact hG.up (show in64 x1 from b_x1)
      have f_s43 : FL [2176] s0 s43 := by rw [e_s43]; exact f.up (show 2176 ∈ [2176] from by decide +kernel)
      refine x_iinc k228_16 (ls' := [(3, vi (x3 + 1)), (0, .ref 213), (1, vj x1), (4, vi x4)]) rfl (by decide) rfl ?_
      refine x_goto k228_19 (t := 6) rfl ?_
      refine x_ls (l := [(0, .ref 213), (1, vj x1), (3, vi (x3 + 1)), (4, vi x4)]) (show ([0, 1, 3, 4] : List Nat).Nodup from by decide +kernel) ⟨rfl, rfl, rfl, rfl, trivial⟩ ?_
      exact ih s43 x1 (x3 + 1) x4 hG_s43 f_s43 b_x1 ⟨by omega, by omega⟩ (by first | exact x_rb b_x4 rfl rfl | exact ⟨by omega, by omega⟩) (by omega) (by omega) w_1 (by rw [e_s43, w_1]; exact fl_z w_2 (by omega))  (by omega)
set_option maxHeartbeats 8000000 in
theorem E209_J7_fill_d0a16_213 (s0 : xS) (hG0 : GI s0) (a : Int) (b_a : in64 a) : xe none 228 0 (lv_args 0 [.ref 213, vj a]) [] s0 0 0 (fun s' v => GI s' ∧ FL [2176] s0 s' ∧ v = none ∧ (∀ j : Nat, (j : Int) < 40 → s' 213 j = a)) := by
  have f0 : FL [2176] s0 s0 := FL.rf
  show xe none 228 0 [(0, .ref 213), (1, vj a)] [] s0 0 0 _
  refine x_A k228_0 (fun _ => rfl) ?_
  refine x_istore_n k228_1 (ls' := [(3, vi 0), (0, .ref 213), (1, vj a)]) (by decide) rfl ?_
  refine x_A k228_2 (fun _ => rfl) ?_
  refine x_alen k228_3 (q := 213) (t := 21) (n := 40) (kd := 1) ⟨by decide, rfl⟩ (by decide) ?_
  refine x_top (fun z44 e_z44 => ?_)
  refine x_istore k228_4 (ls' := [(4, vi z44), (3, vi 0), (0, .ref 213), (1, vj a)]) (by decide) rfl ?_
  refine x_ls (l := [(0, .ref 213), (1, vj a), (3, vi 0), (4, vi z44)]) (show ([0, 1, 3, 4] : List Nat).Nodup from by decide +kernel) ⟨rfl, rfl, rfl, rfl, trivial⟩ ?_
  exact L_E209_J7_fill_d0a16_213_6 s0 a b_a  (((40 - 0) + 1 : Int)).toNat s0 a 0 z44 hG0 f0 b_a ⟨by decide, by decide⟩ (by first | exact x_rbe e_z44 g_z44 rfl rfl | exact x_rb g_z44 rfl rfl | exact ⟨by omega, by omega⟩) (by omega) (by omega) rfl (fun j hj => by omega)  (by omega)
set_option maxHeartbeats 8000000 in
theorem E_X1_clear_209 (s0 : xS) (hG0 : GI s0)  : xe none 15 0 (lv_args 0 [.ref 209]) [] s0 0 0 (fun s' v => GI s' ∧ FL [1921, 1926, 1927, 1928, 1984, 2048, 2112, 2176] s0 s' ∧ v = none ∧ ((∀ k : Int, 0 ≤ k → k ≤ 5 → s' 210 k.toNat = 0) ∧ s' 209 0 = 20 ∧ s' 209 5 = 0 ∧ s' 209 6 = 0 ∧ s' 209 7 = 0 ∧ (∀ k : Int, 0 ≤ k → k ≤ 5 → s' 211 k.toNat = 0) ∧ (∀ k : Int, 0 ≤ k → k ≤ 5 → s' 212 k.toNat = 0) ∧ (∀ k : Int, 0 ≤ k → k ≤ 39 → s' 213 k.toNat = 0))) := by
  have f0 : FL [1921, 1926, 1927, 1928, 1984, 2048, 2112, 2176] s0 s0 := FL.rf
  show xe none 15 0 [(0, .ref 209)] [] s0 0 0 _
  refine x_A k15_0 (fun _ => rfl) ?_
  refine x_bipush k15_1 (by decide +kernel) ?_
  refine x_putI k15_3 (f := 0) rfl (q := 209) (n := 8) (kd := 9) ⟨by decide, rfl⟩ rfl rfl rfl ?_
  refine x_nh (fun s1 e_s1 => ?_)
  have hG_s1 : GI s1 := by rw [e_s1]; exact hG0.up (show (-2147483648) ≤ 20 ∧ 20 ≤ 2147483647 from ⟨by decide, by decide⟩)
  have f_s1 : FL [1921, 1926, 1927, 1928, 1984, 2048, 2112, 2176] s0 s1 := by rw [e_s1]; exact f0.up (show 1921 ∈ [1921, 1926, 1927, 1928, 1984, 2048, 2112, 2176] from by decide +kernel)
  have q2 : s1 209 0 = 20 := by rw [e_s1]; exact x_up_same
  refine x_A k15_6 (fun _ => rfl) ?_
  refine x_getR k15_7 (f := 1) rfl (q := 209) (n := 8) (kd := 9) ⟨by decide, rfl⟩ (q2 := 210) (by decide) rfl ?_
  refine x_A k15_10 (fun _ => rfl) ?_
  refine x_callS k15_11 (y := 229) (n := 2) (w0 := 0) (w1 := 2) (as := [.ref 210, vi 0]) (rest := []) (by decide +kernel) rfl rfl rfl rfl (xe_mono (E209_J7_fill_53178_210_c0 s1 hG_s1 0 ⟨by decide, by decide⟩) ?_)
  rintro s4 v ⟨hG_s4, t_s4, rfl, xp_z3⟩
  have f_s4 : FL [1921, 1926, 1927, 1928, 1984, 2048, 2112, 2176] s0 s4 := f_s1.tr t_s4 (by decide +kernel)
  have q5 : s4 209 0 = 20 := (t_s4 209 0 (show 1921 ∉ [1984] from by decide +kernel)).trans q2
  show xe none 15 14 [(0, .ref 209)] [] s4 0 0 _
  refine x_A k15_14 (fun _ => rfl) ?_
  refine x_getR k15_15 (f := 2) rfl (q := 209) (n := 8) (kd := 9) ⟨by decide, rfl⟩ (q2 := 211) (by decide) rfl ?_
  refine x_lconst k15_18 (z := 0) (by decide +kernel) ?_
  refine x_callS k15_19 (y := 228) (n := 2) (w0 := 0) (w1 := 3) (as := [.ref 211, vj 0]) (rest := []) (by decide +kernel) rfl rfl rfl rfl (xe_mono (E209_J7_fill_d0a16_211 s4 hG_s4 0 ⟨by omega, by omega⟩) ?_)
  rintro s7 v ⟨hG_s7, t_s7, rfl, xp_z6⟩
  have f_s7 : FL [1921, 1926, 1927, 1928, 1984, 2048, 2112, 2176] s0 s7 := f_s4.tr t_s7 (by decide +kernel)
  have q8 : s7 209 0 = 20 := (t_s7 209 0 (show 1921 ∉ [2048] from by decide +kernel)).trans q5
  show xe none 15 22 [(0, .ref 209)] [] s7 0 0 _
  refine x_A k15_22 (fun _ => rfl) ?_
  refine x_getR k15_23 (f := 3) rfl (q := 209) (n := 8) (kd := 9) ⟨by decide, rfl⟩ (q2 := 212) (by decide) rfl ?_
  refine x_A k15_26 (fun _ => rfl) ?_
  refine x_callS k15_27 (y := 229) (n := 2) (w0 := 0) (w1 := 2) (as := [.ref 212, vi 0]) (rest := []) (by decide +kernel) rfl rfl rfl rfl (xe_mono (E209_J7_fill_53178_212_c0 s7 hG_s7 0 ⟨by decide, by decide⟩) ?_)
  rintro s10 v ⟨hG_s10, t_s10, rfl, xp_z9⟩
  have f_s10 : FL [1921, 1926, 1927, 1928, 1984, 2048, 2112, 2176] s0 s10 := f_s7.tr t_s10 (by decide +kernel)
  have q11 : s10 209 0 = 20 := (t_s10 209 0 (show 1921 ∉ [2112] from by decide +kernel)).trans q8
  show xe none 15 30 [(0, .ref 209)] [] s10 0 0 _
  refine x_A k15_30 (fun _ => rfl) ?_
  refine x_getR k15_31 (f := 4) rfl (q := 209) (n := 8) (kd := 9) ⟨by decide, rfl⟩ (q2 := 213) (by decide) rfl ?_
  refine x_lconst k15_34 (z := 0) (by decide +kernel) ?_
  refine x_callS k15_35 (y := 228) (n := 2) (w0 := 0) (w1 := 3) (as := [.ref 213, vj 0]) (rest := []) (by decide +kernel) rfl rfl rfl rfl (xe_mono (E209_J7_fill_d0a16_213 s10 hG_s10 0 ⟨by omega, by omega⟩) ?_)
  rintro s13 v ⟨hG_s13, t_s13, rfl, xp_z12⟩
  have f_s13 : FL [1921, 1926, 1927, 1928, 1984, 2048, 2112, 2176] s0 s13 := f_s10.tr t_s13 (by decide +kernel)
  have q14 : s13 209 0 = 20 := (t_s13 209 0 (show 1921 ∉ [2176] from by decide +kernel)).trans q11
  show xe none 15 38 [(0, .ref 209)] [] s13 0 0 _
  refine x_A k15_38 (fun _ => rfl) ?_
  refine x_A k15_39 (fun _ => rfl) ?_
  refine x_putI k15_40 (f := 5) rfl (q := 209) (n := 8) (kd := 9) ⟨by decide, rfl⟩ rfl rfl rfl ?_
  refine x_nh (fun s15 e_s15 => ?_)
  have hG_s15 : GI s15 := by rw [e_s15]; exact hG_s13.up (show (-2147483648) ≤ 0 ∧ 0 ≤ 2147483647 from ⟨by decide, by decide⟩)
  have f_s15 : FL [1921, 1926, 1927, 1928, 1984, 2048, 2112, 2176] s0 s15 := by rw [e_s15]; exact f_s13.up (show 1926 ∈ [1921, 1926, 1927, 1928, 1984, 2048, 2112, 2176] from by decide +kernel)
  have q16 : s15 209 0 = 20 := by rw [e_s15, x_up_i (by decide)]; exact q14
  have q17 : s15 209 5 = 0 := by rw [e_s15]; exact x_up_same
  refine x_A k15_43 (fun _ => rfl) ?_
  refine x_A k15_44 (fun _ => rfl) ?_
  refine x_putI k15_45 (f := 6) rfl (q := 209) (n := 8) (kd := 9) ⟨by decide, rfl⟩ rfl rfl rfl ?_
  refine x_nh (fun s18 e_s18 => ?_)
  have hG_s18 : GI s18 := by rw [e_s18]; exact hG_s15.up (show (-2147483648) ≤ 0 ∧ 0 ≤ 2147483647 from ⟨by decide, by decide⟩)
  have f_s18 : FL [1921, 1926, 1927, 1928, 1984, 2048, 2112, 2176] s0 s18 := by rw [e_s18]; exact f_s15.up (show 1927 ∈ [1921, 1926, 1927, 1928, 1984, 2048, 2112, 2176] from by decide +kernel)
  have q19 : s18 209 0 = 20 := by rw [e_s18, x_up_i (by decide)]; exact q16
  have q20 : s18 209 5 = 0 := by rw [e_s18, x_up_i (by decide)]; exact q17
  have q21 : s18 209 6 = 0 := by rw [e_s18]; exact x_up_same
  refine x_A k15_48 (fun _ => rfl) ?_
  refine x_A k15_49 (fun _ => rfl) ?_
  refine x_putI k15_50 (f := 7) rfl (q := 209) (n := 8) (kd := 9) ⟨by decide, rfl⟩ rfl rfl rfl ?_
  refine x_nh (fun s22 e_s22 => ?_)
  have hG_s22 : GI s22 := by rw [e_s22]; exact hG_s18.up (show (-2147483648) ≤ 0 ∧ 0 ≤ 2147483647 from ⟨by decide, by decide⟩)
  have f_s22 : FL [1921, 1926, 1927, 1928, 1984, 2048, 2112, 2176] s0 s22 := by rw [e_s22]; exact f_s18.up (show 1928 ∈ [1921, 1926, 1927, 1928, 1984, 2048, 2112, 2176] from by decide +kernel)
  have q23 : s22 209 0 = 20 := by rw [e_s22, x_up_i (by decide)]; exact q19
  have q24 : s22 209 5 = 0 := by rw [e_s22, x_up_i (by decide)]; exact q20
  have q25 : s22 209 6 = 0 := by rw [e_s22, x_up_i (by decide)]; exact q21
  have q26 : s22 209 7 = 0 := by rw [e_s22]; exact x_up_same
  exact x_vret k15_53 rfl ⟨hG_s22, f_s22, rfl, ⟨fun k k0 k1 => by rw [e_s22, x_up_q (by decide), e_s18, x_up_q (by decide), e_s15, x_up_q (by decide), t_s13 210 _ (show 1984 ∉ _ from by decide), t_s10 210 _ (show 1984 ∉ _ from by decide), t_s7 210 _ (show 1984 ∉ _ from by decide)]; exact xp_z3 _ (by omega), by omega, by omega, by omega, by omega, fun k k0 k1 => by rw [e_s22, x_up_q (by decide), e_s18, x_up_q (by decide), e_s15, x_up_q (by decide), t_s13 211 _ (show 2048 ∉ _ from by decide), t_s10 211 _ (show 2048 ∉ _ from by decide)]; exact xp_z6 _ (by omega), fun k k0 k1 => by rw [e_s22, x_up_q (by decide), e_s18, x_up_q (by decide), e_s15, x_up_q (by decide), t_s13 212 _ (show 2112 ∉ _ from by decide)]; exact xp_z9 _ (by omega), fun k k0 k1 => by rw [e_s22, x_up_q (by decide), e_s18, x_up_q (by decide), e_s15, x_up_q (by decide)]; exact xp_z12 _ (by omega)⟩⟩
