set_option maxHeartbeats 8000000 in
theorem E_X10_feed_0 (s0 : xS) (hG0 : GI s0) (a : Int) (b_a : (-2147483648) ≤ a ∧ a ≤ 2147483647) (b : Int) (b_b : in64 b) : xe none 104 0 (lv_args 0 [.ref 0, vi a, vj b]) [] s0 0 0 (fun s' v => GI s' ∧ FL [1218, 1280] s0 s' ∧ ∃ z, v = some (vi z) ∧ ((-1004) ≤ z ∧ z ≤ 160) ∧ (FdC s0 s' a b z)) := by
  have f0 : FL [1218, 1280] s0 s0 := FL.rf
  show xe none 104 0 [(0, .ref 0), (1, vi a), (2, vj b)] [] s0 0 0 _
  refine x_A k104_0 (fun _ => rfl) ?_
  refine x_A k104_1 (fun _ => rfl) ?_
  refine x_bipush k104_2 (by decide +kernel) ?_
  refine x_callS k104_4 (y := 121) (n := 3) (w0 := 0) (w1 := 3) (as := [vi a, vi 1, vi 8]) (rest := []) (by decide +kernel) rfl rfl rfl rfl (xe_mono (C_X10_isWithin s0 hG0 a (by first | exact x_rb b_a rfl rfl | exact ⟨by omega, by omega⟩) 1 ⟨by decide, by decide⟩ 8 ⟨by decide, by decide⟩) ?_)
  rintro s52 v ⟨h_s52, z51, rfl, hz_z51⟩
  rw [h_s52]
  rcases hz_z51 with ⟨c_z51, e_z51⟩ | ⟨c_z51, e_z51⟩
  · rw [e_z51]
    show xe none 104 7 [(0, .ref 0), (1, vi a), (2, vj b)] [vi 1] s0 0 0 _
    refine x_if_ne k104_7 (t := 14) rfl ⟨by decide, by decide⟩ (fun c53 => ?_) (fun c53 => by exfalso; omega)
    refine x_A k104_14 (fun _ => rfl) ?_
    refine x_getR k104_15 (f := 3) rfl (q := 0) (n := 12) (kd := 3) ⟨by decide, rfl⟩ (q2 := 177) (by decide) rfl ?_
    refine x_getI k104_18 (f := 1) rfl (q := 177) (n := 7) (kd := 7) ⟨by decide, rfl⟩ (by decide) rfl ?_
    refine x_top (fun z54 e_z54 => ?_)
    have g_z54 : (0 : Int) ≤ s0 177 1 ∧ s0 177 1 ≤ 160 := hG0 177 1
    refine x_A k104_21 (fun _ => rfl) ?_
    refine x_iadd k104_22 ?_
    refine x_top (fun z55 e_z55 => ?_)
    refine x_sipush k104_23 (by decide +kernel) ?_
    refine x_ic_le k104_26 (t := 33) rfl (by first | exact x_rbe e_z55 g_z55 rfl rfl | exact x_rb g_z55 rfl rfl | exact ⟨by omega, by omega⟩) ⟨by decide, by decide⟩ (fun c56 => ?_) (fun c56 => ?_)
    · skip
      refine x_A k104_33 (fun _ => rfl) ?_
      refine x_A k104_34 (fun _ => rfl) ?_
      refine x_isub k104_35 ?_
      refine x_top (fun z57 e_z57 => ?_)
      refine x_istore k104_36 (ls' := [(4, vi z57), (0, .ref 0), (1, vi a), (2, vj b)]) (by decide) rfl ?_
      refine x_ls (l := [(0, .ref 0), (1, vi a), (2, vj b), (4, vi z57)]) (show ([0, 1, 2, 4] : List Nat).Nodup from by decide +kernel) ⟨rfl, rfl, rfl, rfl, trivial⟩ ?_
      exact L_E_X10_feed_0_38 s0 a b_a b b_b  (((z57 - (-1)) + 1 : Int)).toNat s0 a b z57 z54 hG0 f0 (by first | exact x_rb b_a rfl rfl | exact ⟨by omega, by omega⟩) b_b (by first | exact x_rbe e_z57 g_z57 rfl rfl | exact x_rb g_z57 rfl rfl | exact ⟨by omega, by omega⟩) (by first | exact x_rbe e_z54 g_z54 rfl rfl | exact x_rb g_z54 rfl rfl | exact ⟨by omega, by omega⟩) (by omega) (by omega) (by omega) (by omega) (fun j => by rw [if_neg (by omega)]) rfl (e_z54.symm).symm  (by omega)
    · skip
      refine x_sipush k104_29 (by decide +kernel) ?_
      exact x_iret k104_32 rfl ⟨hG0, f0, (-1004), rfl, ⟨by decide, by decide⟩, (by unfold FdC; exact Or.inr (Or.inl ⟨by omega, by omega, rfl, rfl⟩))⟩
  · rw [e_z51]
    show xe none 104 7 [(0, .ref 0), (1, vi a), (2, vj b)] [vi 0] s0 0 0 _
    refine x_if_ne k104_7 (t := 14) rfl ⟨by decide, by decide⟩ (fun c58 => by exfalso; omega) (fun c58 => ?_)
    refine x_sipush k104_10 (by decide +kernel) ?_
    obtain ⟨z59, e_z59⟩ : ∃ z, z = s0 177 1 := ⟨_, rfl⟩
    have g_z59 : (0 : Int) ≤ s0 177 1 ∧ s0 177 1 ≤ 160 := hG0 177 1
    exact x_iret k104_13 rfl ⟨hG0, f0, (-1002), rfl, ⟨by decide, by decide⟩, (by unfold FdC; exact Or.inl ⟨by omega, rfl, rfl⟩)⟩
set_option maxHeartbeats 8000000 in
theorem L_E_X11_feed_256_37 (s0 : xS) (a : Int) (b_a : (-2147483648) ≤ a ∧ a ≤ 2147483647) (b : Int) (b_b : in64 b)  : ∀ (n : Nat) (s : xS) (x1 : Int) (x2 : Int) (x4 : Int) (x1000 : Int) (hG : GI s) (f : FL [4131, 5824] s0 s) (b_x1 : 1 ≤ x1 ∧ x1 ≤ 8) (b_x2 : in64 x2) (b_x4 : (-1) ≤ x4 ∧ x4 ≤ 7) (b_x1000 : 0 ≤ x1000 ∧ x1000 ≤ 160) (r_4_1 : x4 ≤ x1 + 0) (w_0 : x1 = a ∧ 1 ≤ a ∧ a ≤ 8 ∧ -1 ≤ x4 ∧ x4 ≤ a - 1) (w_1 : x1000 = s0 256 34 + (a - 1 - x4)) (w_2 : 0 ≤ s0 256 34 ∧ s0 256 34 + a ≤ 160) (w_3 : ∀ j : Nat, s 283 j = if s0 256 34 ≤ (j : Int) ∧ (j : Int) < s0 256 34 + (a - 1 - x4) then byt b (a - 1 - ((j : Int) - s0 256 34)) else s0 283 j) (w_4 : x2 = b) (e_x1000 : x1000 = s 256 34)  (hm : (x4 - (-1)) < (n : Int)), xe none 175 37 [(0, .ref 256), (1, vi x1), (2, vj x2), (4, vi x4)] [] s 0 0 (fun s' v => GI s' ∧ FL [4131, 5824] s0 s' ∧ ∃ z, v = some (vi z) ∧ ((-1004) ≤ z ∧ z ≤ 160) ∧ (FdR s0 s' a b z)) := by
  intro n
  induction n with
  | zero => intro s x1 x2 x4 x1000 hG f b_x1 b_x2 b_x4 b_x1000 r_4_1 w_0 w_1 w_2 w_3 w_4 e_x1000  hm; exfalso; omega
  | succ n ih =>
    intro s x1 x2 x4 x1000 hG f b_x1 b_x2 b_x4 b_x1000 r_4_1 w_0 w_1 w_2 w_3 w_4 e_x1000  hm
    refine x_A k175_37 (fun _ => rfl) ?_
    refine x_if_lt k175_39 (t := 79) rfl (by first | exact x_rb b_x4 rfl rfl | exact ⟨by omega, by omega⟩) (fun c52 => ?_) (fun c52 => ?_)
    · skip
      refine x_A k175_79 (fun _ => rfl) ?_
      refine x_getI k175_80 (f := 34) rfl (q := 256) (n := 62) (kd := 15) ⟨by decide, rfl⟩ (by decide) rfl ?_
      refine x_rw (e_x1000.symm) ?_
      exact x_iret k175_83 rfl ⟨hG, f, x1000, rfl, (by first | exact x_rb b_x1000 rfl rfl | exact ⟨by omega, by omega⟩), (by unfold FdR; exact Or.inr (Or.inr ⟨by omega, by omega, by omega, by omega, by rw [show a - 1 - x4 = a by omega] at w_3; exact w_3⟩))⟩
    · skip
      refine x_A k175_42 (fun _ => rfl) ?_
      refine x_getR k175_43 (f := 33) rfl (q := 256) (n := 62) (kd := 15) ⟨by decide, rfl⟩ (q2 := 283) (by decide) rfl ?_
      refine x_A k175_46 (fun _ => rfl) ?_
      refine x_getI k175_47 (f := 34) rfl (q := 256) (n := 62) (kd := 15) ⟨by decide, rfl⟩ (by decide) rfl ?_
      refine x_rw (e_x1000.symm) ?_
      refine x_A k175_50 (fun _ => rfl) ?_
      refine x_bipush k175_51 (by decide +kernel) ?_
      refine x_A k175_53 (fun _ => rfl) ?_
      refine x_imul k175_55 ?_
      refine x_top (fun z53 e_z53 => ?_)
      refine x_lshr_b k175_56 ⟨by omega, by omega⟩ (fun z54 b_z54 u_z54 => ?_)
      refine x_ldc2 k175_57 (z := 255) rfl (by decide +kernel) ?_
      refine x_land255 k175_60 (fun z55 u_z55 => ?_)
      refine x_l2i k175_61 ⟨by omega, by omega⟩ ?_
      have hb : z55 = byt b x4 := byt_R ⟨by omega, by omega⟩ (show z53 = 8 * x4 by omega) (by rw [← show x2 = b from w_4]; exact u_z54) u_z55
      refine x_iast k175_62 (q := 283) (n := 160) ⟨by decide, rfl⟩ (by decide) (by first | exact x_rbl b_x1000 rfl rfl | exact ⟨by omega, by omega⟩) ?_
      refine x_nh (fun s56 e_s56 => ?_)
      have hG_s56 : GI s56 := by rw [e_s56]; exact hG.up (show 0 ≤ z55 ∧ z55 ≤ 255 from (by first | exact x_rbe e_z55 g_z55 rfl rfl | exact x_rb g_z55 rfl rfl | exact ⟨by omega, by omega⟩))
      have f_s56 : FL [4131, 5824] s0 s56 := by rw [e_s56]; exact f.up (show 5824 ∈ [4131, 5824] from by decide +kernel)
      have q57 : s56 256 34 = x1000 := by rw [e_s56, x_up_q (by decide)]; exact e_x1000.symm
      have q58 : s56 283 x1000.toNat = z55 := by rw [e_s56]; exact x_up_same
      refine x_A k175_63 (fun _ => rfl) ?_
      refine x_A k175_64 (fun _ => rfl) ?_
      refine x_getI k175_65 (f := 34) rfl (q := 256) (n := 62) (kd := 15) ⟨by decide, rfl⟩ (by decide) rfl ?_
      refine x_rw (q57) ?_
      refine x_A k175_68 (fun _ => rfl) ?_
      refine x_iadd k175_69 ?_
      refine x_top (fun z59 e_z59 => ?_)
      refine x_putI k175_70 (f := 34) rfl (q := 256) (n := 62) (kd := 15) ⟨by decide, rfl⟩ rfl rfl rfl ?_
      refine x_nh (fun s60 e_s60 => ?_)
      have hG_s60 : GI s60 := by rw [e_s60]; exact hG_s56.up (show 0 ≤ z59 ∧ z59 ≤ 160 from (by first | exact x_rbe e_z59 g_z59 rfl rfl | exact x_rb g_z59 rfl rfl | exact ⟨by omega, by omega⟩))
      have f_s60 : FL [4131, 5824] s0 s60 := by rw [e_s60]; exact f_s56.up (show 4131 ∈ [4131, 5824] from by decide +kernel)
      have q61 : s60 256 34 = z59 := by rw [e_s60]; exact x_up_same
      have q62 : s60 283 x1000.toNat = z55 := by rw [e_s60, x_up_q (by first | decide | omega)]; exact q58
      refine x_iinc k175_73 (ls' := [(4, vi (x4 + (-1))), (0, .ref 256), (1, vi x1), (2, vj x2)]) rfl (by decide) rfl ?_
      refine x_goto k175_76 (t := 37) rfl ?_
      refine x_ls (l := [(0, .ref 256), (1, vi x1), (2, vj x2), (4, vi (x4 + (-1)))]) (show ([0, 1, 2, 4] : List Nat).Nodup from by decide +kernel) ⟨rfl, rfl, rfl, rfl, trivial⟩ ?_
      exact ih s60 x1 x2 (x4 + (-1)) z59 hG_s60 f_s60 (by first | exact x_rb b_x1 rfl rfl | exact ⟨by omega, by omega⟩) b_x2 ⟨by omega, by omega⟩ (by first | exact x_rbe e_z59 g_z59 rfl rfl | exact x_rb g_z59 rfl rfl | exact ⟨by omega, by omega⟩) (by omega) (by omega) (by omega) (by omega) (by rw [show a - 1 - (x4 + (-1)) = (a - 1 - x4) + 1 by omega]; exact fd_up w_3 (by omega) (by omega) (fun j => by rw [e_s60, x_up_q (by decide), e_s56, x_up_at, show x1000 = s0 256 34 + (a - 1 - x4) by omega, hb, show a - 1 - (a - 1 - x4) = x4 by omega])) w_4 (q61).symm  (by omega)
set_option maxHeartbeats 8000000 in
theorem E_X11_feed_256 (s0 : xS) (hG0 : GI s0) (a : Int) (b_a : (-2147483648) ≤ a ∧ a ≤ 2147483647) (b : Int) (b_b : in64 b) : xe none 175 0 (lv_args 0 [.ref 256, vi a, vj b]) [] s0 0 0 (fun s' v => GI s' ∧ FL [4131, 5824] s0 s' ∧ ∃ z, v = some (vi z) ∧ ((-1004) ≤ z ∧ z ≤ 160) ∧ (FdR s0 s' a b z)) := by
  have f0 : FL [4131, 5824] s0 s0 := FL.rf
  show xe none 175 0 [(0, .ref 256), (1, vi a), (2, vj b)] [] s0 0 0 _
  refine x_A k175_0 (fun _ => rfl) ?_
  refine x_i2l k175_1 (by first | exact x_rb b_a rfl rfl | exact ⟨by omega, by omega⟩) ?_
  refine x_lconst k175_2 (z := 1) (by decide +kernel) ?_
  refine x_ldc2 k175_3 (z := 8) rfl (by decide +kernel) ?_
  refine x_callS k175_6 (y := 136) (n := 3) (w0 := 0) (w1 := 6) (as := [vj a, vj 1, vj 8]) (rest := []) (by decide +kernel) rfl rfl rfl rfl (xe_mono (C_X11_in s0 hG0 a ⟨by omega, by omega⟩ 1 ⟨by omega, by omega⟩ 8 ⟨by omega, by omega⟩) ?_)
  rintro s64 v ⟨h_s64, z63, rfl, hz_z63⟩
  rw [h_s64]
  rcases hz_z63 with ⟨c_z63, e_z63⟩ | ⟨c_z63, e_z63⟩
  · rw [e_z63]
    show xe none 175 9 [(0, .ref 256), (1, vi a), (2, vj b)] [vi 1] s0 0 0 _
    refine x_if_ne k175_9 (t := 16) rfl ⟨by decide, by decide⟩ (fun c65 => ?_) (fun c65 => by exfalso; omega)
    refine x_A k175_16 (fun _ => rfl) ?_
    refine x_getI k175_17 (f := 34) rfl (q := 256) (n := 62) (kd := 15) ⟨by decide, rfl⟩ (by decide) rfl ?_
    refine x_top (fun z66 e_z66 => ?_)
    have g_z66 : (0 : Int) ≤ s0 256 34 ∧ s0 256 34 ≤ 160 := hG0 256 34
    refine x_A k175_20 (fun _ => rfl) ?_
    refine x_iadd k175_21 ?_
    refine x_top (fun z67 e_z67 => ?_)
    refine x_sipush k175_22 (by decide +kernel) ?_
    refine x_ic_le k175_25 (t := 32) rfl (by first | exact x_rbe e_z67 g_z67 rfl rfl | exact x_rb g_z67 rfl rfl | exact ⟨by omega, by omega⟩) ⟨by decide, by decide⟩ (fun c68 => ?_) (fun c68 => ?_)
    · skip
      refine x_A k175_32 (fun _ => rfl) ?_
      refine x_A k175_33 (fun _ => rfl) ?_
      refine x_isub k175_34 ?_
      refine x_top (fun z69 e_z69 => ?_)
      refine x_istore k175_35 (ls' := [(4, vi z69), (0, .ref 256), (1, vi a), (2, vj b)]) (by decide) rfl ?_
      refine x_ls (l := [(0, .ref 256), (1, vi a), (2, vj b), (4, vi z69)]) (show ([0, 1, 2, 4] : List Nat).Nodup from by decide +kernel) ⟨rfl, rfl, rfl, rfl, trivial⟩ ?_
      exact L_E_X11_feed_256_37 s0 a b_a b b_b  (((z69 - (-1)) + 1 : Int)).toNat s0 a b z69 z66 hG0 f0 (by first | exact x_rb b_a rfl rfl | exact ⟨by omega, by omega⟩) b_b (by first | exact x_rbe e_z69 g_z69 rfl rfl | exact x_rb g_z69 rfl rfl | exact ⟨by omega, by omega⟩) (by first | exact x_rbe e_z66 g_z66 rfl rfl | exact x_rb g_z66 rfl rfl | exact ⟨by omega, by omega⟩) (by omega) (by omega) (by omega) (by omega) (fun j => by rw [if_neg (by omega)]) rfl (e_z66.symm).symm  (by omega)
    · skip
      refine x_sipush k175_28 (by decide +kernel) ?_
      exact x_iret k175_31 rfl ⟨hG0, f0, (-1004), rfl, ⟨by decide, by decide⟩, (by unfold FdR; exact Or.inr (Or.inl ⟨by omega, by omega, rfl, rfl⟩))⟩
  · rw [e_z63]
    show xe none 175 9 [(0, .ref 256), (1, vi a), (2, vj b)] [vi 0] s0 0 0 _
    refine x_if_ne k175_9 (t := 16) rfl ⟨by decide, by decide⟩ (fun c70 => by exfalso; omega) (fun c70 => ?_)
    refine x_sipush k175_12 (by decide +kernel) ?_
    obtain ⟨z71, e_z71⟩ : ∃ z, z = s0 256 34 := ⟨_, rfl⟩
    have g_z71 : (0 : Int) ≤ s0 256 34 ∧ s0 256 34 ≤ 160 := hG0 256 34
    exact x_iret k175_15 rfl ⟨hG0, f0, (-1002), rfl, ⟨by decide, by decide⟩, (by unfold FdR; exact Or.inl ⟨by omega, rfl, rfl⟩)⟩
set_option maxHeartbeats 8000000 in
theorem E_X11_fault_256 (s0 : xS) (hG0 : GI s0)  : xe none 188 0 (lv_args 0 [.ref 256]) [] s0 0 0 (fun s' v => GI s' ∧ FL [] s0 s' ∧ ∃ z, v = some (vi z) ∧ ((-2147483648) ≤ z ∧ z ≤ 2147483647) ∧ (z = s0 256 35)) := by
  have f0 : FL [] s0 s0 := FL.rf
  show xe none 188 0 [(0, .ref 256)] [] s0 0 0 _
  refine x_A k188_0 (fun _ => rfl) ?_
  refine x_getI k188_1 (f := 35) rfl (q := 256) (n := 62) (kd := 15) ⟨by decide, rfl⟩ (by decide) rfl ?_
  refine x_top (fun z1 e_z1 => ?_)
  have g_z1 : (-2147483648) ≤ s0 256 35 ∧ s0 256 35 ≤ 2147483647 := hG0 256 35
  exact x_iret k188_4 rfl ⟨hG0, f0, z1, rfl, (by first | exact x_rbe e_z1 g_z1 rfl rfl | exact x_rb g_z1 rfl rfl | exact ⟨by omega, by omega⟩), by omega⟩
set_option maxHeartbeats 8000000 in
theorem E_X10_fault_0 (s0 : xS) (hG0 : GI s0)  : xe none 106 0 (lv_args 0 [.ref 0]) [] s0 0 0 (fun s' v => GI s' ∧ FL [] s0 s' ∧ ∃ z, v = some (vi z) ∧ ((-2147483648) ≤ z ∧ z ≤ 2147483647) ∧ (z = s0 0 11)) := by
  have f0 : FL [] s0 s0 := FL.rf
  show xe none 106 0 [(0, .ref 0)] [] s0 0 0 _
  refine x_A k106_0 (fun _ => rfl) ?_
  refine x_getI k106_1 (f := 11) rfl (q := 0) (n := 12) (kd := 3) ⟨by decide, rfl⟩ (by decide) rfl ?_
  refine x_top (fun z1 e_z1 => ?_)
  have g_z1 : (-2147483648) ≤ s0 0 11 ∧ s0 0 11 ≤ 2147483647 := hG0 0 11
  exact x_iret k106_4 rfl ⟨hG0, f0, z1, rfl, (by first | exact x_rbe e_z1 g_z1 rfl rfl | exact x_rb g_z1 rfl rfl | exact ⟨by omega, by omega⟩), by omega⟩
