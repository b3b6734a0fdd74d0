theorem L_C_X11_here_256_0 (s0 : xS)  : ∀ (n : Nat) (s : xS) (x1000 : Int) (x1001 : Int) (hG : GI s) (f : FL [4133] s0 s) (b_x1000 : 0 ≤ x1000 ∧ x1000 ≤ 160) (b_x1001 : 0 ≤ x1001 ∧ x1001 ≤ 160) (e_x1000 : x1000 = s 256 36) (e_x1001 : x1001 = s 256 34)  (hm : (160 - x1000) < (n : Int)), xe none 176 0 [(0, .ref 256)] [] s 0 0 (fun s' v => GI s' ∧ FL [4133] s0 s' ∧ ∃ z, v = some (vi z) ∧ ((-1) ≤ z ∧ z ≤ 255) ∧ (0 ≤ z → s' 256 36 < s' 256 34)) := by
  intro n
  induction n with
  | zero => intro s x1000 x1001 hG f b_x1000 b_x1001 e_x1000 e_x1001  hm; exfalso; omega
  | succ n ih =>
    intro s x1000 x1001 hG f b_x1000 b_x1001 e_x1000 e_x1001  hm
    refine x_A k176_0 (fun _ => rfl) ?_
    refine x_getI k176_1 (f := 36) rfl (q := 256) (n := 62) (kd := 15) ⟨by decide, rfl⟩ (by decide) rfl ?_
    rw [e_x1000.symm]
    refine x_A k176_4 (fun _ => rfl) ?_
    refine x_getI k176_5 (f := 34) rfl (q := 256) (n := 62) (kd := 15) ⟨by decide, rfl⟩ (by decide) rfl ?_
    rw [e_x1001.symm]
    refine x_ic_ge k176_8 (t := 38) rfl ⟨by omega, by omega⟩ ⟨by omega, by omega⟩ (fun c35 => ?_) (fun c35 => ?_)
    · skip
      refine x_A k176_38 (fun _ => rfl) ?_
      refine x_getI k176_39 (f := 36) rfl (q := 256) (n := 62) (kd := 15) ⟨by decide, rfl⟩ (by decide) rfl ?_
      rw [e_x1000.symm]
      refine x_A k176_42 (fun _ => rfl) ?_
      refine x_getI k176_43 (f := 34) rfl (q := 256) (n := 62) (kd := 15) ⟨by decide, rfl⟩ (by decide) rfl ?_
      rw [e_x1001.symm]
      refine x_ic_ge k176_46 (t := 61) rfl ⟨by omega, by omega⟩ ⟨by omega, by omega⟩ (fun c36 => ?_) (fun c36 => by exfalso; omega)
      refine x_A k176_61 (fun _ => rfl) ?_
      exact x_iret k176_62 rfl ⟨hG, f, (-1), rfl, ⟨by omega, by omega⟩, by omega⟩
    · skip
      refine x_A k176_11 (fun _ => rfl) ?_
      refine x_getR k176_12 (f := 33) rfl (q := 256) (n := 62) (kd := 15) ⟨by decide, rfl⟩ (q2 := 283) (by decide) rfl ?_
      refine x_A k176_15 (fun _ => rfl) ?_
      refine x_getI k176_16 (f := 36) rfl (q := 256) (n := 62) (kd := 15) ⟨by decide, rfl⟩ (by decide) rfl ?_
      rw [e_x1000.symm]
      refine x_iald k176_19 (q := 283) (n := 160) ⟨by decide, rfl⟩ (by decide) ⟨by omega, by omega⟩ ?_
      refine x_top (fun z37 e_z37 => ?_)
      have g_z37 : (0 : Int) ≤ s 283 x1000.toNat ∧ s 283 x1000.toNat ≤ 255 := hG 283 x1000.toNat
      refine x_bipush k176_20 (by decide +kernel) ?_
      refine x_ic_ne k176_22 (t := 38) rfl ⟨by omega, by omega⟩ ⟨by omega, by omega⟩ (fun c38 => ?_) (fun c38 => ?_)
      · skip
        refine x_A k176_38 (fun _ => rfl) ?_
        refine x_getI k176_39 (f := 36) rfl (q := 256) (n := 62) (kd := 15) ⟨by decide, rfl⟩ (by decide) rfl ?_
        rw [e_x1000.symm]
        refine x_A k176_42 (fun _ => rfl) ?_
        refine x_getI k176_43 (f := 34) rfl (q := 256) (n := 62) (kd := 15) ⟨by decide, rfl⟩ (by decide) rfl ?_
        rw [e_x1001.symm]
        refine x_ic_ge k176_46 (t := 61) rfl ⟨by omega, by omega⟩ ⟨by omega, by omega⟩ (fun c39 => by exfalso; omega) (fun c39 => ?_)
        refine x_A k176_49 (fun _ => rfl) ?_
        refine x_getR k176_50 (f := 33) rfl (q := 256) (n := 62) (kd := 15) ⟨by decide, rfl⟩ (q2 := 283) (by decide) rfl ?_
        refine x_A k176_53 (fun _ => rfl) ?_
        refine x_getI k176_54 (f := 36) rfl (q := 256) (n := 62) (kd := 15) ⟨by decide, rfl⟩ (by decide) rfl ?_
        rw [e_x1000.symm]
        refine x_iald k176_57 (q := 283) (n := 160) ⟨by decide, rfl⟩ (by decide) ⟨by omega, by omega⟩ ?_
        rw [e_z37.symm]
        refine x_goto k176_58 (t := 62) rfl ?_
        exact x_iret k176_62 rfl ⟨hG, f, z37, rfl, ⟨by omega, by omega⟩, by omega⟩
      · skip
        refine x_A k176_25 (fun _ => rfl) ?_
        refine x_A k176_26 (fun _ => rfl) ?_
        refine x_getI k176_27 (f := 36) rfl (q := 256) (n := 62) (kd := 15) ⟨by decide, rfl⟩ (by decide) rfl ?_
        rw [e_x1000.symm]
        refine x_A k176_30 (fun _ => rfl) ?_
        refine x_iadd k176_31 ?_
        refine x_top (fun z40 e_z40 => ?_)
        refine x_putI k176_32 (f := 36) rfl (q := 256) (n := 62) (kd := 15) ⟨by decide, rfl⟩ rfl rfl rfl ?_
        refine x_nh (fun s41 e_s41 => ?_)
        have hG_s41 : GI s41 := by rw [e_s41]; exact hG.up (show 0 ≤ z40 ∧ z40 ≤ 160 from ⟨by omega, by omega⟩)
        have f_s41 : FL [4133] s0 s41 := by rw [e_s41]; exact f.up (show 4133 ∈ [4133] from by decide)
        have q42 : s41 256 34 = x1001 := by rw [e_s41, x_up_i (by decide)]; exact e_x1001.symm
        have q43 : s41 256 36 = z40 := by rw [e_s41]; exact x_up_same
        have q44 : s41 283 x1000.toNat = z37 := by rw [e_s41, x_up_q (by omega)]; exact e_z37.symm
        refine x_goto k176_35 (t := 0) rfl ?_
        refine x_ls (l := [(0, .ref 256)]) (show ([0] : List Nat).Nodup from by decide) ⟨rfl, trivial⟩ ?_
        exact ih s41 z40 x1001 hG_s41 f_s41 ⟨by omega, by omega⟩ ⟨by omega, by omega⟩ (q43).symm (q42).symm  (by omega)
theorem C_X11_here_256 (s0 : xS) (hG0 : GI s0)  : xe none 176 0 (lv_args 0 [.ref 256]) [] s0 0 0 (fun s' v => GI s' ∧ FL [4133] s0 s' ∧ ∃ z, v = some (vi z) ∧ ((-1) ≤ z ∧ z ≤ 255) ∧ (0 ≤ z → s' 256 36 < s' 256 34)) := by
  have f0 : FL [4133] s0 s0 := FL.rf
  show xe none 176 0 [(0, .ref 256)] [] s0 0 0 _
  obtain ⟨z45, e_z45⟩ : ∃ z, z = s0 256 36 := ⟨_, rfl⟩
  have g_z45 : (0 : Int) ≤ s0 256 36 ∧ s0 256 36 ≤ 160 := hG0 256 36
  obtain ⟨z46, e_z46⟩ : ∃ z, z = s0 256 34 := ⟨_, rfl⟩
  have g_z46 : (0 : Int) ≤ s0 256 34 ∧ s0 256 34 ≤ 160 := hG0 256 34
  refine x_ls (l := [(0, .ref 256)]) (show ([0] : List Nat).Nodup from by decide) ⟨rfl, trivial⟩ ?_
  exact L_C_X11_here_256_0 s0  (((160 - z45) + 1 : Int)).toNat s0 z45 z46 hG0 f0 ⟨by omega, by omega⟩ ⟨by omega, by omega⟩ (e_z45.symm).symm (e_z46.symm).symm  (by omega)
theorem L_C_X11_readWord_256_18 (s0 : xS)  : ∀ (n : Nat) (s : xS) (x1 : Int) (x1000 : Int) (x1001 : Int) (hG : GI s) (f : FL [4133, 4134, 4135] s0 s) (b_x1 : (-1) ≤ x1 ∧ x1 ≤ 255) (b_x1000 : 0 ≤ x1000 ∧ x1000 ≤ 160) (b_x1001 : 0 ≤ x1001 ∧ x1001 ≤ 160) (e_x1000 : x1000 = s 256 34) (e_x1001 : x1001 = s 256 38)  (hm : (160 - x1001) < (n : Int)), xe none 178 18 [(0, .ref 256), (1, vi x1)] [] s 0 0 (fun s' v => GI s' ∧ FL [4133, 4134, 4135] s0 s' ∧ v = none) := by
  intro n
  induction n with
  | zero => intro s x1 x1000 x1001 hG f b_x1 b_x1000 b_x1001 e_x1000 e_x1001  hm; exfalso; omega
  | succ n ih =>
    intro s x1 x1000 x1001 hG f b_x1 b_x1000 b_x1001 e_x1000 e_x1001  hm
    refine x_A k178_18 (fun _ => rfl) ?_
    refine x_getI k178_19 (f := 38) rfl (q := 256) (n := 62) (kd := 15) ⟨by decide, rfl⟩ (by decide) rfl ?_
    rw [e_x1001.symm]
    refine x_A k178_22 (fun _ => rfl) ?_
    refine x_getI k178_23 (f := 34) rfl (q := 256) (n := 62) (kd := 15) ⟨by decide, rfl⟩ (by decide) rfl ?_
    rw [e_x1000.symm]
    refine x_ic_ge k178_26 (t := 108) rfl ⟨by omega, by omega⟩ ⟨by omega, by omega⟩ (fun c107 => ?_) (fun c107 => ?_)
    · skip
      exact x_vret k178_108 rfl ⟨hG, f, rfl⟩
    · skip
      refine x_A k178_29 (fun _ => rfl) ?_
      refine x_getR k178_30 (f := 33) rfl (q := 256) (n := 62) (kd := 15) ⟨by decide, rfl⟩ (q2 := 283) (by decide) rfl ?_
      refine x_A k178_33 (fun _ => rfl) ?_
      refine x_getI k178_34 (f := 38) rfl (q := 256) (n := 62) (kd := 15) ⟨by decide, rfl⟩ (by decide) rfl ?_
      rw [e_x1001.symm]
      refine x_iald k178_37 (q := 283) (n := 160) ⟨by decide, rfl⟩ (by decide) ⟨by omega, by omega⟩ ?_
      refine x_top (fun z108 e_z108 => ?_)
      have g_z108 : (0 : Int) ≤ s 283 x1001.toNat ∧ s 283 x1001.toNat ≤ 255 := hG 283 x1001.toNat
      refine x_i2l k178_38 ⟨by omega, by omega⟩ ?_
      refine x_ldc2 k178_39 (z := 97) rfl (by decide +kernel) ?_
      refine x_ldc2 k178_42 (z := 122) rfl (by decide +kernel) ?_
      refine x_callS k178_45 (y := 136) (n := 3) (w0 := 0) (w1 := 6) (as := [vj z108, vj 97, vj 122]) (rest := []) (by decide +kernel) rfl rfl rfl rfl (xe_mono (C_X11_in s hG z108 ⟨by omega, by omega⟩ 97 ⟨by omega, by omega⟩ 122 ⟨by omega, by omega⟩) ?_)
      rintro s110 v ⟨h_s110, z109, rfl, hz_z109⟩
      rw [h_s110]
      rcases hz_z109 with ⟨c_z109, e_z109⟩ | ⟨c_z109, e_z109⟩
      · rw [e_z109]
        show xe none 178 48 [(0, .ref 256), (1, vi x1)] [vi 1] s 0 0 _
        refine x_if_eq k178_48 (t := 108) rfl ⟨by omega, by omega⟩ (fun c111 => by exfalso; omega) (fun c111 => ?_)
        refine x_A k178_51 (fun _ => rfl) ?_
        refine x_A k178_52 (fun _ => rfl) ?_
        refine x_getJ k178_53 (f := 37) rfl (q := 256) (n := 62) (kd := 15) ⟨by decide, rfl⟩ (by decide) rfl ?_
        refine x_topL (fun z112 e_z112 => ?_)
        have b_z112 : in64 z112 := by rw [e_z112]; exact hG 256 37
        refine x_ldc2 k178_56 (z := 10000000000) rfl (by decide +kernel) ?_
        refine x_lc_le k178_59 k178_60 (t := 69) rfl b_z112 ⟨by omega, by omega⟩ (fun c113 => ?_) (fun c113 => ?_)
        · skip
          refine x_ldc2 k178_69 (z := 27) rfl (by decide +kernel) ?_
          refine x_A k178_72 (fun _ => rfl) ?_
          refine x_getJ k178_73 (f := 37) rfl (q := 256) (n := 62) (kd := 15) ⟨by decide, rfl⟩ (by decide) rfl ?_
          refine x_topL (fun z114 e_z114 => ?_)
          have b_z114 : in64 z114 := by rw [e_z114]; exact hG 256 37
          refine x_lmul_any k178_76 (fun z115 b_z115 => ?_)
          refine x_A k178_77 (fun _ => rfl) ?_
          refine x_getR k178_78 (f := 33) rfl (q := 256) (n := 62) (kd := 15) ⟨by decide, rfl⟩ (q2 := 283) (by decide) rfl ?_
          refine x_A k178_81 (fun _ => rfl) ?_
          refine x_getI k178_82 (f := 38) rfl (q := 256) (n := 62) (kd := 15) ⟨by decide, rfl⟩ (by decide) rfl ?_
          rw [e_x1001.symm]
          refine x_iald k178_85 (q := 283) (n := 160) ⟨by decide, rfl⟩ (by decide) ⟨by omega, by omega⟩ ?_
          rw [e_z108.symm]
          refine x_i2l k178_86 ⟨by omega, by omega⟩ ?_
          refine x_ladd_any k178_87 (fun z116 b_z116 => ?_)
          refine x_ldc2 k178_88 (z := 96) rfl (by decide +kernel) ?_
          refine x_lsub_any k178_91 (fun z117 b_z117 => ?_)
          refine x_putJ k178_92 (f := 37) rfl (q := 256) (n := 62) (kd := 15) ⟨by decide, rfl⟩ rfl rfl rfl ?_
          refine x_nh (fun s118 e_s118 => ?_)
          have hG_s118 : GI s118 := by rw [e_s118]; exact hG.up (show in64 z117 from b_z117)
          have f_s118 : FL [4133, 4134, 4135] s0 s118 := by rw [e_s118]; exact f.up (show 4134 ∈ [4133, 4134, 4135] from by decide)
          have q119 : s118 256 34 = x1000 := by rw [e_s118, x_up_i (by decide)]; exact e_x1000.symm
          have q120 : s118 256 38 = x1001 := by rw [e_s118, x_up_i (by decide)]; exact e_x1001.symm
          have q121 : s118 283 x1001.toNat = z108 := by rw [e_s118, x_up_q (by omega)]; exact e_z108.symm
          refine x_A k178_95 (fun _ => rfl) ?_
          refine x_A k178_96 (fun _ => rfl) ?_
          refine x_getI k178_97 (f := 38) rfl (q := 256) (n := 62) (kd := 15) ⟨by decide, rfl⟩ (by decide) rfl ?_
          rw [q120]
          refine x_A k178_100 (fun _ => rfl) ?_
          refine x_iadd k178_101 ?_
          refine x_top (fun z122 e_z122 => ?_)
          refine x_putI k178_102 (f := 38) rfl (q := 256) (n := 62) (kd := 15) ⟨by decide, rfl⟩ rfl rfl rfl ?_
          refine x_nh (fun s123 e_s123 => ?_)
          have hG_s123 : GI s123 := by rw [e_s123]; exact hG_s118.up (show 0 ≤ z122 ∧ z122 ≤ 160 from ⟨by omega, by omega⟩)
          have f_s123 : FL [4133, 4134, 4135] s0 s123 := by rw [e_s123]; exact f_s118.up (show 4135 ∈ [4133, 4134, 4135] from by decide)
          have q124 : s123 256 34 = x1000 := by rw [e_s123, x_up_i (by decide)]; exact q119
          have q125 : s123 256 38 = z122 := by rw [e_s123]; exact x_up_same
          have q126 : s123 283 x1001.toNat = z108 := by rw [e_s123, x_up_q (by omega)]; exact q121
          refine x_goto k178_105 (t := 18) rfl ?_
          refine x_ls (l := [(0, .ref 256), (1, vi x1)]) (show ([0, 1] : List Nat).Nodup from by decide) ⟨rfl, rfl, trivial⟩ ?_
          exact ih s123 x1 x1000 z122 hG_s123 f_s123 ⟨by omega, by omega⟩ ⟨by omega, by omega⟩ ⟨by omega, by omega⟩ (q124).symm (q125).symm  (by omega)
        · skip
          refine x_ldc2 k178_63 (z := 20000000000) rfl (by decide +kernel) ?_
          refine x_goto k178_66 (t := 92) rfl ?_
          refine x_putJ k178_92 (f := 37) rfl (q := 256) (n := 62) (kd := 15) ⟨by decide, rfl⟩ rfl rfl rfl ?_
          refine x_nh (fun s127 e_s127 => ?_)
          have hG_s127 : GI s127 := by rw [e_s127]; exact hG.up (show in64 20000000000 from ⟨by omega, by omega⟩)
          have f_s127 : FL [4133, 4134, 4135] s0 s127 := by rw [e_s127]; exact f.up (show 4134 ∈ [4133, 4134, 4135] from by decide)
          have q128 : s127 256 34 = x1000 := by rw [e_s127, x_up_i (by decide)]; exact e_x1000.symm
          have q129 : s127 256 38 = x1001 := by rw [e_s127, x_up_i (by decide)]; exact e_x1001.symm
          have q130 : s127 283 x1001.toNat = z108 := by rw [e_s127, x_up_q (by omega)]; exact e_z108.symm
          refine x_A k178_95 (fun _ => rfl) ?_
          refine x_A k178_96 (fun _ => rfl) ?_
          refine x_getI k178_97 (f := 38) rfl (q := 256) (n := 62) (kd := 15) ⟨by decide, rfl⟩ (by decide) rfl ?_
          rw [q129]
          refine x_A k178_100 (fun _ => rfl) ?_
          refine x_iadd k178_101 ?_
          refine x_top (fun z131 e_z131 => ?_)
          refine x_putI k178_102 (f := 38) rfl (q := 256) (n := 62) (kd := 15) ⟨by decide, rfl⟩ rfl rfl rfl ?_
          refine x_nh (fun s132 e_s132 => ?_)
          have hG_s132 : GI s132 := by rw [e_s132]; exact hG_s127.up (show 0 ≤ z131 ∧ z131 ≤ 160 from ⟨by omega, by omega⟩)
          have f_s132 : FL [4133, 4134, 4135] s0 s132 := by rw [e_s132]; exact f_s127.up (show 4135 ∈ [4133, 4134, 4135] from by decide)
          have q133 : s132 256 34 = x1000 := by rw [e_s132, x_up_i (by decide)]; exact q128
          have q134 : s132 256 38 = z131 := by rw [e_s132]; exact x_up_same
          have q135 : s132 283 x1001.toNat = z108 := by rw [e_s132, x_up_q (by omega)]; exact q130
          refine x_goto k178_105 (t := 18) rfl ?_
          refine x_ls (l := [(0, .ref 256), (1, vi x1)]) (show ([0, 1] : List Nat).Nodup from by decide) ⟨rfl, rfl, trivial⟩ ?_
          exact ih s132 x1 x1000 z131 hG_s132 f_s132 ⟨by omega, by omega⟩ ⟨by omega, by omega⟩ ⟨by omega, by omega⟩ (q133).symm (q134).symm  (by omega)
      · rw [e_z109]
        show xe none 178 48 [(0, .ref 256), (1, vi x1)] [vi 0] s 0 0 _
        refine x_if_eq k178_48 (t := 108) rfl ⟨by omega, by omega⟩ (fun c136 => ?_) (fun c136 => by exfalso; omega)
        exact x_vret k178_108 rfl ⟨hG, f, rfl⟩
theorem C_X11_readWord_256 (s0 : xS) (hG0 : GI s0)  : xe none 178 0 (lv_args 0 [.ref 256]) [] s0 0 0 (fun s' v => GI s' ∧ FL [4133, 4134, 4135] s0 s' ∧ v = none) := by
  have f0 : FL [4133, 4134, 4135] s0 s0 := FL.rf
  show xe none 178 0 [(0, .ref 256)] [] s0 0 0 _
  refine x_A k178_0 (fun _ => rfl) ?_
  refine x_callV k178_1 (y := 176) (n := 0) (w0 := 0) (w1 := 0) (as := []) (rest := []) (by decide +kernel) (q := 256) (nq := 62) (kq := 15) ⟨by decide, rfl⟩ rfl rfl rfl rfl (xe_mono (C_X11_here_256 s0 hG0) ?_)
  rintro s138 v ⟨hG_s138, t_s138, z137, rfl, g_z137, xp_z137⟩
  have f_s138 : FL [4133, 4134, 4135] s0 s138 := f0.tr t_s138 (by decide)
  show xe none 178 4 [(0, .ref 256)] [vi z137] s138 0 0 _
  refine x_istore_n k178_4 (ls' := [(1, vi z137), (0, .ref 256)]) (by decide) rfl ?_
  refine x_A k178_5 (fun _ => rfl) ?_
  refine x_lconst k178_6 (z := 0) (by decide +kernel) ?_
  refine x_putJ k178_7 (f := 37) rfl (q := 256) (n := 62) (kd := 15) ⟨by decide, rfl⟩ rfl rfl rfl ?_
  refine x_nh (fun s139 e_s139 => ?_)
  have hG_s139 : GI s139 := by rw [e_s139]; exact hG_s138.up (show in64 0 from ⟨by omega, by omega⟩)
  have f_s139 : FL [4133, 4134, 4135] s0 s139 := by rw [e_s139]; exact f_s138.up (show 4134 ∈ [4133, 4134, 4135] from by decide)
  refine x_A k178_10 (fun _ => rfl) ?_
  refine x_A k178_11 (fun _ => rfl) ?_
  refine x_getI k178_12 (f := 36) rfl (q := 256) (n := 62) (kd := 15) ⟨by decide, rfl⟩ (by decide) rfl ?_
  refine x_top (fun z140 e_z140 => ?_)
  have g_z140 : (0 : Int) ≤ s139 256 36 ∧ s139 256 36 ≤ 160 := hG_s139 256 36
  refine x_putI k178_15 (f := 38) rfl (q := 256) (n := 62) (kd := 15) ⟨by decide, rfl⟩ rfl rfl rfl ?_
  refine x_nh (fun s141 e_s141 => ?_)
  have hG_s141 : GI s141 := by rw [e_s141]; exact hG_s139.up (show 0 ≤ z140 ∧ z140 ≤ 160 from ⟨by omega, by omega⟩)
  have f_s141 : FL [4133, 4134, 4135] s0 s141 := by rw [e_s141]; exact f_s139.up (show 4135 ∈ [4133, 4134, 4135] from by decide)
  have q142 : s141 256 36 = z140 := by rw [e_s141, x_up_i (by decide)]; exact e_z140.symm
  have q143 : s141 256 38 = z140 := by rw [e_s141]; exact x_up_same
  obtain ⟨z144, e_z144⟩ : ∃ z, z = s141 256 34 := ⟨_, rfl⟩
  have g_z144 : (0 : Int) ≤ s141 256 34 ∧ s141 256 34 ≤ 160 := hG_s141 256 34
  refine x_ls (l := [(0, .ref 256), (1, vi z137)]) (show ([0, 1] : List Nat).Nodup from by decide) ⟨rfl, rfl, trivial⟩ ?_
  exact L_C_X11_readWord_256_18 s0  (((160 - z140) + 1 : Int)).toNat s141 z137 z144 z140 hG_s141 f_s141 ⟨by omega, by omega⟩ ⟨by omega, by omega⟩ ⟨by omega, by omega⟩ (e_z144.symm).symm (q143).symm  (by omega)
theorem C_X11_needs_256 (s0 : xS) (hG0 : GI s0) (a : Int) (b_a : in64 a) : xe none 181 0 (lv_args 0 [.ref 256, vj a]) [] s0 0 0 (fun s' v => GI s' ∧ FL [4133, 4134, 4135, 4132] s0 s' ∧ ∃ z, v = some (vi z) ∧ ((-2147483648) ≤ z ∧ z ≤ 2147483647)) := by
  have f0 : FL [4133, 4134, 4135, 4132] s0 s0 := FL.rf
  show xe none 181 0 [(0, .ref 256), (1, vj a)] [] s0 0 0 _
  refine x_A k181_0 (fun _ => rfl) ?_
  refine x_callV k181_1 (y := 178) (n := 0) (w0 := 0) (w1 := 0) (as := []) (rest := []) (by decide +kernel) (q := 256) (nq := 62) (kq := 15) ⟨by decide, rfl⟩ rfl rfl rfl rfl (xe_mono (C_X11_readWord_256 s0 hG0) ?_)
  rintro s2 v ⟨hG_s2, t_s2, rfl⟩
  have f_s2 : FL [4133, 4134, 4135, 4132] s0 s2 := f0.tr t_s2 (by decide)
  show xe none 181 4 [(0, .ref 256), (1, vj a)] [] s2 0 0 _
  refine x_A k181_4 (fun _ => rfl) ?_
  refine x_getJ k181_5 (f := 37) rfl (q := 256) (n := 62) (kd := 15) ⟨by decide, rfl⟩ (by decide) rfl ?_
  refine x_topL (fun z3 e_z3 => ?_)
  have b_z3 : in64 z3 := by rw [e_z3]; exact hG_s2 256 37
  refine x_A k181_8 (fun _ => rfl) ?_
  refine x_lc_eq k181_9 k181_10 (t := 23) rfl b_z3 b_a (fun c4 => ?_) (fun c4 => ?_)
  · skip
    refine x_A k181_23 (fun _ => rfl) ?_
    refine x_A k181_24 (fun _ => rfl) ?_
    refine x_getI k181_25 (f := 38) rfl (q := 256) (n := 62) (kd := 15) ⟨by decide, rfl⟩ (by decide) rfl ?_
    refine x_top (fun z5 e_z5 => ?_)
    have g_z5 : (0 : Int) ≤ s2 256 38 ∧ s2 256 38 ≤ 160 := hG_s2 256 38
    refine x_putI k181_28 (f := 36) rfl (q := 256) (n := 62) (kd := 15) ⟨by decide, rfl⟩ rfl rfl rfl ?_
    refine x_nh (fun s6 e_s6 => ?_)
    have hG_s6 : GI s6 := by rw [e_s6]; exact hG_s2.up (show 0 ≤ z5 ∧ z5 ≤ 160 from ⟨by omega, by omega⟩)
    have f_s6 : FL [4133, 4134, 4135, 4132] s0 s6 := by rw [e_s6]; exact f_s2.up (show 4133 ∈ [4133, 4134, 4135, 4132] from by decide)
    have q7 : s6 256 38 = z5 := by rw [e_s6, x_up_i (by decide)]; exact e_z5.symm
    have q8 : s6 256 36 = z5 := by rw [e_s6]; exact x_up_same
    refine x_A k181_31 (fun _ => rfl) ?_
    exact x_iret k181_32 rfl ⟨hG_s6, f_s6, 0, rfl, ⟨by omega, by omega⟩⟩
  · skip
    refine x_A k181_13 (fun _ => rfl) ?_
    refine x_A k181_14 (fun _ => rfl) ?_
    refine x_A k181_15 (fun _ => rfl) ?_
    refine x_getI k181_16 (f := 36) rfl (q := 256) (n := 62) (kd := 15) ⟨by decide, rfl⟩ (by decide) rfl ?_
    refine x_top (fun z9 e_z9 => ?_)
    have g_z9 : (0 : Int) ≤ s2 256 36 ∧ s2 256 36 ≤ 160 := hG_s2 256 36
    refine x_callV k181_19 (y := 177) (n := 2) (w0 := 0) (w1 := 2) (as := [vi 1, vi z9]) (rest := []) (by decide +kernel) (q := 256) (nq := 62) (kq := 15) ⟨by decide, rfl⟩ rfl rfl rfl rfl (xe_mono (C_X11_fails_256 s2 hG_s2 1 ⟨by omega, by omega⟩ z9 ⟨by omega, by omega⟩) ?_)
    rintro s11 v ⟨hG_s11, t_s11, z10, rfl, g_z10⟩
    have f_s11 : FL [4133, 4134, 4135, 4132] s0 s11 := f_s2.tr t_s11 (by decide)
    have q12 : s11 256 36 = z9 := (t_s11 256 36 (show 4133 ∉ [4132] from by decide)).trans e_z9.symm
    show xe none 181 22 [(0, .ref 256), (1, vj a)] [vi z10] s11 0 0 _
    exact x_iret k181_22 rfl ⟨hG_s11, f_s11, z10, rfl, ⟨by omega, by omega⟩⟩
theorem L_C_X11_feed_256_37 (s0 : xS)  : ∀ (n : Nat) (s : xS) (x1 : Int) (x2 : Int) (x4 : Int) (x1000 : Int) (hG : GI s) (f : FL [4131, 5824] s0 s) (b_x1 : 1 ≤ x1 ∧ x1 ≤ 8) (b_x2 : in64 x2) (b_x4 : (-1) ≤ x4 ∧ x4 ≤ 7) (b_x1000 : 0 ≤ x1000 ∧ x1000 ≤ 160) (r_4_1 : x4 ≤ x1 + 0) (w_0 : x1000 + x4 ≤ 159) (e_x1000 : x1000 = s 256 34)  (hm : (x4 - (-1)) < (n : Int)), xe none 175 37 [(0, .ref 256), (1, vi x1), (2, vj x2), (4, vi x4)] [] s 0 0 (fun s' v => GI s' ∧ FL [4131, 5824] s0 s' ∧ ∃ z, v = some (vi z) ∧ ((-1004) ≤ z ∧ z ≤ 160)) := by
  intro n
  induction n with
  | zero => intro s x1 x2 x4 x1000 hG f b_x1 b_x2 b_x4 b_x1000 r_4_1 w_0 e_x1000  hm; exfalso; omega
  | succ n ih =>
    intro s x1 x2 x4 x1000 hG f b_x1 b_x2 b_x4 b_x1000 r_4_1 w_0 e_x1000  hm
    refine x_A k175_37 (fun _ => rfl) ?_
    refine x_if_lt k175_39 (t := 79) rfl ⟨by omega, by omega⟩ (fun c50 => ?_) (fun c50 => ?_)
    · skip
      refine x_A k175_79 (fun _ => rfl) ?_
      refine x_getI k175_80 (f := 34) rfl (q := 256) (n := 62) (kd := 15) ⟨by decide, rfl⟩ (by decide) rfl ?_
      rw [e_x1000.symm]
      exact x_iret k175_83 rfl ⟨hG, f, x1000, rfl, ⟨by omega, by omega⟩⟩
    · skip
      refine x_A k175_42 (fun _ => rfl) ?_
      refine x_getR k175_43 (f := 33) rfl (q := 256) (n := 62) (kd := 15) ⟨by decide, rfl⟩ (q2 := 283) (by decide) rfl ?_
      refine x_A k175_46 (fun _ => rfl) ?_
      refine x_getI k175_47 (f := 34) rfl (q := 256) (n := 62) (kd := 15) ⟨by decide, rfl⟩ (by decide) rfl ?_
      rw [e_x1000.symm]
      refine x_A k175_50 (fun _ => rfl) ?_
      refine x_bipush k175_51 (by decide +kernel) ?_
      refine x_A k175_53 (fun _ => rfl) ?_
      refine x_imul k175_55 ?_
      refine x_top (fun z51 e_z51 => ?_)
      refine x_lshr_any k175_56 (fun z52 b_z52 => ?_)
      refine x_ldc2 k175_57 (z := 255) rfl (by decide +kernel) ?_
      refine x_land_mask k175_60 ⟨by omega, by omega⟩ (fun z53 g_z53 => ?_)
      refine x_l2i k175_61 ⟨by omega, by omega⟩ ?_
      refine x_iast k175_62 (q := 283) (n := 160) ⟨by decide, rfl⟩ (by decide) ⟨by omega, by omega⟩ ?_
      refine x_nh (fun s54 e_s54 => ?_)
      have hG_s54 : GI s54 := by rw [e_s54]; exact hG.up (show 0 ≤ z53 ∧ z53 ≤ 255 from ⟨by omega, by omega⟩)
      have f_s54 : FL [4131, 5824] s0 s54 := by rw [e_s54]; exact f.up (show 5824 ∈ [4131, 5824] from by decide)
      have q55 : s54 256 34 = x1000 := by rw [e_s54, x_up_q (by decide)]; exact e_x1000.symm
      have q56 : s54 283 x1000.toNat = z53 := by rw [e_s54]; exact x_up_same
      refine x_A k175_63 (fun _ => rfl) ?_
      refine x_A k175_64 (fun _ => rfl) ?_
      refine x_getI k175_65 (f := 34) rfl (q := 256) (n := 62) (kd := 15) ⟨by decide, rfl⟩ (by decide) rfl ?_
      rw [q55]
      refine x_A k175_68 (fun _ => rfl) ?_
      refine x_iadd k175_69 ?_
      refine x_top (fun z57 e_z57 => ?_)
      refine x_putI k175_70 (f := 34) rfl (q := 256) (n := 62) (kd := 15) ⟨by decide, rfl⟩ rfl rfl rfl ?_
      refine x_nh (fun s58 e_s58 => ?_)
      have hG_s58 : GI s58 := by rw [e_s58]; exact hG_s54.up (show 0 ≤ z57 ∧ z57 ≤ 160 from ⟨by omega, by omega⟩)
      have f_s58 : FL [4131, 5824] s0 s58 := by rw [e_s58]; exact f_s54.up (show 4131 ∈ [4131, 5824] from by decide)
      have q59 : s58 256 34 = z57 := by rw [e_s58]; exact x_up_same
      have q60 : s58 283 x1000.toNat = z53 := by rw [e_s58, x_up_q (by omega)]; exact q56
      refine x_iinc k175_73 (ls' := [(4, vi (x4 + (-1))), (0, .ref 256), (1, vi x1), (2, vj x2)]) rfl (by decide) rfl ?_
      refine x_goto k175_76 (t := 37) rfl ?_
      refine x_ls (l := [(0, .ref 256), (1, vi x1), (2, vj x2), (4, vi (x4 + (-1)))]) (show ([0, 1, 2, 4] : List Nat).Nodup from by decide) ⟨rfl, rfl, rfl, rfl, trivial⟩ ?_
      exact ih s58 x1 x2 (x4 + (-1)) z57 hG_s58 f_s58 ⟨by omega, by omega⟩ b_x2 ⟨by omega, by omega⟩ ⟨by omega, by omega⟩ (by omega) (by omega) (q59).symm  (by omega)
theorem C_X11_feed_256 (s0 : xS) (hG0 : GI s0) (a : Int) (b_a : (-2147483648) ≤ a ∧ a ≤ 2147483647) (b : Int) (b_b : in64 b) : xe none 175 0 (lv_args 0 [.ref 256, vi a, vj b]) [] s0 0 0 (fun s' v => GI s' ∧ FL [4131, 5824] s0 s' ∧ ∃ z, v = some (vi z) ∧ ((-1004) ≤ z ∧ z ≤ 160)) := by
  have f0 : FL [4131, 5824] s0 s0 := FL.rf
  show xe none 175 0 [(0, .ref 256), (1, vi a), (2, vj b)] [] s0 0 0 _
  refine x_A k175_0 (fun _ => rfl) ?_
  refine x_i2l k175_1 ⟨by omega, by omega⟩ ?_
  refine x_lconst k175_2 (z := 1) (by decide +kernel) ?_
  refine x_ldc2 k175_3 (z := 8) rfl (by decide +kernel) ?_
  refine x_callS k175_6 (y := 136) (n := 3) (w0 := 0) (w1 := 6) (as := [vj a, vj 1, vj 8]) (rest := []) (by decide +kernel) rfl rfl rfl rfl (xe_mono (C_X11_in s0 hG0 a ⟨by omega, by omega⟩ 1 ⟨by omega, by omega⟩ 8 ⟨by omega, by omega⟩) ?_)
  rintro s62 v ⟨h_s62, z61, rfl, hz_z61⟩
  rw [h_s62]
  rcases hz_z61 with ⟨c_z61, e_z61⟩ | ⟨c_z61, e_z61⟩
  · rw [e_z61]
    show xe none 175 9 [(0, .ref 256), (1, vi a), (2, vj b)] [vi 1] s0 0 0 _
    refine x_if_ne k175_9 (t := 16) rfl ⟨by omega, by omega⟩ (fun c63 => ?_) (fun c63 => by exfalso; omega)
    refine x_A k175_16 (fun _ => rfl) ?_
    refine x_getI k175_17 (f := 34) rfl (q := 256) (n := 62) (kd := 15) ⟨by decide, rfl⟩ (by decide) rfl ?_
    refine x_top (fun z64 e_z64 => ?_)
    have g_z64 : (0 : Int) ≤ s0 256 34 ∧ s0 256 34 ≤ 160 := hG0 256 34
    refine x_A k175_20 (fun _ => rfl) ?_
    refine x_iadd k175_21 ?_
    refine x_top (fun z65 e_z65 => ?_)
    refine x_sipush k175_22 (by decide +kernel) ?_
    refine x_ic_le k175_25 (t := 32) rfl ⟨by omega, by omega⟩ ⟨by omega, by omega⟩ (fun c66 => ?_) (fun c66 => ?_)
    · skip
      refine x_A k175_32 (fun _ => rfl) ?_
      refine x_A k175_33 (fun _ => rfl) ?_
      refine x_isub k175_34 ?_
      refine x_top (fun z67 e_z67 => ?_)
      refine x_istore k175_35 (ls' := [(4, vi z67), (0, .ref 256), (1, vi a), (2, vj b)]) (by decide) rfl ?_
      refine x_ls (l := [(0, .ref 256), (1, vi a), (2, vj b), (4, vi z67)]) (show ([0, 1, 2, 4] : List Nat).Nodup from by decide) ⟨rfl, rfl, rfl, rfl, trivial⟩ ?_
      exact L_C_X11_feed_256_37 s0  (((z67 - (-1)) + 1 : Int)).toNat s0 a b z67 z64 hG0 f0 ⟨by omega, by omega⟩ b_b ⟨by omega, by omega⟩ ⟨by omega, by omega⟩ (by omega) (by omega) (e_z64.symm).symm  (by omega)
    · skip
      refine x_sipush k175_28 (by decide +kernel) ?_
      exact x_iret k175_31 rfl ⟨hG0, f0, (-1004), rfl, ⟨by omega, by omega⟩⟩
  · rw [e_z61]
    show xe none 175 9 [(0, .ref 256), (1, vi a), (2, vj b)] [vi 0] s0 0 0 _
    refine x_if_ne k175_9 (t := 16) rfl ⟨by omega, by omega⟩ (fun c68 => by exfalso; omega) (fun c68 => ?_)
    refine x_sipush k175_12 (by decide +kernel) ?_
    exact x_iret k175_15 rfl ⟨hG0, f0, (-1002), rfl, ⟨by omega, by omega⟩⟩
