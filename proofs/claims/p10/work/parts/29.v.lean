theorem L_C_X11_here_256_0 (s0 : xS)   : ∀ (n : Nat) (s : xS) (x1000 : Int) (x1001 : Int) (hG : GI s) (f : FL [4133] s0 s) (b_x1000 : 0 ≤ x1000 ∧ x1000 ≤ 160) (b_x1001 : 0 ≤ x1001 ∧ x1001 ≤ 160) (w_0 : s0 256 36 ≤ x1000) (w_1 : s0 256 36 ≤ x1001 → x1000 ≤ x1001) (e_x1000 : x1000 = s 256 36) (e_x1001 : x1001 = s 256 34)  (hm : (160 - x1000) < (n : Int)), xe none 176 0 [(0, .ref 256)] [] s 0 0 (fun s' v => GI s' ∧ FL [4133] s0 s' ∧ ∃ z, v = some (vi z) ∧ ((-1) ≤ z ∧ z ≤ 255) ∧ ((0 ≤ z → s' 256 36 < s' 256 34) ∧ s0 256 36 ≤ s' 256 36 ∧ (s0 256 36 ≤ s' 256 34 → s' 256 36 ≤ s' 256 34))) := by
  intro n
  induction n with
  | zero => intro s x1000 x1001 hG f b_x1000 b_x1001 w_0 w_1 e_x1000 e_x1001  hm; exfalso; omega
  | succ n ih =>
    intro s x1000 x1001 hG f b_x1000 b_x1001 w_0 w_1 e_x1000 e_x1001  hm
    refine x_A k176_0 (fun _ => rfl) ?_
    refine x_getI k176_1 (f := 36) rfl (q := 256) (n := 62) (kd := 15) ⟨by decide, rfl⟩ (by decide) rfl ?_
    rw [e_x1000.symm]
    refine x_A k176_4 (fun _ => rfl) ?_
    refine x_getI k176_5 (f := 34) rfl (q := 256) (n := 62) (kd := 15) ⟨by decide, rfl⟩ (by decide) rfl ?_
    rw [e_x1001.symm]
    refine x_ic_ge k176_8 (t := 38) rfl (by first | exact x_rb b_x1000 rfl rfl | exact ⟨by omega, by omega⟩) (by first | exact x_rb b_x1001 rfl rfl | exact ⟨by omega, by omega⟩) (fun c35 => ?_) (fun c35 => ?_)
    · skip
      refine x_A k176_38 (fun _ => rfl) ?_
      refine x_getI k176_39 (f := 36) rfl (q := 256) (n := 62) (kd := 15) ⟨by decide, rfl⟩ (by decide) rfl ?_
      rw [e_x1000.symm]
      refine x_A k176_42 (fun _ => rfl) ?_
      refine x_getI k176_43 (f := 34) rfl (q := 256) (n := 62) (kd := 15) ⟨by decide, rfl⟩ (by decide) rfl ?_
      rw [e_x1001.symm]
      refine x_ic_ge k176_46 (t := 61) rfl (by first | exact x_rb b_x1000 rfl rfl | exact ⟨by omega, by omega⟩) (by first | exact x_rb b_x1001 rfl rfl | exact ⟨by omega, by omega⟩) (fun c36 => ?_) (fun c36 => by exfalso; omega)
      refine x_A k176_61 (fun _ => rfl) ?_
      exact x_iret k176_62 rfl ⟨hG, f, (-1), rfl, ⟨by decide, by decide⟩, by omega⟩
    · skip
      refine x_A k176_11 (fun _ => rfl) ?_
      refine x_getR k176_12 (f := 33) rfl (q := 256) (n := 62) (kd := 15) ⟨by decide, rfl⟩ (q2 := 283) (by decide) rfl ?_
      refine x_A k176_15 (fun _ => rfl) ?_
      refine x_getI k176_16 (f := 36) rfl (q := 256) (n := 62) (kd := 15) ⟨by decide, rfl⟩ (by decide) rfl ?_
      rw [e_x1000.symm]
      refine x_iald k176_19 (q := 283) (n := 160) ⟨by decide, rfl⟩ (by decide) (by first | exact x_rbl b_x1000 rfl rfl | exact ⟨by omega, by omega⟩) ?_
      refine x_top (fun z37 e_z37 => ?_)
      have g_z37 : (0 : Int) ≤ s 283 x1000.toNat ∧ s 283 x1000.toNat ≤ 255 := hG 283 x1000.toNat
      refine x_bipush k176_20 (by decide +kernel) ?_
      refine x_ic_ne k176_22 (t := 38) rfl (by first | exact x_rbe e_z37 g_z37 rfl rfl | exact x_rb g_z37 rfl rfl | exact ⟨by omega, by omega⟩) ⟨by decide, by decide⟩ (fun c38 => ?_) (fun c38 => ?_)
      · skip
        refine x_A k176_38 (fun _ => rfl) ?_
        refine x_getI k176_39 (f := 36) rfl (q := 256) (n := 62) (kd := 15) ⟨by decide, rfl⟩ (by decide) rfl ?_
        rw [e_x1000.symm]
        refine x_A k176_42 (fun _ => rfl) ?_
        refine x_getI k176_43 (f := 34) rfl (q := 256) (n := 62) (kd := 15) ⟨by decide, rfl⟩ (by decide) rfl ?_
        rw [e_x1001.symm]
        refine x_ic_ge k176_46 (t := 61) rfl (by first | exact x_rb b_x1000 rfl rfl | exact ⟨by omega, by omega⟩) (by first | exact x_rb b_x1001 rfl rfl | exact ⟨by omega, by omega⟩) (fun c39 => by exfalso; omega) (fun c39 => ?_)
        refine x_A k176_49 (fun _ => rfl) ?_
        refine x_getR k176_50 (f := 33) rfl (q := 256) (n := 62) (kd := 15) ⟨by decide, rfl⟩ (q2 := 283) (by decide) rfl ?_
        refine x_A k176_53 (fun _ => rfl) ?_
        refine x_getI k176_54 (f := 36) rfl (q := 256) (n := 62) (kd := 15) ⟨by decide, rfl⟩ (by decide) rfl ?_
        rw [e_x1000.symm]
        refine x_iald k176_57 (q := 283) (n := 160) ⟨by decide, rfl⟩ (by decide) (by first | exact x_rbl b_x1000 rfl rfl | exact ⟨by omega, by omega⟩) ?_
        rw [e_z37.symm]
        refine x_goto k176_58 (t := 62) rfl ?_
        exact x_iret k176_62 rfl ⟨hG, f, z37, rfl, (by first | exact x_rbe e_z37 g_z37 rfl rfl | exact x_rb g_z37 rfl rfl | exact ⟨by omega, by omega⟩), by omega⟩
      · skip
        refine x_A k176_25 (fun _ => rfl) ?_
        refine x_A k176_26 (fun _ => rfl) ?_
        refine x_getI k176_27 (f := 36) rfl (q := 256) (n := 62) (kd := 15) ⟨by decide, rfl⟩ (by decide) rfl ?_
        rw [e_x1000.symm]
        refine x_A k176_30 (fun _ => rfl) ?_
        refine x_iadd k176_31 ?_
        refine x_top (fun z40 e_z40 => ?_)
        refine x_putI k176_32 (f := 36) rfl (q := 256) (n := 62) (kd := 15) ⟨by decide, rfl⟩ rfl rfl rfl ?_
        refine x_nh (fun s41 e_s41 => ?_)
        have hG_s41 : GI s41 := by rw [e_s41]; exact hG.up (show 0 ≤ z40 ∧ z40 ≤ 160 from (by first | exact x_rbe e_z40 g_z40 rfl rfl | exact x_rb g_z40 rfl rfl | exact ⟨by omega, by omega⟩))
        have f_s41 : FL [4133] s0 s41 := by rw [e_s41]; exact f.up (show 4133 ∈ [4133] from by decide +kernel)
        have q42 : s41 256 34 = x1001 := by rw [e_s41, x_up_i (by decide)]; exact e_x1001.symm
        have q43 : s41 256 36 = z40 := by rw [e_s41]; exact x_up_same
        have q44 : s41 283 x1000.toNat = z37 := by rw [e_s41, x_up_q (by first | decide | omega)]; exact e_z37.symm
        refine x_goto k176_35 (t := 0) rfl ?_
        refine x_ls (l := [(0, .ref 256)]) (show ([0] : List Nat).Nodup from by decide +kernel) ⟨rfl, trivial⟩ ?_
        exact ih s41 z40 x1001 hG_s41 f_s41 (by first | exact x_rbe e_z40 g_z40 rfl rfl | exact x_rb g_z40 rfl rfl | exact ⟨by omega, by omega⟩) (by first | exact x_rb b_x1001 rfl rfl | exact ⟨by omega, by omega⟩) (by omega) (by omega) (q43).symm (q42).symm  (by omega)
theorem C_X11_here_256 (s0 : xS) (hG0 : GI s0)  : xe none 176 0 (lv_args 0 [.ref 256]) [] s0 0 0 (fun s' v => GI s' ∧ FL [4133] s0 s' ∧ ∃ z, v = some (vi z) ∧ ((-1) ≤ z ∧ z ≤ 255) ∧ ((0 ≤ z → s' 256 36 < s' 256 34) ∧ s0 256 36 ≤ s' 256 36 ∧ (s0 256 36 ≤ s' 256 34 → s' 256 36 ≤ s' 256 34))) := by
  have f0 : FL [4133] s0 s0 := FL.rf
  show xe none 176 0 [(0, .ref 256)] [] s0 0 0 _
  obtain ⟨z45, e_z45⟩ : ∃ z, z = s0 256 36 := ⟨_, rfl⟩
  have g_z45 : (0 : Int) ≤ s0 256 36 ∧ s0 256 36 ≤ 160 := hG0 256 36
  obtain ⟨z46, e_z46⟩ : ∃ z, z = s0 256 34 := ⟨_, rfl⟩
  have g_z46 : (0 : Int) ≤ s0 256 34 ∧ s0 256 34 ≤ 160 := hG0 256 34
  refine x_ls (l := [(0, .ref 256)]) (show ([0] : List Nat).Nodup from by decide +kernel) ⟨rfl, trivial⟩ ?_
  exact L_C_X11_here_256_0 s0   (((160 - z45) + 1 : Int)).toNat s0 z45 z46 hG0 f0 (by first | exact x_rbe e_z45 g_z45 rfl rfl | exact x_rb g_z45 rfl rfl | exact ⟨by omega, by omega⟩) (by first | exact x_rbe e_z46 g_z46 rfl rfl | exact x_rb g_z46 rfl rfl | exact ⟨by omega, by omega⟩) (by omega) (by omega) (e_z45.symm).symm (e_z46.symm).symm  (by omega)
theorem L_C_X11_readWord_256_18 (s0 : xS)   : ∀ (n : Nat) (s : xS) (x1 : Int) (x1000 : Int) (x1001 : Int) (x1002 : Int) (hG : GI s) (f : FL [4133, 4134, 4135] s0 s) (b_x1 : (-1) ≤ x1 ∧ x1 ≤ 255) (b_x1000 : 0 ≤ x1000 ∧ x1000 ≤ 160) (b_x1001 : 0 ≤ x1001 ∧ x1001 ≤ 160) (b_x1002 : 0 ≤ x1002 ∧ x1002 ≤ 160) (r_1000_1002 : x1000 ≤ x1002 + 0) (w_0 : s0 256 36 ≤ x1000) (w_1 : s0 256 36 ≤ x1001 → x1002 ≤ x1001) (w_2 : x1000 ≤ x1002) (w_3 : s 256 37 ≠ 0 → x1000 < x1002) (e_x1000 : x1000 = s 256 36) (e_x1001 : x1001 = s 256 34) (e_x1002 : x1002 = s 256 38)  (hm : (160 - x1002) < (n : Int)), xe none 178 18 [(0, .ref 256), (1, vi x1)] [] s 0 0 (fun s' v => GI s' ∧ FL [4133, 4134, 4135] s0 s' ∧ v = none ∧ (s0 256 36 ≤ s' 256 36 ∧ (s0 256 36 ≤ s' 256 34 → s' 256 38 ≤ s' 256 34) ∧ s' 256 36 ≤ s' 256 38 ∧ (s' 256 37 ≠ 0 → s' 256 36 < s' 256 38))) := by
  intro n
  induction n with
  | zero => intro s x1 x1000 x1001 x1002 hG f b_x1 b_x1000 b_x1001 b_x1002 r_1000_1002 w_0 w_1 w_2 w_3 e_x1000 e_x1001 e_x1002  hm; exfalso; omega
  | succ n ih =>
    intro s x1 x1000 x1001 x1002 hG f b_x1 b_x1000 b_x1001 b_x1002 r_1000_1002 w_0 w_1 w_2 w_3 e_x1000 e_x1001 e_x1002  hm
    refine x_A k178_18 (fun _ => rfl) ?_
    refine x_getI k178_19 (f := 38) rfl (q := 256) (n := 62) (kd := 15) ⟨by decide, rfl⟩ (by decide) rfl ?_
    rw [e_x1002.symm]
    refine x_A k178_22 (fun _ => rfl) ?_
    refine x_getI k178_23 (f := 34) rfl (q := 256) (n := 62) (kd := 15) ⟨by decide, rfl⟩ (by decide) rfl ?_
    rw [e_x1001.symm]
    refine x_ic_ge k178_26 (t := 108) rfl (by first | exact x_rb b_x1002 rfl rfl | exact ⟨by omega, by omega⟩) (by first | exact x_rb b_x1001 rfl rfl | exact ⟨by omega, by omega⟩) (fun c141 => ?_) (fun c141 => ?_)
    · skip
      exact x_vret k178_108 rfl ⟨hG, f, rfl, by omega⟩
    · skip
      refine x_A k178_29 (fun _ => rfl) ?_
      refine x_getR k178_30 (f := 33) rfl (q := 256) (n := 62) (kd := 15) ⟨by decide, rfl⟩ (q2 := 283) (by decide) rfl ?_
      refine x_A k178_33 (fun _ => rfl) ?_
      refine x_getI k178_34 (f := 38) rfl (q := 256) (n := 62) (kd := 15) ⟨by decide, rfl⟩ (by decide) rfl ?_
      rw [e_x1002.symm]
      refine x_iald k178_37 (q := 283) (n := 160) ⟨by decide, rfl⟩ (by decide) (by first | exact x_rbl b_x1002 rfl rfl | exact ⟨by omega, by omega⟩) ?_
      refine x_top (fun z142 e_z142 => ?_)
      have g_z142 : (0 : Int) ≤ s 283 x1002.toNat ∧ s 283 x1002.toNat ≤ 255 := hG 283 x1002.toNat
      refine x_i2l k178_38 (by first | exact x_rbe e_z142 g_z142 rfl rfl | exact x_rb g_z142 rfl rfl | exact ⟨by omega, by omega⟩) ?_
      refine x_ldc2 k178_39 (z := 97) rfl (by decide +kernel) ?_
      refine x_ldc2 k178_42 (z := 122) rfl (by decide +kernel) ?_
      refine x_callS k178_45 (y := 136) (n := 3) (w0 := 0) (w1 := 6) (as := [vj z142, vj 97, vj 122]) (rest := []) (by decide +kernel) rfl rfl rfl rfl (xe_mono (C_X11_in s hG z142 ⟨by omega, by omega⟩ 97 ⟨by omega, by omega⟩ 122 ⟨by omega, by omega⟩) ?_)
      rintro s144 v ⟨h_s144, z143, rfl, hz_z143⟩
      rw [h_s144]
      rcases hz_z143 with ⟨c_z143, e_z143⟩ | ⟨c_z143, e_z143⟩
      · rw [e_z143]
        show xe none 178 48 [(0, .ref 256), (1, vi x1)] [vi 1] s 0 0 _
        refine x_if_eq k178_48 (t := 108) rfl ⟨by decide, by decide⟩ (fun c145 => by exfalso; omega) (fun c145 => ?_)
        refine x_A k178_51 (fun _ => rfl) ?_
        refine x_A k178_52 (fun _ => rfl) ?_
        refine x_getJ k178_53 (f := 37) rfl (q := 256) (n := 62) (kd := 15) ⟨by decide, rfl⟩ (by decide) rfl ?_
        refine x_topL (fun z146 e_z146 => ?_)
        have b_z146 : in64 z146 := by rw [e_z146]; exact hG 256 37
        refine x_ldc2 k178_56 (z := 10000000000) rfl (by decide +kernel) ?_
        refine x_lc_le k178_59 k178_60 (t := 69) rfl b_z146 ⟨by omega, by omega⟩ (fun c147 => ?_) (fun c147 => ?_)
        · skip
          refine x_ldc2 k178_69 (z := 27) rfl (by decide +kernel) ?_
          refine x_A k178_72 (fun _ => rfl) ?_
          refine x_getJ k178_73 (f := 37) rfl (q := 256) (n := 62) (kd := 15) ⟨by decide, rfl⟩ (by decide) rfl ?_
          refine x_topL (fun z148 e_z148 => ?_)
          have b_z148 : in64 z148 := by rw [e_z148]; exact hG 256 37
          refine x_lmul_any k178_76 (fun z149 b_z149 => ?_)
          refine x_A k178_77 (fun _ => rfl) ?_
          refine x_getR k178_78 (f := 33) rfl (q := 256) (n := 62) (kd := 15) ⟨by decide, rfl⟩ (q2 := 283) (by decide) rfl ?_
          refine x_A k178_81 (fun _ => rfl) ?_
          refine x_getI k178_82 (f := 38) rfl (q := 256) (n := 62) (kd := 15) ⟨by decide, rfl⟩ (by decide) rfl ?_
          rw [e_x1002.symm]
          refine x_iald k178_85 (q := 283) (n := 160) ⟨by decide, rfl⟩ (by decide) (by first | exact x_rbl b_x1002 rfl rfl | exact ⟨by omega, by omega⟩) ?_
          rw [e_z142.symm]
          refine x_i2l k178_86 (by first | exact x_rbe e_z142 g_z142 rfl rfl | exact x_rb g_z142 rfl rfl | exact ⟨by omega, by omega⟩) ?_
          refine x_ladd_any k178_87 (fun z150 b_z150 => ?_)
          refine x_ldc2 k178_88 (z := 96) rfl (by decide +kernel) ?_
          refine x_lsub_any k178_91 (fun z151 b_z151 => ?_)
          refine x_putJ k178_92 (f := 37) rfl (q := 256) (n := 62) (kd := 15) ⟨by decide, rfl⟩ rfl rfl rfl ?_
          refine x_nh (fun s152 e_s152 => ?_)
          have hG_s152 : GI s152 := by rw [e_s152]; exact hG.up (show in64 z151 from b_z151)
          have f_s152 : FL [4133, 4134, 4135] s0 s152 := by rw [e_s152]; exact f.up (show 4134 ∈ [4133, 4134, 4135] from by decide +kernel)
          have q153 : s152 256 36 = x1000 := by rw [e_s152, x_up_i (by decide)]; exact e_x1000.symm
          have q154 : s152 256 34 = x1001 := by rw [e_s152, x_up_i (by decide)]; exact e_x1001.symm
          have q155 : s152 256 38 = x1002 := by rw [e_s152, x_up_i (by decide)]; exact e_x1002.symm
          have q156 : s152 256 37 = z151 := by rw [e_s152]; exact x_up_same
          have q157 : s152 283 x1002.toNat = z142 := by rw [e_s152, x_up_q (by first | decide | omega)]; exact e_z142.symm
          refine x_A k178_95 (fun _ => rfl) ?_
          refine x_A k178_96 (fun _ => rfl) ?_
          refine x_getI k178_97 (f := 38) rfl (q := 256) (n := 62) (kd := 15) ⟨by decide, rfl⟩ (by decide) rfl ?_
          rw [q155]
          refine x_A k178_100 (fun _ => rfl) ?_
          refine x_iadd k178_101 ?_
          refine x_top (fun z158 e_z158 => ?_)
          refine x_putI k178_102 (f := 38) rfl (q := 256) (n := 62) (kd := 15) ⟨by decide, rfl⟩ rfl rfl rfl ?_
          refine x_nh (fun s159 e_s159 => ?_)
          have hG_s159 : GI s159 := by rw [e_s159]; exact hG_s152.up (show 0 ≤ z158 ∧ z158 ≤ 160 from (by first | exact x_rbe e_z158 g_z158 rfl rfl | exact x_rb g_z158 rfl rfl | exact ⟨by omega, by omega⟩))
          have f_s159 : FL [4133, 4134, 4135] s0 s159 := by rw [e_s159]; exact f_s152.up (show 4135 ∈ [4133, 4134, 4135] from by decide +kernel)
          have q160 : s159 256 36 = x1000 := by rw [e_s159, x_up_i (by decide)]; exact q153
          have q161 : s159 256 34 = x1001 := by rw [e_s159, x_up_i (by decide)]; exact q154
          have q162 : s159 256 37 = z151 := by rw [e_s159, x_up_i (by decide)]; exact q156
          have q163 : s159 256 38 = z158 := by rw [e_s159]; exact x_up_same
          have q164 : s159 283 x1002.toNat = z142 := by rw [e_s159, x_up_q (by first | decide | omega)]; exact q157
          refine x_goto k178_105 (t := 18) rfl ?_
          refine x_ls (l := [(0, .ref 256), (1, vi x1)]) (show ([0, 1] : List Nat).Nodup from by decide +kernel) ⟨rfl, rfl, trivial⟩ ?_
          exact ih s159 x1 x1000 x1001 z158 hG_s159 f_s159 (by first | exact x_rb b_x1 rfl rfl | exact ⟨by omega, by omega⟩) (by first | exact x_rb b_x1000 rfl rfl | exact ⟨by omega, by omega⟩) (by first | exact x_rb b_x1001 rfl rfl | exact ⟨by omega, by omega⟩) (by first | exact x_rbe e_z158 g_z158 rfl rfl | exact x_rb g_z158 rfl rfl | exact ⟨by omega, by omega⟩) (by omega) (by omega) (by omega) (by omega) (by omega) (q160).symm (q161).symm (q163).symm  (by omega)
        · skip
          refine x_ldc2 k178_63 (z := 20000000000) rfl (by decide +kernel) ?_
          refine x_goto k178_66 (t := 92) rfl ?_
          refine x_putJ k178_92 (f := 37) rfl (q := 256) (n := 62) (kd := 15) ⟨by decide, rfl⟩ rfl rfl rfl ?_
          refine x_nh (fun s165 e_s165 => ?_)
          have hG_s165 : GI s165 := by rw [e_s165]; exact hG.up (show in64 20000000000 from ⟨by omega, by omega⟩)
          have f_s165 : FL [4133, 4134, 4135] s0 s165 := by rw [e_s165]; exact f.up (show 4134 ∈ [4133, 4134, 4135] from by decide +kernel)
          have q166 : s165 256 36 = x1000 := by rw [e_s165, x_up_i (by decide)]; exact e_x1000.symm
          have q167 : s165 256 34 = x1001 := by rw [e_s165, x_up_i (by decide)]; exact e_x1001.symm
          have q168 : s165 256 38 = x1002 := by rw [e_s165, x_up_i (by decide)]; exact e_x1002.symm
          have q169 : s165 256 37 = 20000000000 := by rw [e_s165]; exact x_up_same
          have q170 : s165 283 x1002.toNat = z142 := by rw [e_s165, x_up_q (by first | decide | omega)]; exact e_z142.symm
          refine x_A k178_95 (fun _ => rfl) ?_
          refine x_A k178_96 (fun _ => rfl) ?_
          refine x_getI k178_97 (f := 38) rfl (q := 256) (n := 62) (kd := 15) ⟨by decide, rfl⟩ (by decide) rfl ?_
          rw [q168]
          refine x_A k178_100 (fun _ => rfl) ?_
          refine x_iadd k178_101 ?_
          refine x_top (fun z171 e_z171 => ?_)
          refine x_putI k178_102 (f := 38) rfl (q := 256) (n := 62) (kd := 15) ⟨by decide, rfl⟩ rfl rfl rfl ?_
          refine x_nh (fun s172 e_s172 => ?_)
          have hG_s172 : GI s172 := by rw [e_s172]; exact hG_s165.up (show 0 ≤ z171 ∧ z171 ≤ 160 from (by first | exact x_rbe e_z171 g_z171 rfl rfl | exact x_rb g_z171 rfl rfl | exact ⟨by omega, by omega⟩))
          have f_s172 : FL [4133, 4134, 4135] s0 s172 := by rw [e_s172]; exact f_s165.up (show 4135 ∈ [4133, 4134, 4135] from by decide +kernel)
          have q173 : s172 256 36 = x1000 := by rw [e_s172, x_up_i (by decide)]; exact q166
          have q174 : s172 256 34 = x1001 := by rw [e_s172, x_up_i (by decide)]; exact q167
          have q175 : s172 256 37 = 20000000000 := by rw [e_s172, x_up_i (by decide)]; exact q169
          have q176 : s172 256 38 = z171 := by rw [e_s172]; exact x_up_same
          have q177 : s172 283 x1002.toNat = z142 := by rw [e_s172, x_up_q (by first | decide | omega)]; exact q170
          refine x_goto k178_105 (t := 18) rfl ?_
          refine x_ls (l := [(0, .ref 256), (1, vi x1)]) (show ([0, 1] : List Nat).Nodup from by decide +kernel) ⟨rfl, rfl, trivial⟩ ?_
          exact ih s172 x1 x1000 x1001 z171 hG_s172 f_s172 (by first | exact x_rb b_x1 rfl rfl | exact ⟨by omega, by omega⟩) (by first | exact x_rb b_x1000 rfl rfl | exact ⟨by omega, by omega⟩) (by first | exact x_rb b_x1001 rfl rfl | exact ⟨by omega, by omega⟩) (by first | exact x_rbe e_z171 g_z171 rfl rfl | exact x_rb g_z171 rfl rfl | exact ⟨by omega, by omega⟩) (by omega) (by omega) (by omega) (by omega) (by omega) (q173).symm (q174).symm (q176).symm  (by omega)
      · rw [e_z143]
        show xe none 178 48 [(0, .ref 256), (1, vi x1)] [vi 0] s 0 0 _
        refine x_if_eq k178_48 (t := 108) rfl ⟨by decide, by decide⟩ (fun c178 => ?_) (fun c178 => by exfalso; omega)
        exact x_vret k178_108 rfl ⟨hG, f, rfl, by omega⟩
theorem C_X11_readWord_256 (s0 : xS) (hG0 : GI s0)  : xe none 178 0 (lv_args 0 [.ref 256]) [] s0 0 0 (fun s' v => GI s' ∧ FL [4133, 4134, 4135] s0 s' ∧ v = none ∧ (s0 256 36 ≤ s' 256 36 ∧ (s0 256 36 ≤ s' 256 34 → s' 256 38 ≤ s' 256 34) ∧ s' 256 36 ≤ s' 256 38 ∧ (s' 256 37 ≠ 0 → s' 256 36 < s' 256 38))) := by
  have f0 : FL [4133, 4134, 4135] s0 s0 := FL.rf
  show xe none 178 0 [(0, .ref 256)] [] s0 0 0 _
  refine x_A k178_0 (fun _ => rfl) ?_
  refine x_callV k178_1 (y := 176) (n := 0) (w0 := 0) (w1 := 0) (as := []) (rest := []) (by decide +kernel) (q := 256) (nq := 62) (kq := 15) ⟨by decide, rfl⟩ rfl rfl rfl rfl (xe_mono (C_X11_here_256 s0 hG0) ?_)
  rintro s180 v ⟨hG_s180, t_s180, z179, rfl, g_z179, xp_z179⟩
  have f_s180 : FL [4133, 4134, 4135] s0 s180 := f0.tr t_s180 (by decide +kernel)
  obtain ⟨z181, e_z181⟩ : ∃ z, z = s180 256 36 := ⟨_, rfl⟩
  have g_z181 : (0 : Int) ≤ s180 256 36 ∧ s180 256 36 ≤ 160 := hG_s180 256 36
  obtain ⟨z182, e_z182⟩ : ∃ z, z = s180 256 34 := ⟨_, rfl⟩
  have g_z182 : (0 : Int) ≤ s180 256 34 ∧ s180 256 34 ≤ 160 := hG_s180 256 34
  show xe none 178 4 [(0, .ref 256)] [vi z179] s180 0 0 _
  refine x_istore_n k178_4 (ls' := [(1, vi z179), (0, .ref 256)]) (by decide) rfl ?_
  refine x_A k178_5 (fun _ => rfl) ?_
  refine x_lconst k178_6 (z := 0) (by decide +kernel) ?_
  refine x_putJ k178_7 (f := 37) rfl (q := 256) (n := 62) (kd := 15) ⟨by decide, rfl⟩ rfl rfl rfl ?_
  refine x_nh (fun s183 e_s183 => ?_)
  have hG_s183 : GI s183 := by rw [e_s183]; exact hG_s180.up (show in64 0 from ⟨by omega, by omega⟩)
  have f_s183 : FL [4133, 4134, 4135] s0 s183 := by rw [e_s183]; exact f_s180.up (show 4134 ∈ [4133, 4134, 4135] from by decide +kernel)
  have q184 : s183 256 36 = z181 := by rw [e_s183, x_up_i (by decide)]; exact e_z181.symm
  have q185 : s183 256 34 = z182 := by rw [e_s183, x_up_i (by decide)]; exact e_z182.symm
  have q186 : s183 256 37 = 0 := by rw [e_s183]; exact x_up_same
  refine x_A k178_10 (fun _ => rfl) ?_
  refine x_A k178_11 (fun _ => rfl) ?_
  refine x_getI k178_12 (f := 36) rfl (q := 256) (n := 62) (kd := 15) ⟨by decide, rfl⟩ (by decide) rfl ?_
  rw [q184]
  refine x_putI k178_15 (f := 38) rfl (q := 256) (n := 62) (kd := 15) ⟨by decide, rfl⟩ rfl rfl rfl ?_
  refine x_nh (fun s187 e_s187 => ?_)
  have hG_s187 : GI s187 := by rw [e_s187]; exact hG_s183.up (show 0 ≤ z181 ∧ z181 ≤ 160 from (by first | exact x_rbe e_z181 g_z181 rfl rfl | exact x_rb g_z181 rfl rfl | exact ⟨by omega, by omega⟩))
  have f_s187 : FL [4133, 4134, 4135] s0 s187 := by rw [e_s187]; exact f_s183.up (show 4135 ∈ [4133, 4134, 4135] from by decide +kernel)
  have q188 : s187 256 36 = z181 := by rw [e_s187, x_up_i (by decide)]; exact q184
  have q189 : s187 256 34 = z182 := by rw [e_s187, x_up_i (by decide)]; exact q185
  have q190 : s187 256 37 = 0 := by rw [e_s187, x_up_i (by decide)]; exact q186
  have q191 : s187 256 38 = z181 := by rw [e_s187]; exact x_up_same
  refine x_ls (l := [(0, .ref 256), (1, vi z179)]) (show ([0, 1] : List Nat).Nodup from by decide +kernel) ⟨rfl, rfl, trivial⟩ ?_
  exact L_C_X11_readWord_256_18 s0   (((160 - z181) + 1 : Int)).toNat s187 z179 z181 z182 z181 hG_s187 f_s187 (by first | exact x_rbe e_z179 g_z179 rfl rfl | exact x_rb g_z179 rfl rfl | exact ⟨by omega, by omega⟩) (by first | exact x_rbe e_z181 g_z181 rfl rfl | exact x_rb g_z181 rfl rfl | exact ⟨by omega, by omega⟩) (by first | exact x_rbe e_z182 g_z182 rfl rfl | exact x_rb g_z182 rfl rfl | exact ⟨by omega, by omega⟩) (by first | exact x_rbe e_z181 g_z181 rfl rfl | exact x_rb g_z181 rfl rfl | exact ⟨by omega, by omega⟩) (by omega) (by omega) (by omega) (by omega) (by omega) (q188).symm (q189).symm (q191).symm  (by omega)
theorem C_X11_needs_256 (s0 : xS) (hG0 : GI s0) (a : Int) (b_a : in64 a) : xe none 181 0 (lv_args 0 [.ref 256, vj a]) [] s0 0 0 (fun s' v => GI s' ∧ FL [4133, 4134, 4135, 4132] s0 s' ∧ ∃ z, v = some (vi z) ∧ (0 ≤ z ∧ z ≤ 1)) := by
  have f0 : FL [4133, 4134, 4135, 4132] s0 s0 := FL.rf
  show xe none 181 0 [(0, .ref 256), (1, vj a)] [] s0 0 0 _
  refine x_A k181_0 (fun _ => rfl) ?_
  refine x_callV k181_1 (y := 178) (n := 0) (w0 := 0) (w1 := 0) (as := []) (rest := []) (by decide +kernel) (q := 256) (nq := 62) (kq := 15) ⟨by decide, rfl⟩ rfl rfl rfl rfl (xe_mono (C_X11_readWord_256 s0 hG0) ?_)
  rintro s2 v ⟨hG_s2, t_s2, rfl, xp_z1⟩
  have f_s2 : FL [4133, 4134, 4135, 4132] s0 s2 := f0.tr t_s2 (by decide +kernel)
  obtain ⟨z3, e_z3⟩ : ∃ z, z = s2 256 36 := ⟨_, rfl⟩
  have g_z3 : (0 : Int) ≤ s2 256 36 ∧ s2 256 36 ≤ 160 := hG_s2 256 36
  obtain ⟨z4, e_z4⟩ : ∃ z, z = s2 256 34 := ⟨_, rfl⟩
  have g_z4 : (0 : Int) ≤ s2 256 34 ∧ s2 256 34 ≤ 160 := hG_s2 256 34
  obtain ⟨z5, e_z5⟩ : ∃ z, z = s2 256 38 := ⟨_, rfl⟩
  have g_z5 : (0 : Int) ≤ s2 256 38 ∧ s2 256 38 ≤ 160 := hG_s2 256 38
  show xe none 181 4 [(0, .ref 256), (1, vj a)] [] s2 0 0 _
  refine x_A k181_4 (fun _ => rfl) ?_
  refine x_getJ k181_5 (f := 37) rfl (q := 256) (n := 62) (kd := 15) ⟨by decide, rfl⟩ (by decide) rfl ?_
  refine x_topL (fun z6 e_z6 => ?_)
  have b_z6 : in64 z6 := by rw [e_z6]; exact hG_s2 256 37
  refine x_A k181_8 (fun _ => rfl) ?_
  refine x_lc_eq k181_9 k181_10 (t := 23) rfl b_z6 b_a (fun c7 => ?_) (fun c7 => ?_)
  · skip
    refine x_A k181_23 (fun _ => rfl) ?_
    refine x_A k181_24 (fun _ => rfl) ?_
    refine x_getI k181_25 (f := 38) rfl (q := 256) (n := 62) (kd := 15) ⟨by decide, rfl⟩ (by decide) rfl ?_
    rw [e_z5.symm]
    refine x_putI k181_28 (f := 36) rfl (q := 256) (n := 62) (kd := 15) ⟨by decide, rfl⟩ rfl rfl rfl ?_
    refine x_nh (fun s8 e_s8 => ?_)
    have hG_s8 : GI s8 := by rw [e_s8]; exact hG_s2.up (show 0 ≤ z5 ∧ z5 ≤ 160 from (by first | exact x_rbe e_z5 g_z5 rfl rfl | exact x_rb g_z5 rfl rfl | exact ⟨by omega, by omega⟩))
    have f_s8 : FL [4133, 4134, 4135, 4132] s0 s8 := by rw [e_s8]; exact f_s2.up (show 4133 ∈ [4133, 4134, 4135, 4132] from by decide +kernel)
    have q9 : s8 256 34 = z4 := by rw [e_s8, x_up_i (by decide)]; exact e_z4.symm
    have q10 : s8 256 38 = z5 := by rw [e_s8, x_up_i (by decide)]; exact e_z5.symm
    have q11 : s8 256 36 = z5 := by rw [e_s8]; exact x_up_same
    refine x_A k181_31 (fun _ => rfl) ?_
    exact x_iret k181_32 rfl ⟨hG_s8, f_s8, 0, rfl, ⟨by decide, by decide⟩⟩
  · skip
    refine x_A k181_13 (fun _ => rfl) ?_
    refine x_A k181_14 (fun _ => rfl) ?_
    refine x_A k181_15 (fun _ => rfl) ?_
    refine x_getI k181_16 (f := 36) rfl (q := 256) (n := 62) (kd := 15) ⟨by decide, rfl⟩ (by decide) rfl ?_
    rw [e_z3.symm]
    refine x_callV k181_19 (y := 177) (n := 2) (w0 := 0) (w1 := 2) (as := [vi 1, vi z3]) (rest := []) (by decide +kernel) (q := 256) (nq := 62) (kq := 15) ⟨by decide, rfl⟩ rfl rfl rfl rfl (xe_mono (C_X11_fails_256 s2 hG_s2 1 ⟨by decide, by decide⟩ z3 (by first | exact x_rbe e_z3 g_z3 rfl rfl | exact x_rb g_z3 rfl rfl | exact ⟨by omega, by omega⟩)) ?_)
    rintro s13 v ⟨hG_s13, t_s13, z12, rfl, g_z12, xp_z12⟩
    have f_s13 : FL [4133, 4134, 4135, 4132] s0 s13 := f_s2.tr t_s13 (by decide +kernel)
    have q14 : s13 256 36 = z3 := (t_s13 256 36 (show 4133 ∉ [4132] from by decide +kernel)).trans e_z3.symm
    have q15 : s13 256 34 = z4 := (t_s13 256 34 (show 4131 ∉ [4132] from by decide +kernel)).trans e_z4.symm
    have q16 : s13 256 38 = z5 := (t_s13 256 38 (show 4135 ∉ [4132] from by decide +kernel)).trans e_z5.symm
    show xe none 181 22 [(0, .ref 256), (1, vj a)] [vi z12] s13 0 0 _
    exact x_iret k181_22 rfl ⟨hG_s13, f_s13, z12, rfl, (by first | exact x_rbe e_z12 g_z12 rfl rfl | exact x_rb g_z12 rfl rfl | exact ⟨by omega, by omega⟩)⟩
theorem L_C_X11_feed_256_37 (s0 : xS)   : ∀ (n : Nat) (s : xS) (x1 : Int) (x2 : Int) (x4 : Int) (x1000 : Int) (hG : GI s) (f : FL [4131, 5824] s0 s) (b_x1 : 1 ≤ x1 ∧ x1 ≤ 8) (b_x2 : in64 x2) (b_x4 : (-1) ≤ x4 ∧ x4 ≤ 7) (b_x1000 : 0 ≤ x1000 ∧ x1000 ≤ 160) (r_4_1 : x4 ≤ x1 + 0) (w_0 : x1000 + x4 ≤ 159) (e_x1000 : x1000 = s 256 34)  (hm : (x4 - (-1)) < (n : Int)), xe none 175 37 [(0, .ref 256), (1, vi x1), (2, vj x2), (4, vi x4)] [] s 0 0 (fun s' v => GI s' ∧ FL [4131, 5824] s0 s' ∧ ∃ z, v = some (vi z) ∧ ((-1004) ≤ z ∧ z ≤ 160)) := by
  intro n
  induction n with
  | zero => intro s x1 x2 x4 x1000 hG f b_x1 b_x2 b_x4 b_x1000 r_4_1 w_0 e_x1000  hm; exfalso; omega
  | succ n ih =>
    intro s x1 x2 x4 x1000 hG f b_x1 b_x2 b_x4 b_x1000 r_4_1 w_0 e_x1000  hm
    refine x_A k175_37 (fun _ => rfl) ?_
    refine x_if_lt k175_39 (t := 79) rfl (by first | exact x_rb b_x4 rfl rfl | exact ⟨by omega, by omega⟩) (fun c50 => ?_) (fun c50 => ?_)
    · skip
      refine x_A k175_79 (fun _ => rfl) ?_
      refine x_getI k175_80 (f := 34) rfl (q := 256) (n := 62) (kd := 15) ⟨by decide, rfl⟩ (by decide) rfl ?_
      rw [e_x1000.symm]
      exact x_iret k175_83 rfl ⟨hG, f, x1000, rfl, (by first | exact x_rb b_x1000 rfl rfl | exact ⟨by omega, by omega⟩)⟩
    · skip
      refine x_A k175_42 (fun _ => rfl) ?_
      refine x_getR k175_43 (f := 33) rfl (q := 256) (n := 62) (kd := 15) ⟨by decide, rfl⟩ (q2 := 283) (by decide) rfl ?_
      refine x_A k175_46 (fun _ => rfl) ?_
      refine x_getI k175_47 (f := 34) rfl (q := 256) (n := 62) (kd := 15) ⟨by decide, rfl⟩ (by decide) rfl ?_
      rw [e_x1000.symm]
      refine x_A k175_50 (fun _ => rfl) ?_
      refine x_bipush k175_51 (by decide +kernel) ?_
      refine x_A k175_53 (fun _ => rfl) ?_
      refine x_imul k175_55 ?_
      refine x_top (fun z51 e_z51 => ?_)
      refine x_lshr_any k175_56 (fun z52 b_z52 => ?_)
      refine x_ldc2 k175_57 (z := 255) rfl (by decide +kernel) ?_
      refine x_land_mask k175_60 ⟨by omega, by omega⟩ (fun z53 g_z53 => ?_)
      refine x_l2i k175_61 ⟨by omega, by omega⟩ ?_
      refine x_iast k175_62 (q := 283) (n := 160) ⟨by decide, rfl⟩ (by decide) (by first | exact x_rbl b_x1000 rfl rfl | exact ⟨by omega, by omega⟩) ?_
      refine x_nh (fun s54 e_s54 => ?_)
      have hG_s54 : GI s54 := by rw [e_s54]; exact hG.up (show 0 ≤ z53 ∧ z53 ≤ 255 from (by first | exact x_rbe e_z53 g_z53 rfl rfl | exact x_rb g_z53 rfl rfl | exact ⟨by omega, by omega⟩))
      have f_s54 : FL [4131, 5824] s0 s54 := by rw [e_s54]; exact f.up (show 5824 ∈ [4131, 5824] from by decide +kernel)
      have q55 : s54 256 34 = x1000 := by rw [e_s54, x_up_q (by decide)]; exact e_x1000.symm
      have q56 : s54 283 x1000.toNat = z53 := by rw [e_s54]; exact x_up_same
      refine x_A k175_63 (fun _ => rfl) ?_
      refine x_A k175_64 (fun _ => rfl) ?_
      refine x_getI k175_65 (f := 34) rfl (q := 256) (n := 62) (kd := 15) ⟨by decide, rfl⟩ (by decide) rfl ?_
      rw [q55]
      refine x_A k175_68 (fun _ => rfl) ?_
      refine x_iadd k175_69 ?_
      refine x_top (fun z57 e_z57 => ?_)
      refine x_putI k175_70 (f := 34) rfl (q := 256) (n := 62) (kd := 15) ⟨by decide, rfl⟩ rfl rfl rfl ?_
      refine x_nh (fun s58 e_s58 => ?_)
      have hG_s58 : GI s58 := by rw [e_s58]; exact hG_s54.up (show 0 ≤ z57 ∧ z57 ≤ 160 from (by first | exact x_rbe e_z57 g_z57 rfl rfl | exact x_rb g_z57 rfl rfl | exact ⟨by omega, by omega⟩))
      have f_s58 : FL [4131, 5824] s0 s58 := by rw [e_s58]; exact f_s54.up (show 4131 ∈ [4131, 5824] from by decide +kernel)
      have q59 : s58 256 34 = z57 := by rw [e_s58]; exact x_up_same
      have q60 : s58 283 x1000.toNat = z53 := by rw [e_s58, x_up_q (by first | decide | omega)]; exact q56
      refine x_iinc k175_73 (ls' := [(4, vi (x4 + (-1))), (0, .ref 256), (1, vi x1), (2, vj x2)]) rfl (by decide) rfl ?_
      refine x_goto k175_76 (t := 37) rfl ?_
      refine x_ls (l := [(0, .ref 256), (1, vi x1), (2, vj x2), (4, vi (x4 + (-1)))]) (show ([0, 1, 2, 4] : List Nat).Nodup from by decide +kernel) ⟨rfl, rfl, rfl, rfl, trivial⟩ ?_
      exact ih s58 x1 x2 (x4 + (-1)) z57 hG_s58 f_s58 (by first | exact x_rb b_x1 rfl rfl | exact ⟨by omega, by omega⟩) b_x2 ⟨by omega, by omega⟩ (by first | exact x_rbe e_z57 g_z57 rfl rfl | exact x_rb g_z57 rfl rfl | exact ⟨by omega, by omega⟩) (by omega) (by omega) (q59).symm  (by omega)
theorem C_X11_feed_256 (s0 : xS) (hG0 : GI s0) (a : Int) (b_a : (-2147483648) ≤ a ∧ a ≤ 2147483647) (b : Int) (b_b : in64 b) : xe none 175 0 (lv_args 0 [.ref 256, vi a, vj b]) [] s0 0 0 (fun s' v => GI s' ∧ FL [4131, 5824] s0 s' ∧ ∃ z, v = some (vi z) ∧ ((-1004) ≤ z ∧ z ≤ 160)) := by
  have f0 : FL [4131, 5824] s0 s0 := FL.rf
  show xe none 175 0 [(0, .ref 256), (1, vi a), (2, vj b)] [] s0 0 0 _
  refine x_A k175_0 (fun _ => rfl) ?_
  refine x_i2l k175_1 (by first | exact x_rb b_a rfl rfl | exact ⟨by omega, by omega⟩) ?_
  refine x_lconst k175_2 (z := 1) (by decide +kernel) ?_
  refine x_ldc2 k175_3 (z := 8) rfl (by decide +kernel) ?_
  refine x_callS k175_6 (y := 136) (n := 3) (w0 := 0) (w1 := 6) (as := [vj a, vj 1, vj 8]) (rest := []) (by decide +kernel) rfl rfl rfl rfl (xe_mono (C_X11_in s0 hG0 a ⟨by omega, by omega⟩ 1 ⟨by omega, by omega⟩ 8 ⟨by omega, by omega⟩) ?_)
  rintro s62 v ⟨h_s62, z61, rfl, hz_z61⟩
  rw [h_s62]
  rcases hz_z61 with ⟨c_z61, e_z61⟩ | ⟨c_z61, e_z61⟩
  · rw [e_z61]
    show xe none 175 9 [(0, .ref 256), (1, vi a), (2, vj b)] [vi 1] s0 0 0 _
    refine x_if_ne k175_9 (t := 16) rfl ⟨by decide, by decide⟩ (fun c63 => ?_) (fun c63 => by exfalso; omega)
    refine x_A k175_16 (fun _ => rfl) ?_
    refine x_getI k175_17 (f := 34) rfl (q := 256) (n := 62) (kd := 15) ⟨by decide, rfl⟩ (by decide) rfl ?_
    refine x_top (fun z64 e_z64 => ?_)
    have g_z64 : (0 : Int) ≤ s0 256 34 ∧ s0 256 34 ≤ 160 := hG0 256 34
    refine x_A k175_20 (fun _ => rfl) ?_
    refine x_iadd k175_21 ?_
    refine x_top (fun z65 e_z65 => ?_)
    refine x_sipush k175_22 (by decide +kernel) ?_
    refine x_ic_le k175_25 (t := 32) rfl (by first | exact x_rbe e_z65 g_z65 rfl rfl | exact x_rb g_z65 rfl rfl | exact ⟨by omega, by omega⟩) ⟨by decide, by decide⟩ (fun c66 => ?_) (fun c66 => ?_)
    · skip
      refine x_A k175_32 (fun _ => rfl) ?_
      refine x_A k175_33 (fun _ => rfl) ?_
      refine x_isub k175_34 ?_
      refine x_top (fun z67 e_z67 => ?_)
      refine x_istore k175_35 (ls' := [(4, vi z67), (0, .ref 256), (1, vi a), (2, vj b)]) (by decide) rfl ?_
      refine x_ls (l := [(0, .ref 256), (1, vi a), (2, vj b), (4, vi z67)]) (show ([0, 1, 2, 4] : List Nat).Nodup from by decide +kernel) ⟨rfl, rfl, rfl, rfl, trivial⟩ ?_
      exact L_C_X11_feed_256_37 s0   (((z67 - (-1)) + 1 : Int)).toNat s0 a b z67 z64 hG0 f0 (by first | exact x_rb b_a rfl rfl | exact ⟨by omega, by omega⟩) b_b (by first | exact x_rbe e_z67 g_z67 rfl rfl | exact x_rb g_z67 rfl rfl | exact ⟨by omega, by omega⟩) (by first | exact x_rbe e_z64 g_z64 rfl rfl | exact x_rb g_z64 rfl rfl | exact ⟨by omega, by omega⟩) (by omega) (by omega) (e_z64.symm).symm  (by omega)
    · skip
      refine x_sipush k175_28 (by decide +kernel) ?_
      exact x_iret k175_31 rfl ⟨hG0, f0, (-1004), rfl, ⟨by decide, by decide⟩⟩
  · rw [e_z61]
    show xe none 175 9 [(0, .ref 256), (1, vi a), (2, vj b)] [vi 0] s0 0 0 _
    refine x_if_ne k175_9 (t := 16) rfl ⟨by decide, by decide⟩ (fun c68 => by exfalso; omega) (fun c68 => ?_)
    refine x_sipush k175_12 (by decide +kernel) ?_
    exact x_iret k175_15 rfl ⟨hG0, f0, (-1002), rfl, ⟨by decide, by decide⟩⟩
theorem L_C_X11_readNumber_256_42 (s0 : xS) (a : Int) (b_a : (-2147483648) ≤ a ∧ a ≤ 2147483647) (b : Int) (b_b : (-2147483648) ≤ b ∧ b ≤ 2147483647) (d : Int) (b_d : (-2147483648) ≤ d ∧ d ≤ 2147483647) (e : Int) (b_e : 1 ≤ e ∧ e ≤ 5)  : ∀ (n : Nat) (s : xS) (x1 : Int) (x2 : Int) (x3 : Int) (x4 : Int) (x5 : Int) (x6 : Int) (x1000 : Int) (x1001 : Int) (x1002 : Int) (hG : GI s) (f : FL [4133, 4136, 4132] s0 s) (b_x1 : (-2147483648) ≤ x1 ∧ x1 ≤ 2147483647) (b_x2 : (-2147483648) ≤ x2 ∧ x2 ≤ 2147483647) (b_x3 : (-2147483648) ≤ x3 ∧ x3 ≤ 2147483647) (b_x4 : 1 ≤ x4 ∧ x4 ≤ 5) (b_x5 : 48 ≤ x5 ∧ x5 ≤ 57) (b_x6 : 0 ≤ x6 ∧ x6 ≤ 160) (b_x1000 : 0 ≤ x1000 ∧ x1000 ≤ 160) (b_x1001 : 0 ≤ x1001 ∧ x1001 ≤ 160) (b_x1002 : 0 ≤ x1002 ∧ x1002 ≤ 1100000) (r_6_1000 : x6 ≤ x1000 + 0) (r_4_5 : x4 ≤ x5 + 0) (w_0 : x1 = a) (w_1 : x2 = b) (w_2 : s0 256 36 ≤ x1000) (w_3 : s0 256 36 ≤ x1001 → x1000 ≤ x1001) (w_4 : x6 ≤ x1000) (w_5 : s0 256 36 ≤ x6) (e_x1000 : x1000 = s 256 36) (e_x1001 : x1001 = s 256 34) (e_x1002 : x1002 = s 256 39)  (hm : (160 - x1000) < (n : Int)), xe none 180 42 [(0, .ref 256), (1, vi x1), (2, vi x2), (3, vi x3), (4, vi x4), (5, vi x5), (6, vi x6)] [] s 0 0 (fun s' v => GI s' ∧ FL [4133, 4136, 4132] s0 s' ∧ ∃ z, v = some (vi z) ∧ (0 ≤ z ∧ z ≤ 5) ∧ ((z = 0 → a ≤ s' 256 39 ∧ s' 256 39 ≤ b) ∧ s0 256 36 ≤ s' 256 36 ∧ (s0 256 36 ≤ s' 256 34 → s' 256 36 ≤ s' 256 34))) := by
  intro n
  induction n with
  | zero => intro s x1 x2 x3 x4 x5 x6 x1000 x1001 x1002 hG f b_x1 b_x2 b_x3 b_x4 b_x5 b_x6 b_x1000 b_x1001 b_x1002 r_6_1000 r_4_5 w_0 w_1 w_2 w_3 w_4 w_5 e_x1000 e_x1001 e_x1002  hm; exfalso; omega
  | succ n ih =>
    intro s x1 x2 x3 x4 x5 x6 x1000 x1001 x1002 hG f b_x1 b_x2 b_x3 b_x4 b_x5 b_x6 b_x1000 b_x1001 b_x1002 r_6_1000 r_4_5 w_0 w_1 w_2 w_3 w_4 w_5 e_x1000 e_x1001 e_x1002  hm
    refine x_A k180_42 (fun _ => rfl) ?_
    refine x_getI k180_43 (f := 36) rfl (q := 256) (n := 62) (kd := 15) ⟨by decide, rfl⟩ (by decide) rfl ?_
    rw [e_x1000.symm]
    refine x_A k180_46 (fun _ => rfl) ?_
    refine x_getI k180_47 (f := 34) rfl (q := 256) (n := 62) (kd := 15) ⟨by decide, rfl⟩ (by decide) rfl ?_
    rw [e_x1001.symm]
    refine x_ic_ge k180_50 (t := 129) rfl (by first | exact x_rb b_x1000 rfl rfl | exact ⟨by omega, by omega⟩) (by first | exact x_rb b_x1001 rfl rfl | exact ⟨by omega, by omega⟩) (fun c366 => ?_) (fun c366 => ?_)
    · skip
      refine x_A k180_129 (fun _ => rfl) ?_
      refine x_getI k180_130 (f := 36) rfl (q := 256) (n := 62) (kd := 15) ⟨by decide, rfl⟩ (by decide) rfl ?_
      rw [e_x1000.symm]
      refine x_A k180_133 (fun _ => rfl) ?_
      refine x_isub k180_135 ?_
      refine x_top (fun z367 e_z367 => ?_)
      refine x_A k180_136 (fun _ => rfl) ?_
      refine x_ic_le k180_137 (t := 148) rfl (by first | exact x_rbe e_z367 g_z367 rfl rfl | exact x_rb g_z367 rfl rfl | exact ⟨by omega, by omega⟩) (by first | exact x_rb b_x3 rfl rfl | exact ⟨by omega, by omega⟩) (fun c368 => ?_) (fun c368 => ?_)
      · skip
        refine x_A k180_148 (fun _ => rfl) ?_
        refine x_getI k180_149 (f := 39) rfl (q := 256) (n := 62) (kd := 15) ⟨by decide, rfl⟩ (by decide) rfl ?_
        rw [e_x1002.symm]
        refine x_i2l k180_152 (by first | exact x_rb b_x1002 rfl rfl | exact ⟨by omega, by omega⟩) ?_
        refine x_A k180_153 (fun _ => rfl) ?_
        refine x_i2l k180_154 (by first | exact x_rb b_x1 rfl rfl | exact ⟨by omega, by omega⟩) ?_
        refine x_A k180_155 (fun _ => rfl) ?_
        refine x_i2l k180_156 (by first | exact x_rb b_x2 rfl rfl | exact ⟨by omega, by omega⟩) ?_
        refine x_callS k180_157 (y := 136) (n := 3) (w0 := 0) (w1 := 6) (as := [vj x1002, vj x1, vj x2]) (rest := []) (by decide +kernel) rfl rfl rfl rfl (xe_mono (C_X11_in s hG x1002 ⟨by omega, by omega⟩ x1 ⟨by omega, by omega⟩ x2 ⟨by omega, by omega⟩) ?_)
        rintro s370 v ⟨h_s370, z369, rfl, hz_z369⟩
        rw [h_s370]
        rcases hz_z369 with ⟨c_z369, e_z369⟩ | ⟨c_z369, e_z369⟩
        · rw [e_z369]
          show xe none 180 160 [(0, .ref 256), (1, vi x1), (2, vi x2), (3, vi x3), (4, vi x4), (5, vi x5), (6, vi x6)] [vi 1] s 0 0 _
          refine x_if_eq k180_160 (t := 167) rfl ⟨by decide, by decide⟩ (fun c371 => by exfalso; omega) (fun c371 => ?_)
          refine x_A k180_163 (fun _ => rfl) ?_
          refine x_goto k180_164 (t := 175) rfl ?_
          exact x_iret k180_175 rfl ⟨hG, f, 0, rfl, ⟨by decide, by decide⟩, by omega⟩
        · rw [e_z369]
          show xe none 180 160 [(0, .ref 256), (1, vi x1), (2, vi x2), (3, vi x3), (4, vi x4), (5, vi x5), (6, vi x6)] [vi 0] s 0 0 _
          refine x_if_eq k180_160 (t := 167) rfl ⟨by decide, by decide⟩ (fun c372 => ?_) (fun c372 => by exfalso; omega)
          refine x_A k180_167 (fun _ => rfl) ?_
          refine x_A k180_168 (fun _ => rfl) ?_
          refine x_A k180_170 (fun _ => rfl) ?_
          refine x_callV k180_172 (y := 177) (n := 2) (w0 := 0) (w1 := 2) (as := [vi x4, vi x6]) (rest := []) (by decide +kernel) (q := 256) (nq := 62) (kq := 15) ⟨by decide, rfl⟩ rfl rfl rfl rfl (xe_mono (C_X11_fails_256 s hG x4 (by first | exact x_rb b_x4 rfl rfl | exact ⟨by omega, by omega⟩) x6 (by first | exact x_rb b_x6 rfl rfl | exact ⟨by omega, by omega⟩)) ?_)
          rintro s374 v ⟨hG_s374, t_s374, z373, rfl, g_z373, xp_z373⟩
          have f_s374 : FL [4133, 4136, 4132] s0 s374 := f.tr t_s374 (by decide +kernel)
          have q375 : s374 256 36 = x1000 := (t_s374 256 36 (show 4133 ∉ [4132] from by decide +kernel)).trans e_x1000.symm
          have q376 : s374 256 34 = x1001 := (t_s374 256 34 (show 4131 ∉ [4132] from by decide +kernel)).trans e_x1001.symm
          have q377 : s374 256 39 = x1002 := (t_s374 256 39 (show 4136 ∉ [4132] from by decide +kernel)).trans e_x1002.symm
          show xe none 180 175 [(0, .ref 256), (1, vi x1), (2, vi x2), (3, vi x3), (4, vi x4), (5, vi x5), (6, vi x6)] [vi z373] s374 0 0 _
          exact x_iret k180_175 rfl ⟨hG_s374, f_s374, z373, rfl, (by first | exact x_rbe e_z373 g_z373 rfl rfl | exact x_rb g_z373 rfl rfl | exact ⟨by omega, by omega⟩), by omega⟩
      · skip
        refine x_A k180_140 (fun _ => rfl) ?_
        refine x_A k180_141 (fun _ => rfl) ?_
        refine x_A k180_142 (fun _ => rfl) ?_
        refine x_callV k180_144 (y := 177) (n := 2) (w0 := 0) (w1 := 2) (as := [vi 2, vi x6]) (rest := []) (by decide +kernel) (q := 256) (nq := 62) (kq := 15) ⟨by decide, rfl⟩ rfl rfl rfl rfl (xe_mono (C_X11_fails_256 s hG 2 ⟨by decide, by decide⟩ x6 (by first | exact x_rb b_x6 rfl rfl | exact ⟨by omega, by omega⟩)) ?_)
        rintro s379 v ⟨hG_s379, t_s379, z378, rfl, g_z378, xp_z378⟩
        have f_s379 : FL [4133, 4136, 4132] s0 s379 := f.tr t_s379 (by decide +kernel)
        have q380 : s379 256 36 = x1000 := (t_s379 256 36 (show 4133 ∉ [4132] from by decide +kernel)).trans e_x1000.symm
        have q381 : s379 256 34 = x1001 := (t_s379 256 34 (show 4131 ∉ [4132] from by decide +kernel)).trans e_x1001.symm
        have q382 : s379 256 39 = x1002 := (t_s379 256 39 (show 4136 ∉ [4132] from by decide +kernel)).trans e_x1002.symm
        show xe none 180 147 [(0, .ref 256), (1, vi x1), (2, vi x2), (3, vi x3), (4, vi x4), (5, vi x5), (6, vi x6)] [vi z378] s379 0 0 _
        exact x_iret k180_147 rfl ⟨hG_s379, f_s379, z378, rfl, (by first | exact x_rbe e_z378 g_z378 rfl rfl | exact x_rb g_z378 rfl rfl | exact ⟨by omega, by omega⟩), by omega⟩
    · skip
      refine x_A k180_53 (fun _ => rfl) ?_
      refine x_getR k180_54 (f := 33) rfl (q := 256) (n := 62) (kd := 15) ⟨by decide, rfl⟩ (q2 := 283) (by decide) rfl ?_
      refine x_A k180_57 (fun _ => rfl) ?_
      refine x_getI k180_58 (f := 36) rfl (q := 256) (n := 62) (kd := 15) ⟨by decide, rfl⟩ (by decide) rfl ?_
      rw [e_x1000.symm]
      refine x_iald k180_61 (q := 283) (n := 160) ⟨by decide, rfl⟩ (by decide) (by first | exact x_rbl b_x1000 rfl rfl | exact ⟨by omega, by omega⟩) ?_
      refine x_top (fun z383 e_z383 => ?_)
      have g_z383 : (0 : Int) ≤ s 283 x1000.toNat ∧ s 283 x1000.toNat ≤ 255 := hG 283 x1000.toNat
      refine x_i2l k180_62 (by first | exact x_rbe e_z383 g_z383 rfl rfl | exact x_rb g_z383 rfl rfl | exact ⟨by omega, by omega⟩) ?_
      refine x_ldc2 k180_63 (z := 48) rfl (by decide +kernel) ?_
      refine x_ldc2 k180_66 (z := 57) rfl (by decide +kernel) ?_
      refine x_callS k180_69 (y := 136) (n := 3) (w0 := 0) (w1 := 6) (as := [vj z383, vj 48, vj 57]) (rest := []) (by decide +kernel) rfl rfl rfl rfl (xe_mono (C_X11_in s hG z383 ⟨by omega, by omega⟩ 48 ⟨by omega, by omega⟩ 57 ⟨by omega, by omega⟩) ?_)
      rintro s385 v ⟨h_s385, z384, rfl, hz_z384⟩
      rw [h_s385]
      rcases hz_z384 with ⟨c_z384, e_z384⟩ | ⟨c_z384, e_z384⟩
      · rw [e_z384]
        show xe none 180 72 [(0, .ref 256), (1, vi x1), (2, vi x2), (3, vi x3), (4, vi x4), (5, vi x5), (6, vi x6)] [vi 1] s 0 0 _
        refine x_if_eq k180_72 (t := 129) rfl ⟨by decide, by decide⟩ (fun c386 => by exfalso; omega) (fun c386 => ?_)
        refine x_A k180_75 (fun _ => rfl) ?_
        refine x_A k180_76 (fun _ => rfl) ?_
        refine x_getI k180_77 (f := 39) rfl (q := 256) (n := 62) (kd := 15) ⟨by decide, rfl⟩ (by decide) rfl ?_
        rw [e_x1002.symm]
        refine x_ldcwI k180_80 (z := 100000) rfl (by decide +kernel) ?_
        refine x_ic_le k180_83 (t := 93) rfl (by first | exact x_rb b_x1002 rfl rfl | exact ⟨by omega, by omega⟩) ⟨by decide, by decide⟩ (fun c387 => ?_) (fun c387 => ?_)
        · skip
          refine x_bipush k180_93 (by decide +kernel) ?_
          refine x_A k180_95 (fun _ => rfl) ?_
          refine x_getI k180_96 (f := 39) rfl (q := 256) (n := 62) (kd := 15) ⟨by decide, rfl⟩ (by decide) rfl ?_
          rw [e_x1002.symm]
          refine x_imul k180_99 ?_
          refine x_top (fun z388 e_z388 => ?_)
          refine x_A k180_100 (fun _ => rfl) ?_
          refine x_getR k180_101 (f := 33) rfl (q := 256) (n := 62) (kd := 15) ⟨by decide, rfl⟩ (q2 := 283) (by decide) rfl ?_
          refine x_A k180_104 (fun _ => rfl) ?_
          refine x_getI k180_105 (f := 36) rfl (q := 256) (n := 62) (kd := 15) ⟨by decide, rfl⟩ (by decide) rfl ?_
          rw [e_x1000.symm]
          refine x_iald k180_108 (q := 283) (n := 160) ⟨by decide, rfl⟩ (by decide) (by first | exact x_rbl b_x1000 rfl rfl | exact ⟨by omega, by omega⟩) ?_
          rw [e_z383.symm]
          refine x_iadd k180_109 ?_
          refine x_top (fun z389 e_z389 => ?_)
          refine x_bipush k180_110 (by decide +kernel) ?_
          refine x_isub k180_112 ?_
          refine x_top (fun z390 e_z390 => ?_)
          refine x_putI k180_113 (f := 39) rfl (q := 256) (n := 62) (kd := 15) ⟨by decide, rfl⟩ rfl rfl rfl ?_
          refine x_nh (fun s391 e_s391 => ?_)
          have hG_s391 : GI s391 := by rw [e_s391]; exact hG.up (show 0 ≤ z390 ∧ z390 ≤ 1100000 from (by first | exact x_rbe e_z390 g_z390 rfl rfl | exact x_rb g_z390 rfl rfl | exact ⟨by omega, by omega⟩))
          have f_s391 : FL [4133, 4136, 4132] s0 s391 := by rw [e_s391]; exact f.up (show 4136 ∈ [4133, 4136, 4132] from by decide +kernel)
          have q392 : s391 256 36 = x1000 := by rw [e_s391, x_up_i (by decide)]; exact e_x1000.symm
          have q393 : s391 256 34 = x1001 := by rw [e_s391, x_up_i (by decide)]; exact e_x1001.symm
          have q394 : s391 256 39 = z390 := by rw [e_s391]; exact x_up_same
          have q395 : s391 283 x1000.toNat = z383 := by rw [e_s391, x_up_q (by first | decide | omega)]; exact e_z383.symm
          refine x_A k180_116 (fun _ => rfl) ?_
          refine x_A k180_117 (fun _ => rfl) ?_
          refine x_getI k180_118 (f := 36) rfl (q := 256) (n := 62) (kd := 15) ⟨by decide, rfl⟩ (by decide) rfl ?_
          rw [q392]
          refine x_A k180_121 (fun _ => rfl) ?_
          refine x_iadd k180_122 ?_
          refine x_top (fun z396 e_z396 => ?_)
          refine x_putI k180_123 (f := 36) rfl (q := 256) (n := 62) (kd := 15) ⟨by decide, rfl⟩ rfl rfl rfl ?_
          refine x_nh (fun s397 e_s397 => ?_)
          have hG_s397 : GI s397 := by rw [e_s397]; exact hG_s391.up (show 0 ≤ z396 ∧ z396 ≤ 160 from (by first | exact x_rbe e_z396 g_z396 rfl rfl | exact x_rb g_z396 rfl rfl | exact ⟨by omega, by omega⟩))
          have f_s397 : FL [4133, 4136, 4132] s0 s397 := by rw [e_s397]; exact f_s391.up (show 4133 ∈ [4133, 4136, 4132] from by decide +kernel)
          have q398 : s397 256 34 = x1001 := by rw [e_s397, x_up_i (by decide)]; exact q393
          have q399 : s397 256 39 = z390 := by rw [e_s397, x_up_i (by decide)]; exact q394
          have q400 : s397 256 36 = z396 := by rw [e_s397]; exact x_up_same
          have q401 : s397 283 x1000.toNat = z383 := by rw [e_s397, x_up_q (by first | decide | omega)]; exact q395
          refine x_goto k180_126 (t := 42) rfl ?_
          refine x_ls (l := [(0, .ref 256), (1, vi x1), (2, vi x2), (3, vi x3), (4, vi x4), (5, vi x5), (6, vi x6)]) (show ([0, 1, 2, 3, 4, 5, 6] : List Nat).Nodup from by decide +kernel) ⟨rfl, rfl, rfl, rfl, rfl, rfl, rfl, trivial⟩ ?_
          exact ih s397 x1 x2 x3 x4 x5 x6 z396 x1001 z390 hG_s397 f_s397 (by first | exact x_rb b_x1 rfl rfl | exact ⟨by omega, by omega⟩) (by first | exact x_rb b_x2 rfl rfl | exact ⟨by omega, by omega⟩) (by first | exact x_rb b_x3 rfl rfl | exact ⟨by omega, by omega⟩) (by first | exact x_rb b_x4 rfl rfl | exact ⟨by omega, by omega⟩) (by first | exact x_rb b_x5 rfl rfl | exact ⟨by omega, by omega⟩) (by first | exact x_rb b_x6 rfl rfl | exact ⟨by omega, by omega⟩) (by first | exact x_rbe e_z396 g_z396 rfl rfl | exact x_rb g_z396 rfl rfl | exact ⟨by omega, by omega⟩) (by first | exact x_rb b_x1001 rfl rfl | exact ⟨by omega, by omega⟩) (by first | exact x_rbe e_z390 g_z390 rfl rfl | exact x_rb g_z390 rfl rfl | exact ⟨by omega, by omega⟩) (by omega) (by omega) (by omega) (by omega) (by omega) (by omega) (by omega) (by omega) (q400).symm (q398).symm (q399).symm  (by omega)
        · skip
          refine x_A k180_86 (fun _ => rfl) ?_
          refine x_getI k180_87 (f := 39) rfl (q := 256) (n := 62) (kd := 15) ⟨by decide, rfl⟩ (by decide) rfl ?_
          rw [e_x1002.symm]
          refine x_goto k180_90 (t := 113) rfl ?_
          refine x_putI k180_113 (f := 39) rfl (q := 256) (n := 62) (kd := 15) ⟨by decide, rfl⟩ rfl rfl rfl ?_
          refine x_nh (fun s402 e_s402 => ?_)
          have hG_s402 : GI s402 := by rw [e_s402]; exact hG.up (show 0 ≤ x1002 ∧ x1002 ≤ 1100000 from (by first | exact x_rb b_x1002 rfl rfl | exact ⟨by omega, by omega⟩))
          have f_s402 : FL [4133, 4136, 4132] s0 s402 := by rw [e_s402]; exact f.up (show 4136 ∈ [4133, 4136, 4132] from by decide +kernel)
          have q403 : s402 256 36 = x1000 := by rw [e_s402, x_up_i (by decide)]; exact e_x1000.symm
          have q404 : s402 256 34 = x1001 := by rw [e_s402, x_up_i (by decide)]; exact e_x1001.symm
          have q405 : s402 256 39 = x1002 := by rw [e_s402]; exact x_up_same
          have q406 : s402 283 x1000.toNat = z383 := by rw [e_s402, x_up_q (by first | decide | omega)]; exact e_z383.symm
          refine x_A k180_116 (fun _ => rfl) ?_
          refine x_A k180_117 (fun _ => rfl) ?_
          refine x_getI k180_118 (f := 36) rfl (q := 256) (n := 62) (kd := 15) ⟨by decide, rfl⟩ (by decide) rfl ?_
          rw [q403]
          refine x_A k180_121 (fun _ => rfl) ?_
          refine x_iadd k180_122 ?_
          refine x_top (fun z407 e_z407 => ?_)
          refine x_putI k180_123 (f := 36) rfl (q := 256) (n := 62) (kd := 15) ⟨by decide, rfl⟩ rfl rfl rfl ?_
          refine x_nh (fun s408 e_s408 => ?_)
          have hG_s408 : GI s408 := by rw [e_s408]; exact hG_s402.up (show 0 ≤ z407 ∧ z407 ≤ 160 from (by first | exact x_rbe e_z407 g_z407 rfl rfl | exact x_rb g_z407 rfl rfl | exact ⟨by omega, by omega⟩))
          have f_s408 : FL [4133, 4136, 4132] s0 s408 := by rw [e_s408]; exact f_s402.up (show 4133 ∈ [4133, 4136, 4132] from by decide +kernel)
          have q409 : s408 256 34 = x1001 := by rw [e_s408, x_up_i (by decide)]; exact q404
          have q410 : s408 256 39 = x1002 := by rw [e_s408, x_up_i (by decide)]; exact q405
          have q411 : s408 256 36 = z407 := by rw [e_s408]; exact x_up_same
          have q412 : s408 283 x1000.toNat = z383 := by rw [e_s408, x_up_q (by first | decide | omega)]; exact q406
          refine x_goto k180_126 (t := 42) rfl ?_
          refine x_ls (l := [(0, .ref 256), (1, vi x1), (2, vi x2), (3, vi x3), (4, vi x4), (5, vi x5), (6, vi x6)]) (show ([0, 1, 2, 3, 4, 5, 6] : List Nat).Nodup from by decide +kernel) ⟨rfl, rfl, rfl, rfl, rfl, rfl, rfl, trivial⟩ ?_
          exact ih s408 x1 x2 x3 x4 x5 x6 z407 x1001 x1002 hG_s408 f_s408 (by first | exact x_rb b_x1 rfl rfl | exact ⟨by omega, by omega⟩) (by first | exact x_rb b_x2 rfl rfl | exact ⟨by omega, by omega⟩) (by first | exact x_rb b_x3 rfl rfl | exact ⟨by omega, by omega⟩) (by first | exact x_rb b_x4 rfl rfl | exact ⟨by omega, by omega⟩) (by first | exact x_rb b_x5 rfl rfl | exact ⟨by omega, by omega⟩) (by first | exact x_rb b_x6 rfl rfl | exact ⟨by omega, by omega⟩) (by first | exact x_rbe e_z407 g_z407 rfl rfl | exact x_rb g_z407 rfl rfl | exact ⟨by omega, by omega⟩) (by first | exact x_rb b_x1001 rfl rfl | exact ⟨by omega, by omega⟩) (by first | exact x_rb b_x1002 rfl rfl | exact ⟨by omega, by omega⟩) (by omega) (by omega) (by omega) (by omega) (by omega) (by omega) (by omega) (by omega) (q411).symm (q409).symm (q410).symm  (by omega)
      · rw [e_z384]
        show xe none 180 72 [(0, .ref 256), (1, vi x1), (2, vi x2), (3, vi x3), (4, vi x4), (5, vi x5), (6, vi x6)] [vi 0] s 0 0 _
        refine x_if_eq k180_72 (t := 129) rfl ⟨by decide, by decide⟩ (fun c413 => ?_) (fun c413 => by exfalso; omega)
        refine x_A k180_129 (fun _ => rfl) ?_
        refine x_getI k180_130 (f := 36) rfl (q := 256) (n := 62) (kd := 15) ⟨by decide, rfl⟩ (by decide) rfl ?_
        rw [e_x1000.symm]
        refine x_A k180_133 (fun _ => rfl) ?_
        refine x_isub k180_135 ?_
        refine x_top (fun z414 e_z414 => ?_)
        refine x_A k180_136 (fun _ => rfl) ?_
        refine x_ic_le k180_137 (t := 148) rfl (by first | exact x_rbe e_z414 g_z414 rfl rfl | exact x_rb g_z414 rfl rfl | exact ⟨by omega, by omega⟩) (by first | exact x_rb b_x3 rfl rfl | exact ⟨by omega, by omega⟩) (fun c415 => ?_) (fun c415 => ?_)
        · skip
          refine x_A k180_148 (fun _ => rfl) ?_
          refine x_getI k180_149 (f := 39) rfl (q := 256) (n := 62) (kd := 15) ⟨by decide, rfl⟩ (by decide) rfl ?_
          rw [e_x1002.symm]
          refine x_i2l k180_152 (by first | exact x_rb b_x1002 rfl rfl | exact ⟨by omega, by omega⟩) ?_
          refine x_A k180_153 (fun _ => rfl) ?_
          refine x_i2l k180_154 (by first | exact x_rb b_x1 rfl rfl | exact ⟨by omega, by omega⟩) ?_
          refine x_A k180_155 (fun _ => rfl) ?_
          refine x_i2l k180_156 (by first | exact x_rb b_x2 rfl rfl | exact ⟨by omega, by omega⟩) ?_
          refine x_callS k180_157 (y := 136) (n := 3) (w0 := 0) (w1 := 6) (as := [vj x1002, vj x1, vj x2]) (rest := []) (by decide +kernel) rfl rfl rfl rfl (xe_mono (C_X11_in s hG x1002 ⟨by omega, by omega⟩ x1 ⟨by omega, by omega⟩ x2 ⟨by omega, by omega⟩) ?_)
          rintro s417 v ⟨h_s417, z416, rfl, hz_z416⟩
          rw [h_s417]
          rcases hz_z416 with ⟨c_z416, e_z416⟩ | ⟨c_z416, e_z416⟩
          · rw [e_z416]
            show xe none 180 160 [(0, .ref 256), (1, vi x1), (2, vi x2), (3, vi x3), (4, vi x4), (5, vi x5), (6, vi x6)] [vi 1] s 0 0 _
            refine x_if_eq k180_160 (t := 167) rfl ⟨by decide, by decide⟩ (fun c418 => by exfalso; omega) (fun c418 => ?_)
            refine x_A k180_163 (fun _ => rfl) ?_
            refine x_goto k180_164 (t := 175) rfl ?_
            exact x_iret k180_175 rfl ⟨hG, f, 0, rfl, ⟨by decide, by decide⟩, by omega⟩
          · rw [e_z416]
            show xe none 180 160 [(0, .ref 256), (1, vi x1), (2, vi x2), (3, vi x3), (4, vi x4), (5, vi x5), (6, vi x6)] [vi 0] s 0 0 _
            refine x_if_eq k180_160 (t := 167) rfl ⟨by decide, by decide⟩ (fun c419 => ?_) (fun c419 => by exfalso; omega)
            refine x_A k180_167 (fun _ => rfl) ?_
            refine x_A k180_168 (fun _ => rfl) ?_
            refine x_A k180_170 (fun _ => rfl) ?_
            refine x_callV k180_172 (y := 177) (n := 2) (w0 := 0) (w1 := 2) (as := [vi x4, vi x6]) (rest := []) (by decide +kernel) (q := 256) (nq := 62) (kq := 15) ⟨by decide, rfl⟩ rfl rfl rfl rfl (xe_mono (C_X11_fails_256 s hG x4 (by first | exact x_rb b_x4 rfl rfl | exact ⟨by omega, by omega⟩) x6 (by first | exact x_rb b_x6 rfl rfl | exact ⟨by omega, by omega⟩)) ?_)
            rintro s421 v ⟨hG_s421, t_s421, z420, rfl, g_z420, xp_z420⟩
            have f_s421 : FL [4133, 4136, 4132] s0 s421 := f.tr t_s421 (by decide +kernel)
            have q422 : s421 256 36 = x1000 := (t_s421 256 36 (show 4133 ∉ [4132] from by decide +kernel)).trans e_x1000.symm
            have q423 : s421 256 34 = x1001 := (t_s421 256 34 (show 4131 ∉ [4132] from by decide +kernel)).trans e_x1001.symm
            have q424 : s421 256 39 = x1002 := (t_s421 256 39 (show 4136 ∉ [4132] from by decide +kernel)).trans e_x1002.symm
            have q425 : s421 283 x1000.toNat = z383 := (t_s421 283 x1000.toNat (show 5824 ∉ [4132] from by decide +kernel)).trans e_z383.symm
            show xe none 180 175 [(0, .ref 256), (1, vi x1), (2, vi x2), (3, vi x3), (4, vi x4), (5, vi x5), (6, vi x6)] [vi z420] s421 0 0 _
            exact x_iret k180_175 rfl ⟨hG_s421, f_s421, z420, rfl, (by first | exact x_rbe e_z420 g_z420 rfl rfl | exact x_rb g_z420 rfl rfl | exact ⟨by omega, by omega⟩), by omega⟩
        · skip
          refine x_A k180_140 (fun _ => rfl) ?_
          refine x_A k180_141 (fun _ => rfl) ?_
          refine x_A k180_142 (fun _ => rfl) ?_
          refine x_callV k180_144 (y := 177) (n := 2) (w0 := 0) (w1 := 2) (as := [vi 2, vi x6]) (rest := []) (by decide +kernel) (q := 256) (nq := 62) (kq := 15) ⟨by decide, rfl⟩ rfl rfl rfl rfl (xe_mono (C_X11_fails_256 s hG 2 ⟨by decide, by decide⟩ x6 (by first | exact x_rb b_x6 rfl rfl | exact ⟨by omega, by omega⟩)) ?_)
          rintro s427 v ⟨hG_s427, t_s427, z426, rfl, g_z426, xp_z426⟩
          have f_s427 : FL [4133, 4136, 4132] s0 s427 := f.tr t_s427 (by decide +kernel)
          have q428 : s427 256 36 = x1000 := (t_s427 256 36 (show 4133 ∉ [4132] from by decide +kernel)).trans e_x1000.symm
          have q429 : s427 256 34 = x1001 := (t_s427 256 34 (show 4131 ∉ [4132] from by decide +kernel)).trans e_x1001.symm
          have q430 : s427 256 39 = x1002 := (t_s427 256 39 (show 4136 ∉ [4132] from by decide +kernel)).trans e_x1002.symm
          have q431 : s427 283 x1000.toNat = z383 := (t_s427 283 x1000.toNat (show 5824 ∉ [4132] from by decide +kernel)).trans e_z383.symm
          show xe none 180 147 [(0, .ref 256), (1, vi x1), (2, vi x2), (3, vi x3), (4, vi x4), (5, vi x5), (6, vi x6)] [vi z426] s427 0 0 _
          exact x_iret k180_147 rfl ⟨hG_s427, f_s427, z426, rfl, (by first | exact x_rbe e_z426 g_z426 rfl rfl | exact x_rb g_z426 rfl rfl | exact ⟨by omega, by omega⟩), by omega⟩
theorem C_X11_readNumber_256 (s0 : xS) (hG0 : GI s0) (a : Int) (b_a : (-2147483648) ≤ a ∧ a ≤ 2147483647) (b : Int) (b_b : (-2147483648) ≤ b ∧ b ≤ 2147483647) (d : Int) (b_d : (-2147483648) ≤ d ∧ d ≤ 2147483647) (e : Int) (b_e : 1 ≤ e ∧ e ≤ 5) : xe none 180 0 (lv_args 0 [.ref 256, vi a, vi b, vi d, vi e]) [] s0 0 0 (fun s' v => GI s' ∧ FL [4133, 4136, 4132] s0 s' ∧ ∃ z, v = some (vi z) ∧ (0 ≤ z ∧ z ≤ 5) ∧ ((z = 0 → a ≤ s' 256 39 ∧ s' 256 39 ≤ b) ∧ s0 256 36 ≤ s' 256 36 ∧ (s0 256 36 ≤ s' 256 34 → s' 256 36 ≤ s' 256 34))) := by
  have f0 : FL [4133, 4136, 4132] s0 s0 := FL.rf
  show xe none 180 0 [(0, .ref 256), (1, vi a), (2, vi b), (3, vi d), (4, vi e)] [] s0 0 0 _
  refine x_A k180_0 (fun _ => rfl) ?_
  refine x_callV k180_1 (y := 176) (n := 0) (w0 := 0) (w1 := 0) (as := []) (rest := []) (by decide +kernel) (q := 256) (nq := 62) (kq := 15) ⟨by decide, rfl⟩ rfl rfl rfl rfl (xe_mono (C_X11_here_256 s0 hG0) ?_)
  rintro s433 v ⟨hG_s433, t_s433, z432, rfl, g_z432, xp_z432⟩
  have f_s433 : FL [4133, 4136, 4132] s0 s433 := f0.tr t_s433 (by decide +kernel)
  obtain ⟨z434, e_z434⟩ : ∃ z, z = s433 256 36 := ⟨_, rfl⟩
  have g_z434 : (0 : Int) ≤ s433 256 36 ∧ s433 256 36 ≤ 160 := hG_s433 256 36
  obtain ⟨z435, e_z435⟩ : ∃ z, z = s433 256 34 := ⟨_, rfl⟩
  have g_z435 : (0 : Int) ≤ s433 256 34 ∧ s433 256 34 ≤ 160 := hG_s433 256 34
  show xe none 180 4 [(0, .ref 256), (1, vi a), (2, vi b), (3, vi d), (4, vi e)] [vi z432] s433 0 0 _
  refine x_istore k180_4 (ls' := [(5, vi z432), (0, .ref 256), (1, vi a), (2, vi b), (3, vi d), (4, vi e)]) (by decide) rfl ?_
  refine x_A k180_6 (fun _ => rfl) ?_
  refine x_i2l k180_8 (by first | exact x_rbe e_z432 g_z432 rfl rfl | exact x_rb g_z432 rfl rfl | exact ⟨by omega, by omega⟩) ?_
  refine x_ldc2 k180_9 (z := 48) rfl (by decide +kernel) ?_
  refine x_ldc2 k180_12 (z := 57) rfl (by decide +kernel) ?_
  refine x_callS k180_15 (y := 136) (n := 3) (w0 := 0) (w1 := 6) (as := [vj z432, vj 48, vj 57]) (rest := []) (by decide +kernel) rfl rfl rfl rfl (xe_mono (C_X11_in s433 hG_s433 z432 ⟨by omega, by omega⟩ 48 ⟨by omega, by omega⟩ 57 ⟨by omega, by omega⟩) ?_)
  rintro s437 v ⟨h_s437, z436, rfl, hz_z436⟩
  rw [h_s437]
  rcases hz_z436 with ⟨c_z436, e_z436⟩ | ⟨c_z436, e_z436⟩
  · rw [e_z436]
    show xe none 180 18 [(5, vi z432), (0, .ref 256), (1, vi a), (2, vi b), (3, vi d), (4, vi e)] [vi 1] s433 0 0 _
    refine x_if_ne k180_18 (t := 31) rfl ⟨by decide, by decide⟩ (fun c438 => ?_) (fun c438 => by exfalso; omega)
    refine x_A k180_31 (fun _ => rfl) ?_
    refine x_getI k180_32 (f := 36) rfl (q := 256) (n := 62) (kd := 15) ⟨by decide, rfl⟩ (by decide) rfl ?_
    rw [e_z434.symm]
    refine x_istore k180_35 (ls' := [(6, vi z434), (5, vi z432), (0, .ref 256), (1, vi a), (2, vi b), (3, vi d), (4, vi e)]) (by decide) rfl ?_
    refine x_A k180_37 (fun _ => rfl) ?_
    refine x_A k180_38 (fun _ => rfl) ?_
    refine x_putI k180_39 (f := 39) rfl (q := 256) (n := 62) (kd := 15) ⟨by decide, rfl⟩ rfl rfl rfl ?_
    refine x_nh (fun s439 e_s439 => ?_)
    have hG_s439 : GI s439 := by rw [e_s439]; exact hG_s433.up (show 0 ≤ 0 ∧ 0 ≤ 1100000 from ⟨by decide, by decide⟩)
    have f_s439 : FL [4133, 4136, 4132] s0 s439 := by rw [e_s439]; exact f_s433.up (show 4136 ∈ [4133, 4136, 4132] from by decide +kernel)
    have q440 : s439 256 36 = z434 := by rw [e_s439, x_up_i (by decide)]; exact e_z434.symm
    have q441 : s439 256 34 = z435 := by rw [e_s439, x_up_i (by decide)]; exact e_z435.symm
    have q442 : s439 256 39 = 0 := by rw [e_s439]; exact x_up_same
    refine x_ls (l := [(0, .ref 256), (1, vi a), (2, vi b), (3, vi d), (4, vi e), (5, vi z432), (6, vi z434)]) (show ([0, 1, 2, 3, 4, 5, 6] : List Nat).Nodup from by decide +kernel) ⟨rfl, rfl, rfl, rfl, rfl, rfl, rfl, trivial⟩ ?_
    exact L_C_X11_readNumber_256_42 s0 a b_a b b_b d b_d e b_e  (((160 - z434) + 1 : Int)).toNat s439 a b d e z432 z434 z434 z435 0 hG_s439 f_s439 (by first | exact x_rb b_a rfl rfl | exact ⟨by omega, by omega⟩) (by first | exact x_rb b_b rfl rfl | exact ⟨by omega, by omega⟩) (by first | exact x_rb b_d rfl rfl | exact ⟨by omega, by omega⟩) (by first | exact x_rb b_e rfl rfl | exact ⟨by omega, by omega⟩) (by first | exact x_rbe e_z432 g_z432 rfl rfl | exact x_rb g_z432 rfl rfl | exact ⟨by omega, by omega⟩) (by first | exact x_rbe e_z434 g_z434 rfl rfl | exact x_rb g_z434 rfl rfl | exact ⟨by omega, by omega⟩) (by first | exact x_rbe e_z434 g_z434 rfl rfl | exact x_rb g_z434 rfl rfl | exact ⟨by omega, by omega⟩) (by first | exact x_rbe e_z435 g_z435 rfl rfl | exact x_rb g_z435 rfl rfl | exact ⟨by omega, by omega⟩) ⟨by decide, by decide⟩ (by omega) (by omega) (by omega) (by omega) (by omega) (by omega) (by omega) (by omega) (q440).symm (q441).symm (q442).symm  (by omega)
  · rw [e_z436]
    show xe none 180 18 [(5, vi z432), (0, .ref 256), (1, vi a), (2, vi b), (3, vi d), (4, vi e)] [vi 0] s433 0 0 _
    refine x_if_ne k180_18 (t := 31) rfl ⟨by decide, by decide⟩ (fun c443 => by exfalso; omega) (fun c443 => ?_)
    refine x_A k180_21 (fun _ => rfl) ?_
    refine x_A k180_22 (fun _ => rfl) ?_
    refine x_A k180_23 (fun _ => rfl) ?_
    refine x_getI k180_24 (f := 36) rfl (q := 256) (n := 62) (kd := 15) ⟨by decide, rfl⟩ (by decide) rfl ?_
    rw [e_z434.symm]
    refine x_callV k180_27 (y := 177) (n := 2) (w0 := 0) (w1 := 2) (as := [vi 1, vi z434]) (rest := []) (by decide +kernel) (q := 256) (nq := 62) (kq := 15) ⟨by decide, rfl⟩ rfl rfl rfl rfl (xe_mono (C_X11_fails_256 s433 hG_s433 1 ⟨by decide, by decide⟩ z434 (by first | exact x_rbe e_z434 g_z434 rfl rfl | exact x_rb g_z434 rfl rfl | exact ⟨by omega, by omega⟩)) ?_)
    rintro s445 v ⟨hG_s445, t_s445, z444, rfl, g_z444, xp_z444⟩
    have f_s445 : FL [4133, 4136, 4132] s0 s445 := f_s433.tr t_s445 (by decide +kernel)
    have q446 : s445 256 36 = z434 := (t_s445 256 36 (show 4133 ∉ [4132] from by decide +kernel)).trans e_z434.symm
    have q447 : s445 256 34 = z435 := (t_s445 256 34 (show 4131 ∉ [4132] from by decide +kernel)).trans e_z435.symm
    show xe none 180 30 [(5, vi z432), (0, .ref 256), (1, vi a), (2, vi b), (3, vi d), (4, vi e)] [vi z444] s445 0 0 _
    obtain ⟨z448, e_z448⟩ : ∃ z, z = s445 256 39 := ⟨_, rfl⟩
    have g_z448 : (0 : Int) ≤ s445 256 39 ∧ s445 256 39 ≤ 1100000 := hG_s445 256 39
    exact x_iret k180_30 rfl ⟨hG_s445, f_s445, z444, rfl, (by first | exact x_rbe e_z444 g_z444 rfl rfl | exact x_rb g_z444 rfl rfl | exact ⟨by omega, by omega⟩), by omega⟩
/-! THE INVARIANT J: what is true of both objects between calls beyond bounds -/
/-- a clause that counts has its numbers in their ranges -/
def okC (k a b : Int) : Prop := ((k = 1 ∨ k = 2 ∨ k = 3) → 0 ≤ a ∧ a ≤ 5) ∧ (k = 3 → 0 ≤ b ∧ b ≤ 5) ∧ (k = 4 → 0 ≤ a ∧ a ≤ 39)
/-- the class's rules: the first R of them -/
def JCr (s : xS) (R : Int) : Prop := ∀ r n : Int, 0 ≤ r → r ≤ 7 → r < R → 0 ≤ n → n < s 181 r.toNat → n < 8 ∧ okC (s (182 + 1 + r.toNat) n.toNat) (s (191 + 1 + r.toNat) n.toNat) (s (200 + 1 + r.toNat) n.toNat)
/-- the reference's forest of parents, in each edition, with a rank -/
def JP1 (s : xS) (rk : Int → Int → Nat) : Prop := ∀ m e : Int, 0 ≤ m → m ≤ 39 → 0 ≤ e → e ≤ 9 → (m = 0 → s 260 (10 * m + e).toNat = -1) ∧ (m ≠ 0 → 0 ≤ s 260 (10 * m + e).toNat ∧ rk e (s 260 (10 * m + e).toNat) < rk e m)
def JP2 (s : xS) : Prop := ∀ m e : Int, 0 ≤ m → m ≤ 39 → 0 ≤ e → e ≤ 9 → s 260 (10 * m + e).toNat < s 256 1 ∧ (s 256 0 ≤ e → s 260 (10 * m + e).toNat = s 260 (10 * m + s 256 0).toNat)
/-- ends and joins of the reference -/
def JE1 (s : xS) (jr : Int → Nat) : Prop := ∀ m : Int, 0 ≤ m → m ≤ 39 → 0 ≤ s 259 m.toNat → jr (s 259 m.toNat) < jr m
def JE2 (s : xS) : Prop := s 257 0 = 0 ∧ s 258 0 = -1 ∧ ∀ m : Int, 0 ≤ m → m ≤ 39 → s 258 m.toNat ≤ s 256 0 ∧ (m < s 256 1 → s 258 m.toNat < 0 → s 259 m.toNat < 0)
/-- rules of the reference: the first N clauses -/
def JRc (s : xS) (N : Int) : Prop := ∀ c : Int, 0 ≤ c → c < N → s 272 c.toNat = 0 → 0 ≤ s 273 c.toNat ∧ s 273 c.toNat ≤ 5
def JR2 (s : xS) : Prop := s 271 (s 256 17).toNat = s 256 20 ∧ s 256 20 ≤ 8 * s 256 17 ∧ ∀ k : Int, 0 ≤ k → k ≤ 8 → s 271 k.toNat ≤ s 256 20
/-- copies of the reference -/
def JK (s : xS) : Prop := (∀ p : Int, 1 ≤ p → p ≤ 39 → s 263 p.toNat < p) ∧ (0 < s 256 6 → s 263 0 = -1)
/-- how many lie on the pile behind the first k steps of a row -/
def dp (f : Int → Int) : Nat → Int
  | 0 => 0
  | k + 1 => dp f k + (if f k < 2 then -1 else if f k = 2 then 0 else 1)
/-- no step takes from an empty pile -/
def okrow (f : Int → Int) (n : Int) : Prop := ∀ k : Nat, (k : Int) < n → (f k < 2 → 2 ≤ dp f k) ∧ (f k = 2 → 1 ≤ dp f k)
def JA (s : xS) : Prop := ∀ a : Int, 0 ≤ a → a < s 256 43 → okrow (fun k => s 287 (110 * a + k).toNat) (s 286 a.toNat)
def J (s : xS) : Prop := JCr s (s 179 5) ∧ (∃ rk, JP1 s rk) ∧ JP2 s ∧ (∃ jr, JE1 s jr) ∧ JE2 s ∧ JRc s (s 256 20) ∧ JR2 s ∧ JK s ∧ JA s
/-- J's places -/
def LJ : List Nat := [1350, 1472, 1600, 1728, 1856, 4352, 4097, 4098, 4160, 4224, 4288, 5120, 5184, 5056, 4114, 4117, 4544, 4103, 4140, 6016, 6080]
theorem JCr.fl {L : List Nat} {s s' : xS} {R : Int} (h : JCr s R) (f : FL L s s') (hL : ∀ x ∈ [1472, 1600, 1728, 1856], x ∉ L) : JCr s' R := by
  intro r n r0 r1 r2 n0 n1
  rw [f 181 r.toNat (hL 1472 (by decide))] at n1
  rw [f (182 + 1 + r.toNat) n.toNat (by rw [(gr_183 n.toNat (by omega) (by omega)).2.2]; exact hL 1600 (by decide)), f (191 + 1 + r.toNat) n.toNat (by rw [(gr_192 n.toNat (by omega) (by omega)).2.2]; exact hL 1728 (by decide)), f (200 + 1 + r.toNat) n.toNat (by rw [(gr_201 n.toNat (by omega) (by omega)).2.2]; exact hL 1856 (by decide))]
  exact h r n r0 r1 r2 n0 n1
theorem JP1.fl {L : List Nat} {s s' : xS} {rk : Int → Int → Nat} (h : JP1 s rk) (f : FL L s s') (hL : 4352 ∉ L) : JP1 s' rk := by
  have a : s' 260 = s 260 := funext fun i => f 260 i hL
  unfold JP1
  rw [a]
  exact h
theorem JE1.fl {L : List Nat} {s s' : xS} {jr : Int → Nat} (h : JE1 s jr) (f : FL L s s') (hL : 4288 ∉ L) : JE1 s' jr := by
  have a : s' 259 = s 259 := funext fun i => f 259 i hL
  unfold JE1
  rw [a]
  exact h
theorem JRc.fl {L : List Nat} {s s' : xS} {N : Int} (h : JRc s N) (f : FL L s s') (hL : ∀ x ∈ [5120, 5184], x ∉ L) : JRc s' N := by
  have a : s' 272 = s 272 := funext fun i => f 272 i (hL 5120 (by decide))
  have b : s' 273 = s 273 := funext fun i => f 273 i (hL 5184 (by decide))
  unfold JRc
  rw [a, b]
  exact h
theorem J.fl {L : List Nat} {s s' : xS} (h : J s) (f : FL L s s') (hL : ∀ x ∈ LJ, x ∉ L) : J s' := by
  obtain ⟨h1, ⟨rk, h2⟩, h3, ⟨jr, h4⟩, h5, h6, h7, h8, h9⟩ := h
  have a1 : s' 179 5 = s 179 5 := f 179 5 (hL 1350 (by decide))
  have a2 : s' 256 0 = s 256 0 := f 256 0 (hL 4097 (by decide))
  have a3 : s' 256 1 = s 256 1 := f 256 1 (hL 4098 (by decide))
  have a4 : s' 256 17 = s 256 17 := f 256 17 (hL 4114 (by decide))
  have a5 : s' 256 20 = s 256 20 := f 256 20 (hL 4117 (by decide))
  have a6 : s' 256 6 = s 256 6 := f 256 6 (hL 4103 (by decide))
  have a7 : s' 256 43 = s 256 43 := f 256 43 (hL 4140 (by decide))
  have b1 : s' 260 = s 260 := funext fun i => f 260 i (hL 4352 (by decide))
  have b2 : s' 257 = s 257 := funext fun i => f 257 i (hL 4160 (by decide))
  have b3 : s' 258 = s 258 := funext fun i => f 258 i (hL 4224 (by decide))
  have b4 : s' 259 = s 259 := funext fun i => f 259 i (hL 4288 (by decide))
  have b5 : s' 271 = s 271 := funext fun i => f 271 i (hL 5056 (by decide))
  have b6 : s' 263 = s 263 := funext fun i => f 263 i (hL 4544 (by decide))
  have b7 : s' 286 = s 286 := funext fun i => f 286 i (hL 6016 (by decide))
  have b8 : s' 287 = s 287 := funext fun i => f 287 i (hL 6080 (by decide))
  refine ⟨?_, ⟨rk, h2.fl f (hL 4352 (by decide))⟩, ?_, ⟨jr, h4.fl f (hL 4288 (by decide))⟩, ?_, ?_, ?_, ?_, ?_⟩
  · rw [a1]
    exact h1.fl f (fun x hx => hL x (by revert x; decide))
  · unfold JP2; rw [b1, a2, a3]; exact h3
  · unfold JE2; rw [b2, b3, b4, a2, a3]; exact h5
  · rw [a5]; exact h6.fl f (fun x hx => hL x (by revert x; decide))
  · unfold JR2; rw [b5, a4, a5]; exact h7
  · unfold JK; rw [b6, a6]; exact h8
  · unfold JA; rw [b7, b8, a7]; exact h9
theorem J.up {s : xS} {q i : Nat} {v : Int} (h : J s) (hL : x_pl q i ∉ LJ) : J (x_up s q i v) := h.fl (L := [x_pl q i]) (FL.rf.up (List.mem_singleton.mpr rfl)) (fun x hx hm => hL (by rw [← List.mem_singleton.mp hm]; exact hx))
/-- the measure of a way up -/
def rkm (f : Int → Nat) (x : Int) : Nat := if x < 0 then 0 else f x + 1
theorem JP1.dn {s : xS} {rk : Int → Int → Nat} (h : JP1 s rk) (m e : Int) (hm : 0 ≤ m ∧ m ≤ 39) (he : 0 ≤ e ∧ e ≤ 9) : rkm (rk e) (s 260 (10 * m + e).toNat) < rkm (rk e) m ∧ (m ≠ 0 → 0 ≤ s 260 (10 * m + e).toNat) := by
  obtain ⟨h1, h2⟩ := h m e hm.1 hm.2 he.1 he.2
  by_cases hz : m = 0
  · refine ⟨?_, fun z => absurd hz z⟩
    rw [h1 hz]
    unfold rkm
    rw [if_pos (by omega), if_neg (by omega)]
    omega
  · refine ⟨?_, fun z => (h2 z).1⟩
    have := h2 hz
    unfold rkm
    rw [if_neg (by omega), if_neg (by omega)]
    omega
/-- the measure of a way along joins -/
def jm (s : xS) (jr : Int → Nat) (e m : Int) : Nat := if 0 ≤ s 258 m.toNat ∧ s 258 m.toNat ≤ e then jr m + 1 else 0
theorem jm_le {s : xS} {jr : Int → Nat} (e m : Int) : jm s jr e m ≤ jr m + 1 := by
  unfold jm
  split <;> omega
theorem jm_in {s : xS} {jr : Int → Nat} {e m : Int} (h : 0 ≤ s 258 m.toNat ∧ s 258 m.toNat ≤ e) : jm s jr e m = jr m + 1 := if_pos h
theorem jm_out {s : xS} {jr : Int → Nat} {e m : Int} (h : s 258 m.toNat < 0 ∨ e < s 258 m.toNat) : jm s jr e m = 0 := if_neg (by omega)
theorem J.n0 {s : xS} (h : J s) (hG : GI s) {m e : Int} (he : 0 ≤ e) (hn : ¬ (0 ≤ m ∧ m < s 256 1 ∧ (s 257 m.toNat ≤ e ∧ (s 258 m.toNat < 0 ∨ e < s 258 m.toNat)))) : m ≠ 0 := by
  rintro rfl
  obtain ⟨h1, h2, h3, h4, ⟨h5, h6, h7⟩, h8⟩ := h
  have g : (1 : Int) ≤ s 256 1 ∧ s 256 1 ≤ 40 := hG 256 1
  exact hn ⟨by omega, by omega, by show s 257 0 ≤ e; omega, Or.inl (by show s 258 0 < 0; omega)⟩
theorem J.rf {s : xS} (h : J s) (k z : Int) (e : z = s 271 k.toNat) : k = s 256 17 → z = s 256 20 := by
  rintro rfl
  rw [e]
  exact h.2.2.2.2.2.2.1.1
theorem J.cl {s : xS} (h : J s) : s 256 20 ≤ 8 * s 256 17 := h.2.2.2.2.2.2.1.2.1
theorem J.rl {s : xS} (h : J s) (k : Int) (h0 : 0 ≤ k ∧ k ≤ 8) : s 271 k.toNat ≤ s 256 20 := h.2.2.2.2.2.2.1.2.2 k h0.1 h0.2
theorem J.sn {s : xS} (h : J s) (c k : Int) (h0 : 0 ≤ k ∧ k ≤ 8) (hc : 0 ≤ c) (hk : c < s 271 k.toNat) : s 272 c.toNat = 0 → 0 ≤ s 273 c.toNat ∧ s 273 c.toNat ≤ 5 := h.2.2.2.2.2.1 c hc (by have := h.rl k h0; omega)
theorem J.ck {s : xS} (h : J s) (p : Int) (hp : 0 ≤ p ∧ p ≤ 39) (h0 : 0 < s 256 6) : s 263 p.toNat < p := by
  obtain ⟨a, b⟩ := h.2.2.2.2.2.2.2.1
  by_cases hz : p = 0
  · rw [hz]
    show s 263 0 < 0
    rw [b h0]
    decide
  · exact a p (by omega) hp.2
theorem dp_le (f : Int → Int) (k : Nat) : dp f k ≤ k := by
  induction k with
  | zero => exact Int.le_refl 0
  | succ k ih =>
    rw [dp]
    split
    · omega
    · split <;> omega
theorem J.row {s : xS} (h : J s) (a k : Int) (ha : 0 ≤ a) (ha2 : a < s 256 43) (hk : 0 ≤ k) (hk2 : k < s 286 a.toNat) :
    (s 287 (110 * a + k).toNat < 2 → 2 ≤ dp (fun k => s 287 (110 * a + k).toNat) k.toNat) ∧ (s 287 (110 * a + k).toNat = 2 → 1 ≤ dp (fun k => s 287 (110 * a + k).toNat) k.toNat) ∧ dp (fun k => s 287 (110 * a + k).toNat) k.toNat ≤ k ∧
    (s 287 (110 * a + k).toNat < 2 → dp (fun k => s 287 (110 * a + k).toNat) (k + 1).toNat = dp (fun k => s 287 (110 * a + k).toNat) k.toNat - 1) ∧ (s 287 (110 * a + k).toNat = 2 → dp (fun k => s 287 (110 * a + k).toNat) (k + 1).toNat = dp (fun k => s 287 (110 * a + k).toNat) k.toNat) ∧ (2 < s 287 (110 * a + k).toNat → dp (fun k => s 287 (110 * a + k).toNat) (k + 1).toNat = dp (fun k => s 287 (110 * a + k).toNat) k.toNat + 1) := by
  have hr := h.2.2.2.2.2.2.2.2 a ha ha2 k.toNat (by omega)
  have e1 : ((k.toNat : Nat) : Int) = k := by omega
  have e2 : (k + 1).toNat = k.toNat + 1 := by omega
  have e3 := dp_le (fun k => s 287 (110 * a + k).toNat) k.toNat
  rw [e2, dp]
  simp only [e1] at hr e3 ⊢
  refine ⟨hr.1, hr.2, e3, fun z => ?_, fun z => ?_, fun z => ?_⟩
  · rw [if_pos z]; omega
  · rw [if_neg (by omega), if_pos z]; omega
  · rw [if_neg (by omega), if_neg (by omega)]
theorem J.cr {s : xS} (h : J s) (r n : Int) (r0 : 0 ≤ r ∧ r ≤ 7) (r2 : r < s 179 5) (n0 : 0 ≤ n) (n1 : n < s 181 r.toNat) : n < 8 ∧ ((s (182 + 1 + r.toNat) n.toNat = 1 ∨ s (182 + 1 + r.toNat) n.toNat = 2 ∨ s (182 + 1 + r.toNat) n.toNat = 3) → 0 ≤ s (191 + 1 + r.toNat) n.toNat ∧ s (191 + 1 + r.toNat) n.toNat ≤ 5) ∧ (s (182 + 1 + r.toNat) n.toNat = 3 → 0 ≤ s (200 + 1 + r.toNat) n.toNat ∧ s (200 + 1 + r.toNat) n.toNat ≤ 5) ∧ (s (182 + 1 + r.toNat) n.toNat = 4 → 0 ≤ s (191 + 1 + r.toNat) n.toNat ∧ s (191 + 1 + r.toNat) n.toNat ≤ 39) := h.1 r n r0.1 r0.2 r2 n0 n1
theorem x_wrap (a : Int) : ∃ z, in32 z ∧ vi a = vi z := by
  obtain ⟨z, h1, h2⟩ := in32_any (Int32.ofInt a)
  exact ⟨z, h1, by unfold vi; rw [h2]⟩
