theorem L_C_X11_here_256_0 (s0 : xS)   : ∀ (n : Nat) (s : xS) (x1000 : Int) (x1001 : Int) (hG : GI s) (f : FL [4133] s0 s) (b_x1000 : 0 ≤ x1000 ∧ x1000 ≤ 160) (b_x1001 : 0 ≤ x1001 ∧ x1001 ≤ 160) (w_0 : s0 256 36 ≤ x1000) (w_1 : s0 256 36 ≤ x1001 → x1000 ≤ x1001) (e_x1000 : x1000 = s 256 36) (e_x1001 : x1001 = s 256 34)  (hm : (160 - x1000) < (n : Int)), xe none 176 0 [(0, .ref 256)] [] s 0 0 (fun s' v => GI s' ∧ FL [4133] s0 s' ∧ ∃ z, v = some (vi z) ∧ ((-1) ≤ z ∧ z ≤ 255) ∧ ((0 ≤ z → s' 256 36 < s' 256 34) ∧ s0 256 36 ≤ s' 256 36 ∧ (s0 256 36 ≤ s' 256 34 → s' 256 36 ≤ s' 256 34))) := by
  intro n
  induction n with
  | zero => intro s x1000 x1001 hG f b_x1000 b_x1001 w_0 w_1 e_x1000 e_x1001  hm; exfalso; omega
  | succ n ih =>
    intro s x1000 x1001 hG f b_x1000 b_x1001 w_0 w_1 e_x1000 e_x1001  hm
    refine x_A k176_0 (fun _ => rfl) ?_
    refine x_getI k176_1 (f := 36) rfl (q := 256) (n := 62) (kd := 15) ⟨by decide, rfl⟩ (by decide) rfl ?_
    rw [e_x1000.symm]
    refine x_A k176_4 (fun _ => rfl) ?_
    refine x_getI k176_5 (f := 34) rfl (q := 256) (n := 62) (kd := 15) ⟨by decide, rfl⟩ (by decide) rfl ?_
    rw [e_x1001.symm]
    refine x_ic_ge k176_8 (t := 38) rfl (by first | exact x_rb b_x1000 rfl rfl | exact ⟨by omega, by omega⟩) (by first | exact x_rb b_x1001 rfl rfl | exact ⟨by omega, by omega⟩) (fun c35 => ?_) (fun c35 => ?_)
    · skip
      refine x_A k176_38 (fun _ => rfl) ?_
      refine x_getI k176_39 (f := 36) rfl (q := 256) (n := 62) (kd := 15) ⟨by decide, rfl⟩ (by decide) rfl ?_
      rw [e_x1000.symm]
      refine x_A k176_42 (fun _ => rfl) ?_
      refine x_getI k176_43 (f := 34) rfl (q := 256) (n := 62) (kd := 15) ⟨by decide, rfl⟩ (by decide) rfl ?_
      rw [e_x1001.symm]
      refine x_ic_ge k176_46 (t := 61) rfl (by first | exact x_rb b_x1000 rfl rfl | exact ⟨by omega, by omega⟩) (by first | exact x_rb b_x1001 rfl rfl | exact ⟨by omega, by omega⟩) (fun c36 => ?_) (fun c36 => by exfalso; omega)
      refine x_A k176_61 (fun _ => rfl) ?_
      exact x_iret k176_62 rfl ⟨hG, f, (-1), rfl, ⟨by decide, by decide⟩, by omega⟩
    · skip
      refine x_A k176_11 (fun _ => rfl) ?_
      refine x_getR k176_12 (f := 33) rfl (q := 256) (n := 62) (kd := 15) ⟨by decide, rfl⟩ (q2 := 283) (by decide) rfl ?_
      refine x_A k176_15 (fun _ => rfl) ?_
      refine x_getI k176_16 (f := 36) rfl (q := 256) (n := 62) (kd := 15) ⟨by decide, rfl⟩ (by decide) rfl ?_
      rw [e_x1000.symm]
      refine x_iald k176_19 (q := 283) (n := 160) ⟨by decide, rfl⟩ (by decide) (by first | exact x_rbl b_x1000 rfl rfl | exact ⟨by omega, by omega⟩) ?_
      refine x_top (fun z37 e_z37 => ?_)
      have g_z37 : (0 : Int) ≤ s 283 x1000.toNat ∧ s 283 x1000.toNat ≤ 255 := hG 283 x1000.toNat
      refine x_bipush k176_20 (by decide +kernel) ?_
      refine x_ic_ne k176_22 (t := 38) rfl (by first | exact x_rbe e_z37 g_z37 rfl rfl | exact x_rb g_z37 rfl rfl | exact ⟨by omega, by omega⟩) ⟨by decide, by decide⟩ (fun c38 => ?_) (fun c38 => ?_)
      · skip
        refine x_A k176_38 (fun _ => rfl) ?_
        refine x_getI k176_39 (f := 36) rfl (q := 256) (n := 62) (kd := 15) ⟨by decide, rfl⟩ (by decide) rfl ?_
        rw [e_x1000.symm]
        refine x_A k176_42 (fun _ => rfl) ?_
        refine x_getI k176_43 (f := 34) rfl (q := 256) (n := 62) (kd := 15) ⟨by decide, rfl⟩ (by decide) rfl ?_
        rw [e_x1001.symm]
        refine x_ic_ge k176_46 (t := 61) rfl (by first | exact x_rb b_x1000 rfl rfl | exact ⟨by omega, by omega⟩) (by first | exact x_rb b_x1001 rfl rfl | exact ⟨by omega, by omega⟩) (fun c39 => by exfalso; omega) (fun c39 => ?_)
        refine x_A k176_49 (fun _ => rfl) ?_
        refine x_getR k176_50 (f := 33) rfl (q := 256) (n := 62) (kd := 15) ⟨by decide, rfl⟩ (q2 := 283) (by decide) rfl ?_
        refine x_A k176_53 (fun _ => rfl) ?_
        refine x_getI k176_54 (f := 36) rfl (q := 256) (n := 62) (kd := 15) ⟨by decide, rfl⟩ (by decide) rfl ?_
        rw [e_x1000.symm]
        refine x_iald k176_57 (q := 283) (n := 160) ⟨by decide, rfl⟩ (by decide) (by first | exact x_rbl b_x1000 rfl rfl | exact ⟨by omega, by omega⟩) ?_
        rw [e_z37.symm]
        refine x_goto k176_58 (t := 62) rfl ?_
        exact x_iret k176_62 rfl ⟨hG, f, z37, rfl, (by first | exact x_rbe e_z37 g_z37 rfl rfl | exact x_rb g_z37 rfl rfl | exact ⟨by omega, by omega⟩), by omega⟩
      · skip
        refine x_A k176_25 (fun _ => rfl) ?_
        refine x_A k176_26 (fun _ => rfl) ?_
        refine x_getI k176_27 (f := 36) rfl (q := 256) (n := 62) (kd := 15) ⟨by decide, rfl⟩ (by decide) rfl ?_
        rw [e_x1000.symm]
        refine x_A k176_30 (fun _ => rfl) ?_
        refine x_iadd k176_31 ?_
        refine x_top (fun z40 e_z40 => ?_)
        refine x_putI k176_32 (f := 36) rfl (q := 256) (n := 62) (kd := 15) ⟨by decide, rfl⟩ rfl rfl rfl ?_
        refine x_nh (fun s41 e_s41 => ?_)
        have hG_s41 : GI s41 := by rw [e_s41]; exact hG.up (show 0 ≤ z40 ∧ z40 ≤ 160 from (by first | exact x_rbe e_z40 g_z40 rfl rfl | exact x_rb g_z40 rfl rfl | exact ⟨by omega, by omega⟩))
        have f_s41 : FL [4133] s0 s41 := by rw [e_s41]; exact f.up (show 4133 ∈ [4133] from by decide +kernel)
        have q42 : s41 256 34 = x1001 := by rw [e_s41, x_up_i (by decide)]; exact e_x1001.symm
        have q43 : s41 256 36 = z40 := by rw [e_s41]; exact x_up_same
        have q44 : s41 283 x1000.toNat = z37 := by rw [e_s41, x_up_q (by first | decide | omega)]; exact e_z37.symm
        refine x_goto k176_35 (t := 0) rfl ?_
        refine x_ls (l := [(0, .ref 256)]) (show ([0] : List Nat).Nodup from by decide +kernel) ⟨rfl, trivial⟩ ?_
        exact ih s41 z40 x1001 hG_s41 f_s41 (by first | exact x_rbe e_z40 g_z40 rfl rfl | exact x_rb g_z40 rfl rfl | exact ⟨by omega, by omega⟩) (by first | exact x_rb b_x1001 rfl rfl | exact ⟨by omega, by omega⟩) (by omega) (by omega) (q43).symm (q42).symm  (by omega)
theorem C_X11_here_256 (s0 : xS) (hG0 : GI s0)  : xe none 176 0 (lv_args 0 [.ref 256]) [] s0 0 0 (fun s' v => GI s' ∧ FL [4133] s0 s' ∧ ∃ z, v = some (vi z) ∧ ((-1) ≤ z ∧ z ≤ 255) ∧ ((0 ≤ z → s' 256 36 < s' 256 34) ∧ s0 256 36 ≤ s' 256 36 ∧ (s0 256 36 ≤ s' 256 34 → s' 256 36 ≤ s' 256 34))) := by
  have f0 : FL [4133] s0 s0 := FL.rf
  show xe none 176 0 [(0, .ref 256)] [] s0 0 0 _
  obtain ⟨z45, e_z45⟩ : ∃ z, z = s0 256 36 := ⟨_, rfl⟩
  have g_z45 : (0 : Int) ≤ s0 256 36 ∧ s0 256 36 ≤ 160 := hG0 256 36
  obtain ⟨z46, e_z46⟩ : ∃ z, z = s0 256 34 := ⟨_, rfl⟩
  have g_z46 : (0 : Int) ≤ s0 256 34 ∧ s0 256 34 ≤ 160 := hG0 256 34
  refine x_ls (l := [(0, .ref 256)]) (show ([0] : List Nat).Nodup from by decide +kernel) ⟨rfl, trivial⟩ ?_
  exact L_C_X11_here_256_0 s0   (((160 - z45) + 1 : Int)).toNat s0 z45 z46 hG0 f0 (by first | exact x_rbe e_z45 g_z45 rfl rfl | exact x_rb g_z45 rfl rfl | exact ⟨by omega, by omega⟩) (by first | exact x_rbe e_z46 g_z46 rfl rfl | exact x_rb g_z46 rfl rfl | exact ⟨by omega, by omega⟩) (by omega) (by omega) (e_z45.symm).symm (e_z46.symm).symm  (by omega)
theorem L_C_X11_readWord_256_18 (s0 : xS)   : ∀ (n : Nat) (s : xS) (x1 : Int) (x1000 : Int) (x1001 : Int) (x1002 : Int) (hG : GI s) (f : FL [4133, 4134, 4135] s0 s) (b_x1 : (-1) ≤ x1 ∧ x1 ≤ 255) (b_x1000 : 0 ≤ x1000 ∧ x1000 ≤ 160) (b_x1001 : 0 ≤ x1001 ∧ x1001 ≤ 160) (b_x1002 : 0 ≤ x1002 ∧ x1002 ≤ 160) (r_1000_1002 : x1000 ≤ x1002 + 0) (w_0 : s0 256 36 ≤ x1000) (w_1 : s0 256 36 ≤ x1001 → x1002 ≤ x1001) (w_2 : x1000 ≤ x1002) (w_3 : s 256 37 ≠ 0 → x1000 < x1002) (e_x1000 : x1000 = s 256 36) (e_x1001 : x1001 = s 256 34) (e_x1002 : x1002 = s 256 38)  (hm : (160 - x1002) < (n : Int)), xe none 178 18 [(0, .ref 256), (1, vi x1)] [] s 0 0 (fun s' v => GI s' ∧ FL [4133, 4134, 4135] s0 s' ∧ v = none ∧ (s0 256 36 ≤ s' 256 36 ∧ (s0 256 36 ≤ s' 256 34 → s' 256 38 ≤ s' 256 34) ∧ s' 256 36 ≤ s' 256 38 ∧ (s' 256 37 ≠ 0 → s' 256 36 < s' 256 38))) := by
  intro n
  induction n with
  | zero => intro s x1 x1000 x1001 x1002 hG f b_x1 b_x1000 b_x1001 b_x1002 r_1000_1002 w_0 w_1 w_2 w_3 e_x1000 e_x1001 e_x1002  hm; exfalso; omega
  | succ n ih =>
    intro s x1 x1000 x1001 x1002 hG f b_x1 b_x1000 b_x1001 b_x1002 r_1000_1002 w_0 w_1 w_2 w_3 e_x1000 e_x1001 e_x1002  hm
    refine x_A k178_18 (fun _ => rfl) ?_
    refine x_getI k178_19 (f := 38) rfl (q := 256) (n := 62) (kd := 15) ⟨by decide, rfl⟩ (by decide) rfl ?_
    rw [e_x1002.symm]
    refine x_A k178_22 (fun _ => rfl) ?_
    refine x_getI k178_23 (f := 34) rfl (q := 256) (n := 62) (kd := 15) ⟨by decide, rfl⟩ (by decide) rfl ?_
    rw [e_x1001.symm]
    refine x_ic_ge k178_26 (t := 108) rfl (by first | exact x_rb b_x1002 rfl rfl | exact ⟨by omega, by omega⟩) (by first | exact x_rb b_x1001 rfl rfl | exact ⟨by omega, by omega⟩) (fun c141 => ?_) (fun c141 => ?_)
    · skip
      exact x_vret k178_108 rfl ⟨hG, f, rfl, by omega⟩
    · skip
      refine x_A k178_29 (fun _ => rfl) ?_
      refine x_getR k178_30 (f := 33) rfl (q := 256) (n := 62) (kd := 15) ⟨by decide, rfl⟩ (q2 := 283) (by decide) rfl ?_
      refine x_A k178_33 (fun _ => rfl) ?_
      refine x_getI k178_34 (f := 38) rfl (q := 256) (n := 62) (kd := 15) ⟨by decide, rfl⟩ (by decide) rfl ?_
      rw [e_x1002.symm]
      refine x_iald k178_37 (q := 283) (n := 160) ⟨by decide, rfl⟩ (by decide) (by first | exact x_rbl b_x1002 rfl rfl | exact ⟨by omega, by omega⟩) ?_
      refine x_top (fun z142 e_z142 => ?_)
      have g_z142 : (0 : Int) ≤ s 283 x1002.toNat ∧ s 283 x1002.toNat ≤ 255 := hG 283 x1002.toNat
      refine x_i2l k178_38 (by first | exact x_rbe e_z142 g_z142 rfl rfl | exact x_rb g_z142 rfl rfl | exact ⟨by omega, by omega⟩) ?_
      refine x_ldc2 k178_39 (z := 97) rfl (by decide +kernel) ?_
      refine x_ldc2 k178_42 (z := 122) rfl (by decide +kernel) ?_
      refine x_callS k178_45 (y := 136) (n := 3) (w0 := 0) (w1 := 6) (as := [vj z142, vj 97, vj 122]) (rest := []) (by decide +kernel) rfl rfl rfl rfl (xe_mono (C_X11_in s hG z142 ⟨by omega, by omega⟩ 97 ⟨by omega, by omega⟩ 122 ⟨by omega, by omega⟩) ?_)
      rintro s144 v ⟨h_s144, z143, rfl, hz_z143⟩
      rw [h_s144]
      rcases hz_z143 with ⟨c_z143, e_z143⟩ | ⟨c_z143, e_z143⟩
      · rw [e_z143]
        show xe none 178 48 [(0, .ref 256), (1, vi x1)] [vi 1] s 0 0 _
        refine x_if_eq k178_48 (t := 108) rfl ⟨by decide, by decide⟩ (fun c145 => by exfalso; omega) (fun c145 => ?_)
        refine x_A k178_51 (fun _ => rfl) ?_
        refine x_A k178_52 (fun _ => rfl) ?_
        refine x_getJ k178_53 (f := 37) rfl (q := 256) (n := 62) (kd := 15) ⟨by decide, rfl⟩ (by decide) rfl ?_
        refine x_topL (fun z146 e_z146 => ?_)
        have b_z146 : in64 z146 := by rw [e_z146]; exact hG 256 37
        refine x_ldc2 k178_56 (z := 10000000000) rfl (by decide +kernel) ?_
        refine x_lc_le k178_59 k178_60 (t := 69) rfl b_z146 ⟨by omega, by omega⟩ (fun c147 => ?_) (fun c147 => ?_)
        · skip
          refine x_ldc2 k178_69 (z := 27) rfl (by decide +kernel) ?_
          refine x_A k178_72 (fun _ => rfl) ?_
          refine x_getJ k178_73 (f := 37) rfl (q := 256) (n := 62) (kd := 15) ⟨by decide, rfl⟩ (by decide) rfl ?_
          refine x_topL (fun z148 e_z148 => ?_)
          have b_z148 : in64 z148 := by rw [e_z148]; exact hG 256 37
          refine x_lmul_any k178_76 (fun z149 b_z149 => ?_)
          refine x_A k178_77 (fun _ => rfl) ?_
          refine x_getR k178_78 (f := 33) rfl (q := 256) (n := 62) (kd := 15) ⟨by decide, rfl⟩ (q2 := 283) (by decide) rfl ?_
          refine x_A k178_81 (fun _ => rfl) ?_
          refine x_getI k178_82 (f := 38) rfl (q := 256) (n := 62) (kd := 15) ⟨by decide, rfl⟩ (by decide) rfl ?_
          rw [e_x1002.symm]
          refine x_iald k178_85 (q := 283) (n := 160) ⟨by decide, rfl⟩ (by decide) (by first | exact x_rbl b_x1002 rfl rfl | exact ⟨by omega, by omega⟩) ?_
          rw [e_z142.symm]
          refine x_i2l k178_86 (by first | exact x_rbe e_z142 g_z142 rfl rfl | exact x_rb g_z142 rfl rfl | exact ⟨by omega, by omega⟩) ?_
          refine x_ladd_any k178_87 (fun z150 b_z150 => ?_)
          refine x_ldc2 k178_88 (z := 96) rfl (by decide +kernel) ?_
          refine x_lsub_any k178_91 (fun z151 b_z151 => ?_)
          refine x_putJ k178_92 (f := 37) rfl (q := 256) (n := 62) (kd := 15) ⟨by decide, rfl⟩ rfl rfl rfl ?_
          refine x_nh (fun s152 e_s152 => ?_)
          have hG_s152 : GI s152 := by rw [e_s152]; exact hG.up (show in64 z151 from b_z151)
          have f_s152 : FL [4133, 4134, 4135] s0 s152 := by rw [e_s152]; exact f.up (show 4134 ∈ [4133, 4134, 4135] from by decide +kernel)
          have q153 : s152 256 36 = x1000 := by rw [e_s152, x_up_i (by decide)]; exact e_x1000.symm
          have q154 : s152 256 34 = x1001 := by rw [e_s152, x_up_i (by decide)]; exact e_x1001.symm
          have q155 : s152 256 38 = x1002 := by rw [e_s152, x_up_i (by decide)]; exact e_x1002.symm
          have q156 : s152 256 37 = z151 := by rw [e_s152]; exact x_up_same
          have q157 : s152 283 x1002.toNat = z142 := by rw [e_s152, x_up_q (by first | decide | omega)]; exact e_z142.symm
          refine x_A k178_95 (fun _ => rfl) ?_
          refine x_A k178_96 (fun _ => rfl) ?_
          refine x_getI k178_97 (f := 38) rfl (q := 256) (n := 62) (kd := 15) ⟨by decide, rfl⟩ (by decide) rfl ?_
          rw [q155]
          refine x_A k178_100 (fun _ => rfl) ?_
          refine x_iadd k178_101 ?_
          refine x_top (fun z158 e_z158 => ?_)
          refine x_putI k178_102 (f := 38) rfl (q := 256) (n := 62) (kd := 15) ⟨by decide, rfl⟩ rfl rfl rfl ?_
          refine x_nh (fun s159 e_s159 => ?_)
          have hG_s159 : GI s159 := by rw [e_s159]; exact hG_s152.up (show 0 ≤ z158 ∧ z158 ≤ 160 from (by first | exact x_rbe e_z158 g_z158 rfl rfl | exact x_rb g_z158 rfl rfl | exact ⟨by omega, by omega⟩))
          have f_s159 : FL [4133, 4134, 4135] s0 s159 := by rw [e_s159]; exact f_s152.up (show 4135 ∈ [4133, 4134, 4135] from by decide +kernel)
          have q160 : s159 256 36 = x1000 := by rw [e_s159, x_up_i (by decide)]; exact q153
          have q161 : s159 256 34 = x1001 := by rw [e_s159, x_up_i (by decide)]; exact q154
          have q162 : s159 256 37 = z151 := by rw [e_s159, x_up_i (by decide)]; exact q156
          have q163 : s159 256 38 = z158 := by rw [e_s159]; exact x_up_same
          have q164 : s159 283 x1002.toNat = z142 := by rw [e_s159, x_up_q (by first | decide | omega)]; exact q157
          refine x_goto k178_105 (t := 18) rfl ?_
          refine x_ls (l := [(0, .ref 256), (1, vi x1)]) (show ([0, 1] : List Nat).Nodup from by decide +kernel) ⟨rfl, rfl, trivial⟩ ?_
          exact ih s159 x1 x1000 x1001 z158 hG_s159 f_s159 (by first | exact x_rb b_x1 rfl rfl | exact ⟨by omega, by omega⟩) (by first | exact x_rb b_x1000 rfl rfl | exact ⟨by omega, by omega⟩) (by first | exact x_rb b_x1001 rfl rfl | exact ⟨by omega, by omega⟩) (by first | exact x_rbe e_z158 g_z158 rfl rfl | exact x_rb g_z158 rfl rfl | exact ⟨by omega, by omega⟩) (by omega) (by omega) (by omega) (by omega) (by omega) (q160).symm (q161).symm (q163).symm  (by omega)
        · skip
          refine x_ldc2 k178_63 (z := 20000000000) rfl (by decide +kernel) ?_
          refine x_goto k178_66 (t := 92) rfl ?_
          refine x_putJ k178_92 (f := 37) rfl (q := 256) (n := 62) (kd := 15) ⟨by decide, rfl⟩ rfl rfl rfl ?_
          refine x_nh (fun s165 e_s165 => ?_)
          have hG_s165 : GI s165 := by rw [e_s165]; exact hG.up (show in64 20000000000 from ⟨by omega, by omega⟩)
          have f_s165 : FL [4133, 4134, 4135] s0 s165 := by rw [e_s165]; exact f.up (show 4134 ∈ [4133, 4134, 4135] from by decide +kernel)
          have q166 : s165 256 36 = x1000 := by rw [e_s165, x_up_i (by decide)]; exact e_x1000.symm
          have q167 : s165 256 34 = x1001 := by rw [e_s165, x_up_i (by decide)]; exact e_x1001.symm
          have q168 : s165 256 38 = x1002 := by rw [e_s165, x_up_i (by decide)]; exact e_x1002.symm
          have q169 : s165 256 37 = 20000000000 := by rw [e_s165]; exact x_up_same
          have q170 : s165 283 x1002.toNat = z142 := by rw [e_s165, x_up_q (by first | decide | omega)]; exact e_z142.symm
          refine x_A k178_95 (fun _ => rfl) ?_
          refine x_A k178_96 (fun _ => rfl) ?_
          refine x_getI k178_97 (f := 38) rfl (q := 256) (n := 62) (kd := 15) ⟨by decide, rfl⟩ (by decide) rfl ?_
          rw [q168]
          refine x_A k178_100 (fun _ => rfl) ?_
          refine x_iadd k178_101 ?_
          refine x_top (fun z171 e_z171 => ?_)
          refine x_putI k178_102 (f := 38) rfl (q := 256) (n := 62) (kd := 15) ⟨by decide, rfl⟩ rfl rfl rfl ?_
          refine x_nh (fun s172 e_s172 => ?_)
          have hG_s172 : GI s172 := by rw [e_s172]; exact hG_s165.up (show 0 ≤ z171 ∧ z171 ≤ 160 from (by first | exact x_rbe e_z171 g_z171 rfl rfl | exact x_rb g_z171 rfl rfl | exact ⟨by omega, by omega⟩))
          have f_s172 : FL [4133, 4134, 4135] s0 s172 := by rw [e_s172]; exact f_s165.up (show 4135 ∈ [4133, 4134, 4135] from by decide +kernel)
          have q173 : s172 256 36 = x1000 := by rw [e_s172, x_up_i (by decide)]; exact q166
          have q174 : s172 256 34 = x1001 := by rw [e_s172, x_up_i (by decide)]; exact q167
          have q175 : s172 256 37 = 20000000000 := by rw [e_s172, x_up_i (by decide)]; exact q169
          have q176 : s172 256 38 = z171 := by rw [e_s172]; exact x_up_same
          have q177 : s172 283 x1002.toNat = z142 := by rw [e_s172, x_up_q (by first | decide | omega)]; exact q170
          refine x_goto k178_105 (t := 18) rfl ?_
          refine x_ls (l := [(0, .ref 256), (1, vi x1)]) (show ([0, 1] : List Nat).Nodup from by decide +kernel) ⟨rfl, rfl, trivial⟩ ?_
          exact ih s172 x1 x1000 x1001 z171 hG_s172 f_s172 (by first | exact x_rb b_x1 rfl rfl | exact ⟨by omega, by omega⟩) (by first | exact x_rb b_x1000 rfl rfl | exact ⟨by omega, by omega⟩) (by first | exact x_rb b_x1001 rfl rfl | exact ⟨by omega, by omega⟩) (by first | exact x_rbe e_z171 g_z171 rfl rfl | exact x_rb g_z171 rfl rfl | exact ⟨by omega, by omega⟩) (by omega) (by omega) (by omega) (by omega) (by omega) (q173).symm (q174).symm (q176).symm  (by omega)
      · rw [e_z143]
        show xe none 178 48 [(0, .ref 256), (1, vi x1)] [vi 0] s 0 0 _
        refine x_if_eq k178_48 (t := 108) rfl ⟨by decide, by decide⟩ (fun c178 => ?_) (fun c178 => by exfalso; omega)
        exact x_vret k178_108 rfl ⟨hG, f, rfl, by omega⟩
theorem C_X11_readWord_256 (s0 : xS) (hG0 : GI s0)  : xe none 178 0 (lv_args 0 [.ref 256]) [] s0 0 0 (fun s' v => GI s' ∧ FL [4133, 4134, 4135] s0 s' ∧ v = none ∧ (s0 256 36 ≤ s' 256 36 ∧ (s0 256 36 ≤ s' 256 34 → s' 256 38 ≤ s' 256 34) ∧ s' 256 36 ≤ s' 256 38 ∧ (s' 256 37 ≠ 0 → s' 256 36 < s' 256 38))) := by
  have f0 : FL [4133, 4134, 4135] s0 s0 := FL.rf
  show xe none 178 0 [(0, .ref 256)] [] s0 0 0 _
  refine x_A k178_0 (fun _ => rfl) ?_
  refine x_callV k178_1 (y := 176) (n := 0) (w0 := 0) (w1 := 0) (as := []) (rest := []) (by decide +kernel) (q := 256) (nq := 62) (kq := 15) ⟨by decide, rfl⟩ rfl rfl rfl rfl (xe_mono (C_X11_here_256 s0 hG0) ?_)
  rintro s180 v ⟨hG_s180, t_s180, z179, rfl, g_z179, xp_z179⟩
  have f_s180 : FL [4133, 4134, 4135] s0 s180 := f0.tr t_s180 (by decide +kernel)
  obtain ⟨z181, e_z181⟩ : ∃ z, z = s180 256 36 := ⟨_, rfl⟩
  have g_z181 : (0 : Int) ≤ s180 256 36 ∧ s180 256 36 ≤ 160 := hG_s180 256 36
  obtain ⟨z182, e_z182⟩ : ∃ z, z = s180 256 34 := ⟨_, rfl⟩
  have g_z182 : (0 : Int) ≤ s180 256 34 ∧ s180 256 34 ≤ 160 := hG_s180 256 34
  show xe none 178 4 [(0, .ref 256)] [vi z179] s180 0 0 _
  refine x_istore_n k178_4 (ls' := [(1, vi z179), (0, .ref 256)]) (by decide) rfl ?_
  refine x_A k178_5 (fun _ => rfl) ?_
  refine x_lconst k178_6 (z := 0) (by decide +kernel) ?_
  refine x_putJ k178_7 (f := 37) rfl (q := 256) (n := 62) (kd := 15) ⟨by decide, rfl⟩ rfl rfl rfl ?_
  refine x_nh (fun s183 e_s183 => ?_)
  have hG_s183 : GI s183 := by rw [e_s183]; exact hG_s180.up (show in64 0 from ⟨by omega, by omega⟩)
  have f_s183 : FL [4133, 4134, 4135] s0 s183 := by rw [e_s183]; exact f_s180.up (show 4134 ∈ [4133, 4134, 4135] from by decide +kernel)
  have q184 : s183 256 36 = z181 := by rw [e_s183, x_up_i (by decide)]; exact e_z181.symm
  have q185 : s183 256 34 = z182 := by rw [e_s183, x_up_i (by decide)]; exact e_z182.symm
  have q186 : s183 256 37 = 0 := by rw [e_s183]; exact x_up_same
  refine x_A k178_10 (fun _ => rfl) ?_
  refine x_A k178_11 (fun _ => rfl) ?_
  refine x_getI k178_12 (f := 36) rfl (q := 256) (n := 62) (kd := 15) ⟨by decide, rfl⟩ (by decide) rfl ?_
  rw [q184]
  refine x_putI k178_15 (f := 38) rfl (q := 256) (n := 62) (kd := 15) ⟨by decide, rfl⟩ rfl rfl rfl ?_
  refine x_nh (fun s187 e_s187 => ?_)
  have hG_s187 : GI s187 := by rw [e_s187]; exact hG_s183.up (show 0 ≤ z181 ∧ z181 ≤ 160 from (by first | exact x_rbe e_z181 g_z181 rfl rfl | exact x_rb g_z181 rfl rfl | exact ⟨by omega, by omega⟩))
  have f_s187 : FL [4133, 4134, 4135] s0 s187 := by rw [e_s187]; exact f_s183.up (show 4135 ∈ [4133, 4134, 4135] from by decide +kernel)
  have q188 : s187 256 36 = z181 := by rw [e_s187, x_up_i (by decide)]; exact q184
  have q189 : s187 256 34 = z182 := by rw [e_s187, x_up_i (by decide)]; exact q185
  have q190 : s187 256 37 = 0 := by rw [e_s187, x_up_i (by decide)]; exact q186
  have q191 : s187 256 38 = z181 := by rw [e_s187]; exact x_up_same
  refine x_ls (l := [(0, .ref 256), (1, vi z179)]) (show ([0, 1] : List Nat).Nodup from by decide +kernel) ⟨rfl, rfl, trivial⟩ ?_
  exact L_C_X11_readWord_256_18 s0   (((160 - z181) + 1 : Int)).toNat s187 z179 z181 z182 z181 hG_s187 f_s187 (by first | exact x_rbe e_z179 g_z179 rfl rfl | exact x_rb g_z179 rfl rfl | exact ⟨by omega, by omega⟩) (by first | exact x_rbe e_z181 g_z181 rfl rfl | exact x_rb g_z181 rfl rfl | exact ⟨by omega, by omega⟩) (by first | exact x_rbe e_z182 g_z182 rfl rfl | exact x_rb g_z182 rfl rfl | exact ⟨by omega, by omega⟩) (by first | exact x_rbe e_z181 g_z181 rfl rfl | exact x_rb g_z181 rfl rfl | exact ⟨by omega, by omega⟩) (by omega) (by omega) (by omega) (by omega) (by omega) (q188).symm (q189).symm (q191).symm  (by omega)
theorem C_X11_needs_256 (s0 : xS) (hG0 : GI s0) (a : Int) (b_a : in64 a) : xe none 181 0 (lv_args 0 [.ref 256, vj a]) [] s0 0 0 (fun s' v => GI s' ∧ FL [4133, 4134, 4135, 4132] s0 s' ∧ ∃ z, v = some (vi z) ∧ (0 ≤ z ∧ z ≤ 1)) := by
  have f0 : FL [4133, 4134, 4135, 4132] s0 s0 := FL.rf
  show xe none 181 0 [(0, .ref 256), (1, vj a)] [] s0 0 0 _
  refine x_A k181_0 (fun _ => rfl) ?_
  refine x_callV k181_1 (y := 178) (n := 0) (w0 := 0) (w1 := 0) (as := []) (rest := []) (by decide +kernel) (q := 256) (nq := 62) (kq := 15) ⟨by decide, rfl⟩ rfl rfl rfl rfl (xe_mono (C_X11_readWord_256 s0 hG0) ?_)
  rintro s2 v ⟨hG_s2, t_s2, rfl, xp_z1⟩
  have f_s2 : FL [4133, 4134, 4135, 4132] s0 s2 := f0.tr t_s2 (by decide +kernel)
  obtain ⟨z3, e_z3⟩ : ∃ z, z = s2 256 36 := ⟨_, rfl⟩
  have g_z3 : (0 : Int) ≤ s2 256 36 ∧ s2 256 36 ≤ 160 := hG_s2 256 36
  obtain ⟨z4, e_z4⟩ : ∃ z, z = s2 256 34 := ⟨_, rfl⟩
  have g_z4 : (0 : Int) ≤ s2 256 34 ∧ s2 256 34 ≤ 160 := hG_s2 256 34
  obtain ⟨z5, e_z5⟩ : ∃ z, z = s2 256 38 := ⟨_, rfl⟩
  have g_z5 : (0 : Int) ≤ s2 256 38 ∧ s2 256 38 ≤ 160 := hG_s2 256 38
  show xe none 181 4 [(0, .ref 256), (1, vj a)] [] s2 0 0 _
  refine x_A k181_4 (fun _ => rfl) ?_
  refine x_getJ k181_5 (f := 37) rfl (q := 256) (n := 62) (kd := 15) ⟨by decide, rfl⟩ (by decide) rfl ?_
  refine x_topL (fun z6 e_z6 => ?_)
  have b_z6 : in64 z6 := by rw [e_z6]; exact hG_s2 256 37
  refine x_A k181_8 (fun _ => rfl) ?_
  refine x_lc_eq k181_9 k181_10 (t := 23) rfl b_z6 b_a (fun c7 => ?_) (fun c7 => ?_)
  · skip
    refine x_A k181_23 (fun _ => rfl) ?_
    refine x_A k181_24 (fun _ => rfl) ?_
    refine x_getI k181_25 (f := 38) rfl (q := 256) (n := 62) (kd := 15) ⟨by decide, rfl⟩ (by decide) rfl ?_
    rw [e_z5.symm]
    refine x_putI k181_28 (f := 36) rfl (q := 256) (n := 62) (kd := 15) ⟨by decide, rfl⟩ rfl rfl rfl ?_
    refine x_nh (fun s8 e_s8 => ?_)
    have hG_s8 : GI s8 := by rw [e_s8]; exact hG_s2.up (show 0 ≤ z5 ∧ z5 ≤ 160 from (by first | exact x_rbe e_z5 g_z5 rfl rfl | exact x_rb g_z5 rfl rfl | exact ⟨by omega, by omega⟩))
    have f_s8 : FL [4133, 4134, 4135, 4132] s0 s8 := by rw [e_s8]; exact f_s2.up (show 4133 ∈ [4133, 4134, 4135, 4132] from by decide +kernel)
    have q9 : s8 256 34 = z4 := by rw [e_s8, x_up_i (by decide)]; exact e_z4.symm
    have q10 : s8 256 38 = z5 := by rw [e_s8, x_up_i (by decide)]; exact e_z5.symm
    have q11 : s8 256 36 = z5 := by rw [e_s8]; exact x_up_same
    refine x_A k181_31 (fun _ => rfl) ?_
    exact x_iret k181_32 rfl ⟨hG_s8, f_s8, 0, rfl, ⟨by decide, by decide⟩⟩
  · skip
    refine x_A k181_13 (fun _ => rfl) ?_
    refine x_A k181_14 (fun _ => rfl) ?_
    refine x_A k181_15 (fun _ => rfl) ?_
    refine x_getI k181_16 (f := 36) rfl (q := 256) (n := 62) (kd := 15) ⟨by decide, rfl⟩ (by decide) rfl ?_
    rw [e_z3.symm]
    refine x_callV k181_19 (y := 177) (n := 2) (w0 := 0) (w1 := 2) (as := [vi 1, vi z3]) (rest := []) (by decide +kernel) (q := 256) (nq := 62) (kq := 15) ⟨by decide, rfl⟩ rfl rfl rfl rfl (xe_mono (C_X11_fails_256 s2 hG_s2 1 ⟨by decide, by decide⟩ z3 (by first | exact x_rbe e_z3 g_z3 rfl rfl | exact x_rb g_z3 rfl rfl | exact ⟨by omega, by omega⟩)) ?_)
    rintro s13 v ⟨hG_s13, t_s13, z12, rfl, g_z12, xp_z12⟩
    have f_s13 : FL [4133, 4134, 4135, 4132] s0 s13 := f_s2.tr t_s13 (by decide +kernel)
    have q14 : s13 256 36 = z3 := (t_s13 256 36 (show 4133 ∉ [4132] from by decide +kernel)).trans e_z3.symm
    have q15 : s13 256 34 = z4 := (t_s13 256 34 (show 4131 ∉ [4132] from by decide +kernel)).trans e_z4.symm
    have q16 : s13 256 38 = z5 := (t_s13 256 38 (show 4135 ∉ [4132] from by decide +kernel)).trans e_z5.symm
    show xe none 181 22 [(0, .ref 256), (1, vj a)] [vi z12] s13 0 0 _
    exact x_iret k181_22 rfl ⟨hG_s13, f_s13, z12, rfl, (by first | exact x_rbe e_z12 g_z12 rfl rfl | exact x_rb g_z12 rfl rfl | exact ⟨by omega, by omega⟩)⟩
theorem L_C_X11_feed_256_37 (s0 : xS)   : ∀ (n : Nat) (s : xS) (x1 : Int) (x2 : Int) (x4 : Int) (x1000 : Int) (hG : GI s) (f : FL [4131, 5824] s0 s) (b_x1 : 1 ≤ x1 ∧ x1 ≤ 8) (b_x2 : in64 x2) (b_x4 : (-1) ≤ x4 ∧ x4 ≤ 7) (b_x1000 : 0 ≤ x1000 ∧ x1000 ≤ 160) (r_4_1 : x4 ≤ x1 + 0) (w_0 : x1000 + x4 ≤ 159) (e_x1000 : x1000 = s 256 34)  (hm : (x4 - (-1)) < (n : Int)), xe none 175 37 [(0, .ref 256), (1, vi x1), (2, vj x2), (4, vi x4)] [] s 0 0 (fun s' v => GI s' ∧ FL [4131, 5824] s0 s' ∧ ∃ z, v = some (vi z) ∧ ((-1004) ≤ z ∧ z ≤ 160)) := by
  intro n
  induction n with
  | zero => intro s x1 x2 x4 x1000 hG f b_x1 b_x2 b_x4 b_x1000 r_4_1 w_0 e_x1000  hm; exfalso; omega
  | succ n ih =>
    intro s x1 x2 x4 x1000 hG f b_x1 b_x2 b_x4 b_x1000 r_4_1 w_0 e_x1000  hm
    refine x_A k175_37 (fun _ => rfl) ?_
    refine x_if_lt k175_39 (t := 79) rfl (by first | exact x_rb b_x4 rfl rfl | exact ⟨by omega, by omega⟩) (fun c50 => ?_) (fun c50 => ?_)
    · skip
      refine x_A k175_79 (fun _ => rfl) ?_
      refine x_getI k175_80 (f := 34) rfl (q := 256) (n := 62) (kd := 15) ⟨by decide, rfl⟩ (by decide) rfl ?_
      rw [e_x1000.symm]
      exact x_iret k175_83 rfl ⟨hG, f, x1000, rfl, (by first | exact x_rb b_x1000 rfl rfl | exact ⟨by omega, by omega⟩)⟩
    · skip
      refine x_A k175_42 (fun _ => rfl) ?_
      refine x_getR k175_43 (f := 33) rfl (q := 256) (n := 62) (kd := 15) ⟨by decide, rfl⟩ (q2 := 283) (by decide) rfl ?_
      refine x_A k175_46 (fun _ => rfl) ?_
      refine x_getI k175_47 (f := 34) rfl (q := 256) (n := 62) (kd := 15) ⟨by decide, rfl⟩ (by decide) rfl ?_
      rw [e_x1000.symm]
      refine x_A k175_50 (fun _ => rfl) ?_
      refine x_bipush k175_51 (by decide +kernel) ?_
      refine x_A k175_53 (fun _ => rfl) ?_
      refine x_imul k175_55 ?_
      refine x_top (fun z51 e_z51 => ?_)
      refine x_lshr_any k175_56 (fun z52 b_z52 => ?_)
      refine x_ldc2 k175_57 (z := 255) rfl (by decide +kernel) ?_
      refine x_land_mask k175_60 ⟨by omega, by omega⟩ (fun z53 g_z53 => ?_)
      refine x_l2i k175_61 ⟨by omega, by omega⟩ ?_
      refine x_iast k175_62 (q := 283) (n := 160) ⟨by decide, rfl⟩ (by decide) (by first | exact x_rbl b_x1000 rfl rfl | exact ⟨by omega, by omega⟩) ?_
      refine x_nh (fun s54 e_s54 => ?_)
      have hG_s54 : GI s54 := by rw [e_s54]; exact hG.up (show 0 ≤ z53 ∧ z53 ≤ 255 from (by first | exact x_rbe e_z53 g_z53 rfl rfl | exact x_rb g_z53 rfl rfl | exact ⟨by omega, by omega⟩))
      have f_s54 : FL [4131, 5824] s0 s54 := by rw [e_s54]; exact f.up (show 5824 ∈ [4131, 5824] from by decide +kernel)
      have q55 : s54 256 34 = x1000 := by rw [e_s54, x_up_q (by decide)]; exact e_x1000.symm
      have q56 : s54 283 x1000.toNat = z53 := by rw [e_s54]; exact x_up_same
      refine x_A k175_63 (fun _ => rfl) ?_
      refine x_A k175_64 (fun _ => rfl) ?_
      refine x_getI k175_65 (f := 34) rfl (q := 256) (n := 62) (kd := 15) ⟨by decide, rfl⟩ (by decide) rfl ?_
      rw [q55]
      refine x_A k175_68 (fun _ => rfl) ?_
      refine x_iadd k175_69 ?_
      refine x_top (fun z57 e_z57 => ?_)
      refine x_putI k175_70 (f := 34) rfl (q := 256) (n := 62) (kd := 15) ⟨by decide, rfl⟩ rfl rfl rfl ?_
      refine x_nh (fun s58 e_s58 => ?_)
      have hG_s58 : GI s58 := by rw [e_s58]; exact hG_s54.up (show 0 ≤ z57 ∧ z57 ≤ 160 from (by first | exact x_rbe e_z57 g_z57 rfl rfl | exact x_rb g_z57 rfl rfl | exact ⟨by omega, by omega⟩))
      have f_s58 : FL [4131, 5824] s0 s58 := by rw [e_s58]; exact f_s54.up (show 4131 ∈ [4131, 5824] from by decide +kernel)
      have q59 : s58 256 34 = z57 := by rw [e_s58]; exact x_up_same
      have q60 : s58 283 x1000.toNat = z53 := by rw [e_s58, x_up_q (by first | decide | omega)]; exact q56
      refine x_iinc k175_73 (ls' := [(4, vi (x4 + (-1))), (0, .ref 256), (1, vi x1), (2, vj x2)]) rfl (by decide) rfl ?_
      refine x_goto k175_76 (t := 37) rfl ?_
      refine x_ls (l := [(0, .ref 256), (1, vi x1), (2, vj x2), (4, vi (x4 + (-1)))]) (show ([0, 1, 2, 4] : List Nat).Nodup from by decide +kernel) ⟨rfl, rfl, rfl, rfl, trivial⟩ ?_
      exact ih s58 x1 x2 (x4 + (-1)) z57 hG_s58 f_s58 (by first | exact x_rb b_x1 rfl rfl | exact ⟨by omega, by omega⟩) b_x2 ⟨by omega, by omega⟩ (by first | exact x_rbe e_z57 g_z57 rfl rfl | exact x_rb g_z57 rfl rfl | exact ⟨by omega, by omega⟩) (by omega) (by omega) (q59).symm  (by omega)
theorem C_X11_feed_256 (s0 : xS) (hG0 : GI s0) (a : Int) (b_a : (-2147483648) ≤ a ∧ a ≤ 2147483647) (b : Int) (b_b : in64 b) : xe none 175 0 (lv_args 0 [.ref 256, vi a, vj b]) [] s0 0 0 (fun s' v => GI s' ∧ FL [4131, 5824] s0 s' ∧ ∃ z, v = some (vi z) ∧ ((-1004) ≤ z ∧ z ≤ 160)) := by
  have f0 : FL [4131, 5824] s0 s0 := FL.rf
  show xe none 175 0 [(0, .ref 256), (1, vi a), (2, vj b)] [] s0 0 0 _
  refine x_A k175_0 (fun _ => rfl) ?_
  refine x_i2l k175_1 (by first | exact x_rb b_a rfl rfl | exact ⟨by omega, by omega⟩) ?_
  refine x_lconst k175_2 (z := 1) (by decide +kernel) ?_
  refine x_ldc2 k175_3 (z := 8) rfl (by decide +kernel) ?_
  refine x_callS k175_6 (y := 136) (n := 3) (w0 := 0) (w1 := 6) (as := [vj a, vj 1, vj 8]) (rest := []) (by decide +kernel) rfl rfl rfl rfl (xe_mono (C_X11_in s0 hG0 a ⟨by omega, by omega⟩ 1 ⟨by omega, by omega⟩ 8 ⟨by omega, by omega⟩) ?_)
  rintro s62 v ⟨h_s62, z61, rfl, hz_z61⟩
  rw [h_s62]
  rcases hz_z61 with ⟨c_z61, e_z61⟩ | ⟨c_z61, e_z61⟩
  · rw [e_z61]
    show xe none 175 9 [(0, .ref 256), (1, vi a), (2, vj b)] [vi 1] s0 0 0 _
    refine x_if_ne k175_9 (t := 16) rfl ⟨by decide, by decide⟩ (fun c63 => ?_) (fun c63 => by exfalso; omega)
    refine x_A k175_16 (fun _ => rfl) ?_
    refine x_getI k175_17 (f := 34) rfl (q := 256) (n := 62) (kd := 15) ⟨by decide, rfl⟩ (by decide) rfl ?_
    refine x_top (fun z64 e_z64 => ?_)
    have g_z64 : (0 : Int) ≤ s0 256 34 ∧ s0 256 34 ≤ 160 := hG0 256 34
    refine x_A k175_20 (fun _ => rfl) ?_
    refine x_iadd k175_21 ?_
    refine x_top (fun z65 e_z65 => ?_)
    refine x_sipush k175_22 (by decide +kernel) ?_
    refine x_ic_le k175_25 (t := 32) rfl (by first | exact x_rbe e_z65 g_z65 rfl rfl | exact x_rb g_z65 rfl rfl | exact ⟨by omega, by omega⟩) ⟨by decide, by decide⟩ (fun c66 => ?_) (fun c66 => ?_)
    · skip
      refine x_A k175_32 (fun _ => rfl) ?_
      refine x_A k175_33 (fun _ => rfl) ?_
      refine x_isub k175_34 ?_
      refine x_top (fun z67 e_z67 => ?_)
      refine x_istore k175_35 (ls' := [(4, vi z67), (0, .ref 256), (1, vi a), (2, vj b)]) (by decide) rfl ?_
      refine x_ls (l := [(0, .ref 256), (1, vi a), (2, vj b), (4, vi z67)]) (show ([0, 1, 2, 4] : List Nat).Nodup from by decide +kernel) ⟨rfl, rfl, rfl, rfl, trivial⟩ ?_
      exact L_C_X11_feed_256_37 s0   (((z67 - (-1)) + 1 : Int)).toNat s0 a b z67 z64 hG0 f0 (by first | exact x_rb b_a rfl rfl | exact ⟨by omega, by omega⟩) b_b (by first | exact x_rbe e_z67 g_z67 rfl rfl | exact x_rb g_z67 rfl rfl | exact ⟨by omega, by omega⟩) (by first | exact x_rbe e_z64 g_z64 rfl rfl | exact x_rb g_z64 rfl rfl | exact ⟨by omega, by omega⟩) (by omega) (by omega) (e_z64.symm).symm  (by omega)
    · skip
      refine x_sipush k175_28 (by decide +kernel) ?_
      exact x_iret k175_31 rfl ⟨hG0, f0, (-1004), rfl, ⟨by decide, by decide⟩⟩
  · rw [e_z61]
    show xe none 175 9 [(0, .ref 256), (1, vi a), (2, vj b)] [vi 0] s0 0 0 _
    refine x_if_ne k175_9 (t := 16) rfl ⟨by decide, by decide⟩ (fun c68 => by exfalso; omega) (fun c68 => ?_)
    refine x_sipush k175_12 (by decide +kernel) ?_
    exact x_iret k175_15 rfl ⟨hG0, f0, (-1002), rfl, ⟨by decide, by decide⟩⟩
