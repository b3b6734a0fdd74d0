set_option maxHeartbeats 8000000 in
theorem L_E_X11_readWord_256_18 (s0 : xS) (pa : s0 256 36 ≤ s0 256 34)  : ∀ (n : Nat) (s : xS) (x1 : Int) (x1000 : Int) (x1001 : Int) (x1002 : Int) (hG : GI s) (f : FL [4133, 4134, 4135] s0 s) (b_x1 : (-1) ≤ x1 ∧ x1 ≤ 255) (b_x1000 : 0 ≤ x1000 ∧ x1000 ≤ 160) (b_x1001 : 0 ≤ x1001 ∧ x1001 ≤ 160) (b_x1002 : 0 ≤ x1002 ∧ x1002 ≤ 160) (r_1000_1002 : x1000 ≤ x1002 + 0) (w_0 : s0 256 36 ≤ x1000) (w_1 : s0 256 36 ≤ x1001 → x1002 ≤ x1001) (w_2 : x1000 ≤ x1002) (w_3 : s 256 37 ≠ 0 → x1000 < x1002) (w_4 : x1001 = s0 256 34 ∧ x1002 ≤ x1001) (w_5 : x1000 = sk (s0 283) (s0 256 34) (s0 256 36)) (w_6 : rn (s0 283) (s0 256 34) 97 122 x1002 = rn (s0 283) (s0 256 34) 97 122 x1000) (w_7 : s 256 37 = wp (s0 283) x1000 (x1002 - x1000).toNat) (e_x1000 : x1000 = s 256 36) (e_x1001 : x1001 = s 256 34) (e_x1002 : x1002 = s 256 38)  (hm : (160 - x1002) < (n : Int)), xe none 178 18 [(0, .ref 256), (1, vi x1)] [] s 0 0 (fun s' v => GI s' ∧ FL [4133, 4134, 4135] s0 s' ∧ v = none ∧ (s' 256 36 = sk (s0 283) (s0 256 34) (s0 256 36) ∧ s' 256 38 = rn (s0 283) (s0 256 34) 97 122 (sk (s0 283) (s0 256 34) (s0 256 36)) ∧ s' 256 37 = wv (s0 283) (s0 256 34) (sk (s0 283) (s0 256 34) (s0 256 36)) ∧ (s0 256 36 ≤ s' 256 36 ∧ (s0 256 36 ≤ s' 256 34 → s' 256 38 ≤ s' 256 34) ∧ s' 256 36 ≤ s' 256 38 ∧ (s' 256 37 ≠ 0 → s' 256 36 < s' 256 38)))) := by
  intro n
  induction n with
  | zero => intro s x1 x1000 x1001 x1002 hG f b_x1 b_x1000 b_x1001 b_x1002 r_1000_1002 w_0 w_1 w_2 w_3 w_4 w_5 w_6 w_7 e_x1000 e_x1001 e_x1002  hm; exfalso; omega
  | succ n ih =>
    intro s x1 x1000 x1001 x1002 hG f b_x1 b_x1000 b_x1001 b_x1002 r_1000_1002 w_0 w_1 w_2 w_3 w_4 w_5 w_6 w_7 e_x1000 e_x1001 e_x1002  hm
    refine x_A k178_18 (fun _ => rfl) ?_
    refine x_getI k178_19 (f := 38) rfl (q := 256) (n := 62) (kd := 15) ⟨by decide, rfl⟩ (by decide) rfl ?_
    refine x_rw (e_x1002.symm) ?_
    refine x_A k178_22 (fun _ => rfl) ?_
    refine x_getI k178_23 (f := 34) rfl (q := 256) (n := 62) (kd := 15) ⟨by decide, rfl⟩ (by decide) rfl ?_
    refine x_rw (e_x1001.symm) ?_
    refine x_ic_ge k178_26 (t := 108) rfl (by first | exact x_rb b_x1002 rfl rfl | exact ⟨by omega, by omega⟩) (by first | exact x_rb b_x1001 rfl rfl | exact ⟨by omega, by omega⟩) (fun c149 => ?_) (fun c149 => ?_)
    · skip
      exact x_vret k178_108 rfl ⟨hG, f, rfl, (by have hr := w_6.symm.trans (rn_n (by omega)); exact ⟨by omega, by rw [← w_5, hr]; omega, by rw [← w_5]; unfold wv; rw [hr]; exact w_7, by omega⟩)⟩
    · skip
      refine x_A k178_29 (fun _ => rfl) ?_
      refine x_getR k178_30 (f := 33) rfl (q := 256) (n := 62) (kd := 15) ⟨by decide, rfl⟩ (q2 := 283) (by decide) rfl ?_
      refine x_A k178_33 (fun _ => rfl) ?_
      refine x_getI k178_34 (f := 38) rfl (q := 256) (n := 62) (kd := 15) ⟨by decide, rfl⟩ (by decide) rfl ?_
      refine x_rw (e_x1002.symm) ?_
      refine x_iald k178_37 (q := 283) (n := 160) ⟨by decide, rfl⟩ (by decide) (by first | exact x_rbl b_x1002 rfl rfl | exact ⟨by omega, by omega⟩) ?_
      refine x_top (fun z150 e_z150 => ?_)
      have g_z150 : (0 : Int) ≤ s 283 x1002.toNat ∧ s 283 x1002.toNat ≤ 255 := hG 283 x1002.toNat
      have ht151 : z150 = s0 283 x1002.toNat := by rw [← (show s 283 = s0 283 from funext fun i => f 283 i (show 5824 ∉ [4133, 4134, 4135] from by decide +kernel))]; exact (e_z150.symm).symm
      refine x_i2l k178_38 (by first | exact x_rbe e_z150 g_z150 rfl rfl | exact x_rb g_z150 rfl rfl | exact ⟨by omega, by omega⟩) ?_
      refine x_ldc2 k178_39 (z := 97) rfl (by decide +kernel) ?_
      refine x_ldc2 k178_42 (z := 122) rfl (by decide +kernel) ?_
      refine x_callS k178_45 (y := 136) (n := 3) (w0 := 0) (w1 := 6) (as := [vj z150, vj 97, vj 122]) (rest := []) (by decide +kernel) rfl rfl rfl rfl (xe_mono (C_X11_in s hG z150 ⟨by omega, by omega⟩ 97 ⟨by omega, by omega⟩ 122 ⟨by omega, by omega⟩) ?_)
      rintro s153 v ⟨h_s153, z152, rfl, hz_z152⟩
      rw [h_s153]
      rcases hz_z152 with ⟨c_z152, e_z152⟩ | ⟨c_z152, e_z152⟩
      · rw [e_z152]
        show xe none 178 48 [(0, .ref 256), (1, vi x1)] [vi 1] s 0 0 _
        refine x_if_eq k178_48 (t := 108) rfl ⟨by decide, by decide⟩ (fun c154 => by exfalso; omega) (fun c154 => ?_)
        have wb := wp_w (T := s0 283) (n := s0 256 34) (p := x1000) (x := x1002) (by omega) (by rw [← w_6]; exact rn_le.1)
        rw [← show s 256 37 = _ from w_7] at wb
        refine x_A k178_51 (fun _ => rfl) ?_
        refine x_A k178_52 (fun _ => rfl) ?_
        refine x_getJ k178_53 (f := 37) rfl (q := 256) (n := 62) (kd := 15) ⟨by decide, rfl⟩ (by decide) rfl ?_
        refine x_topL (fun z155 e_z155 => ?_)
        have b_z155 : in64 z155 := by rw [e_z155]; exact hG 256 37
        refine x_ldc2 k178_56 (z := 10000000000) rfl (by decide +kernel) ?_
        refine x_lc_le k178_59 k178_60 (t := 69) rfl b_z155 ⟨by omega, by omega⟩ (fun c156 => ?_) (fun c156 => ?_)
        · skip
          have ws := wp_sn (T := s0 283) (p := x1000) (x := x1002) (by omega) (by rw [← w_7]; omega)
          rw [← w_7] at ws
          refine x_ldc2 k178_69 (z := 27) rfl (by decide +kernel) ?_
          refine x_A k178_72 (fun _ => rfl) ?_
          refine x_getJ k178_73 (f := 37) rfl (q := 256) (n := 62) (kd := 15) ⟨by decide, rfl⟩ (by decide) rfl ?_
          refine x_topL (fun z157 e_z157 => ?_)
          have b_z157 : in64 z157 := by rw [e_z157]; exact hG 256 37
          refine x_lmul k178_76 ?_
          refine x_topL (fun z158 e_z158 => ?_)
          refine x_A k178_77 (fun _ => rfl) ?_
          refine x_getR k178_78 (f := 33) rfl (q := 256) (n := 62) (kd := 15) ⟨by decide, rfl⟩ (q2 := 283) (by decide) rfl ?_
          refine x_A k178_81 (fun _ => rfl) ?_
          refine x_getI k178_82 (f := 38) rfl (q := 256) (n := 62) (kd := 15) ⟨by decide, rfl⟩ (by decide) rfl ?_
          refine x_rw (e_x1002.symm) ?_
          refine x_iald k178_85 (q := 283) (n := 160) ⟨by decide, rfl⟩ (by decide) (by first | exact x_rbl b_x1002 rfl rfl | exact ⟨by omega, by omega⟩) ?_
          refine x_rw (e_z150.symm) ?_
          have ht159 : z150 = s0 283 x1002.toNat := by rw [← (show s 283 = s0 283 from funext fun i => f 283 i (show 5824 ∉ [4133, 4134, 4135] from by decide +kernel))]; exact (e_z150.symm).symm
          refine x_i2l k178_86 (by first | exact x_rbe e_z150 g_z150 rfl rfl | exact x_rb g_z150 rfl rfl | exact ⟨by omega, by omega⟩) ?_
          refine x_ladd k178_87 ?_
          refine x_topL (fun z160 e_z160 => ?_)
          refine x_ldc2 k178_88 (z := 96) rfl (by decide +kernel) ?_
          refine x_lsub k178_91 ?_
          refine x_topL (fun z161 e_z161 => ?_)
          refine x_putJ k178_92 (f := 37) rfl (q := 256) (n := 62) (kd := 15) ⟨by decide, rfl⟩ rfl rfl rfl ?_
          refine x_nh (fun s162 e_s162 => ?_)
          have hG_s162 : GI s162 := by rw [e_s162]; exact hG.up (show in64 z161 from ⟨by omega, by omega⟩)
          have f_s162 : FL [4133, 4134, 4135] s0 s162 := by rw [e_s162]; exact f.up (show 4134 ∈ [4133, 4134, 4135] from by decide +kernel)
          have q163 : s162 256 36 = x1000 := by rw [e_s162, x_up_i (by decide)]; exact e_x1000.symm
          have q164 : s162 256 34 = x1001 := by rw [e_s162, x_up_i (by decide)]; exact e_x1001.symm
          have q165 : s162 256 38 = x1002 := by rw [e_s162, x_up_i (by decide)]; exact e_x1002.symm
          have q166 : s162 256 37 = z161 := by rw [e_s162]; exact x_up_same
          have q167 : s162 283 x1002.toNat = z150 := by rw [e_s162, x_up_q (by first | decide | omega)]; exact e_z150.symm
          refine x_A k178_95 (fun _ => rfl) ?_
          refine x_A k178_96 (fun _ => rfl) ?_
          refine x_getI k178_97 (f := 38) rfl (q := 256) (n := 62) (kd := 15) ⟨by decide, rfl⟩ (by decide) rfl ?_
          refine x_rw (q165) ?_
          refine x_A k178_100 (fun _ => rfl) ?_
          refine x_iadd k178_101 ?_
          refine x_top (fun z168 e_z168 => ?_)
          refine x_putI k178_102 (f := 38) rfl (q := 256) (n := 62) (kd := 15) ⟨by decide, rfl⟩ rfl rfl rfl ?_
          refine x_nh (fun s169 e_s169 => ?_)
          have hG_s169 : GI s169 := by rw [e_s169]; exact hG_s162.up (show 0 ≤ z168 ∧ z168 ≤ 160 from (by first | exact x_rbe e_z168 g_z168 rfl rfl | exact x_rb g_z168 rfl rfl | exact ⟨by omega, by omega⟩))
          have f_s169 : FL [4133, 4134, 4135] s0 s169 := by rw [e_s169]; exact f_s162.up (show 4135 ∈ [4133, 4134, 4135] from by decide +kernel)
          have q170 : s169 256 36 = x1000 := by rw [e_s169, x_up_i (by decide)]; exact q163
          have q171 : s169 256 34 = x1001 := by rw [e_s169, x_up_i (by decide)]; exact q164
          have q172 : s169 256 37 = z161 := by rw [e_s169, x_up_i (by decide)]; exact q166
          have q173 : s169 256 38 = z168 := by rw [e_s169]; exact x_up_same
          have q174 : s169 283 x1002.toNat = z150 := by rw [e_s169, x_up_q (by first | decide | omega)]; exact q167
          refine x_goto k178_105 (t := 18) rfl ?_
          refine x_ls (l := [(0, .ref 256), (1, vi x1)]) (show ([0, 1] : List Nat).Nodup from by decide +kernel) ⟨rfl, rfl, trivial⟩ ?_
          exact ih s169 x1 x1000 x1001 z168 hG_s169 f_s169 (by first | exact x_rb b_x1 rfl rfl | exact ⟨by omega, by omega⟩) (by first | exact x_rb b_x1000 rfl rfl | exact ⟨by omega, by omega⟩) (by first | exact x_rb b_x1001 rfl rfl | exact ⟨by omega, by omega⟩) (by first | exact x_rbe e_z168 g_z168 rfl rfl | exact x_rb g_z168 rfl rfl | exact ⟨by omega, by omega⟩) (by omega) (by omega) (by omega) (by omega) (by omega) (by omega) w_5 (by rw [show z168 = x1002 + 1 by omega]; exact (rn_y (by omega) (by omega)).symm.trans w_6) (by rw [show z168 = x1002 + 1 by omega]; omega) (q170).symm (q171).symm (q173).symm  (by omega)
        · skip
          have ws := wp_sy (T := s0 283) (p := x1000) (x := x1002) (by omega) (by rw [← w_7]; omega)
          refine x_ldc2 k178_63 (z := 20000000000) rfl (by decide +kernel) ?_
          refine x_goto k178_66 (t := 92) rfl ?_
          refine x_putJ k178_92 (f := 37) rfl (q := 256) (n := 62) (kd := 15) ⟨by decide, rfl⟩ rfl rfl rfl ?_
          refine x_nh (fun s175 e_s175 => ?_)
          have hG_s175 : GI s175 := by rw [e_s175]; exact hG.up (show in64 20000000000 from ⟨by omega, by omega⟩)
          have f_s175 : FL [4133, 4134, 4135] s0 s175 := by rw [e_s175]; exact f.up (show 4134 ∈ [4133, 4134, 4135] from by decide +kernel)
          have q176 : s175 256 36 = x1000 := by rw [e_s175, x_up_i (by decide)]; exact e_x1000.symm
          have q177 : s175 256 34 = x1001 := by rw [e_s175, x_up_i (by decide)]; exact e_x1001.symm
          have q178 : s175 256 38 = x1002 := by rw [e_s175, x_up_i (by decide)]; exact e_x1002.symm
          have q179 : s175 256 37 = 20000000000 := by rw [e_s175]; exact x_up_same
          have q180 : s175 283 x1002.toNat = z150 := by rw [e_s175, x_up_q (by first | decide | omega)]; exact e_z150.symm
          refine x_A k178_95 (fun _ => rfl) ?_
          refine x_A k178_96 (fun _ => rfl) ?_
          refine x_getI k178_97 (f := 38) rfl (q := 256) (n := 62) (kd := 15) ⟨by decide, rfl⟩ (by decide) rfl ?_
          refine x_rw (q178) ?_
          refine x_A k178_100 (fun _ => rfl) ?_
          refine x_iadd k178_101 ?_
          refine x_top (fun z181 e_z181 => ?_)
          refine x_putI k178_102 (f := 38) rfl (q := 256) (n := 62) (kd := 15) ⟨by decide, rfl⟩ rfl rfl rfl ?_
          refine x_nh (fun s182 e_s182 => ?_)
          have hG_s182 : GI s182 := by rw [e_s182]; exact hG_s175.up (show 0 ≤ z181 ∧ z181 ≤ 160 from (by first | exact x_rbe e_z181 g_z181 rfl rfl | exact x_rb g_z181 rfl rfl | exact ⟨by omega, by omega⟩))
          have f_s182 : FL [4133, 4134, 4135] s0 s182 := by rw [e_s182]; exact f_s175.up (show 4135 ∈ [4133, 4134, 4135] from by decide +kernel)
          have q183 : s182 256 36 = x1000 := by rw [e_s182, x_up_i (by decide)]; exact q176
          have q184 : s182 256 34 = x1001 := by rw [e_s182, x_up_i (by decide)]; exact q177
          have q185 : s182 256 37 = 20000000000 := by rw [e_s182, x_up_i (by decide)]; exact q179
          have q186 : s182 256 38 = z181 := by rw [e_s182]; exact x_up_same
          have q187 : s182 283 x1002.toNat = z150 := by rw [e_s182, x_up_q (by first | decide | omega)]; exact q180
          refine x_goto k178_105 (t := 18) rfl ?_
          refine x_ls (l := [(0, .ref 256), (1, vi x1)]) (show ([0, 1] : List Nat).Nodup from by decide +kernel) ⟨rfl, rfl, trivial⟩ ?_
          exact ih s182 x1 x1000 x1001 z181 hG_s182 f_s182 (by first | exact x_rb b_x1 rfl rfl | exact ⟨by omega, by omega⟩) (by first | exact x_rb b_x1000 rfl rfl | exact ⟨by omega, by omega⟩) (by first | exact x_rb b_x1001 rfl rfl | exact ⟨by omega, by omega⟩) (by first | exact x_rbe e_z181 g_z181 rfl rfl | exact x_rb g_z181 rfl rfl | exact ⟨by omega, by omega⟩) (by omega) (by omega) (by omega) (by omega) (by omega) (by omega) w_5 (by rw [show z181 = x1002 + 1 by omega]; exact (rn_y (by omega) (by omega)).symm.trans w_6) (by rw [show z181 = x1002 + 1 by omega]; omega) (q183).symm (q184).symm (q186).symm  (by omega)
      · rw [e_z152]
        show xe none 178 48 [(0, .ref 256), (1, vi x1)] [vi 0] s 0 0 _
        refine x_if_eq k178_48 (t := 108) rfl ⟨by decide, by decide⟩ (fun c188 => ?_) (fun c188 => by exfalso; omega)
        exact x_vret k178_108 rfl ⟨hG, f, rfl, (by have hr := w_6.symm.trans (rn_n (by omega)); exact ⟨by omega, by rw [← w_5, hr]; omega, by rw [← w_5]; unfold wv; rw [hr]; exact w_7, by omega⟩)⟩
set_option maxHeartbeats 8000000 in
theorem E_X11_readWord_256 (s0 : xS) (hG0 : GI s0) (pa : s0 256 36 ≤ s0 256 34) : xe none 178 0 (lv_args 0 [.ref 256]) [] s0 0 0 (fun s' v => GI s' ∧ FL [4133, 4134, 4135] s0 s' ∧ v = none ∧ (s' 256 36 = sk (s0 283) (s0 256 34) (s0 256 36) ∧ s' 256 38 = rn (s0 283) (s0 256 34) 97 122 (sk (s0 283) (s0 256 34) (s0 256 36)) ∧ s' 256 37 = wv (s0 283) (s0 256 34) (sk (s0 283) (s0 256 34) (s0 256 36)) ∧ (s0 256 36 ≤ s' 256 36 ∧ (s0 256 36 ≤ s' 256 34 → s' 256 38 ≤ s' 256 34) ∧ s' 256 36 ≤ s' 256 38 ∧ (s' 256 37 ≠ 0 → s' 256 36 < s' 256 38)))) := by
  have f0 : FL [4133, 4134, 4135] s0 s0 := FL.rf
  show xe none 178 0 [(0, .ref 256)] [] s0 0 0 _
  obtain ⟨z189, e_z189⟩ : ∃ z, z = s0 256 34 := ⟨_, rfl⟩
  have g_z189 : (0 : Int) ≤ s0 256 34 ∧ s0 256 34 ≤ 160 := hG0 256 34
  refine x_A k178_0 (fun _ => rfl) ?_
  refine x_callV k178_1 (y := 176) (n := 0) (w0 := 0) (w1 := 0) (as := []) (rest := []) (by decide +kernel) (q := 256) (nq := 62) (kq := 15) ⟨by decide, rfl⟩ rfl rfl rfl rfl (xe_mono (E_X11_here_256 s0 hG0 (by omega)) ?_)
  rintro s191 v ⟨hG_s191, t_s191, z190, rfl, g_z190, xp_z190⟩
  have f_s191 : FL [4133, 4134, 4135] s0 s191 := f0.tr t_s191 (by decide +kernel)
  have q192 : s191 256 34 = z189 := (t_s191 256 34 (show 4131 ∉ [4133] from by decide +kernel)).trans e_z189.symm
  obtain ⟨z193, e_z193⟩ : ∃ z, z = s191 256 36 := ⟨_, rfl⟩
  have g_z193 : (0 : Int) ≤ s191 256 36 ∧ s191 256 36 ≤ 160 := hG_s191 256 36
  show xe none 178 4 [(0, .ref 256)] [vi z190] s191 0 0 _
  have hp := xp_z190.1
  refine x_istore_n k178_4 (ls' := [(1, vi z190), (0, .ref 256)]) (by decide) rfl ?_
  refine x_A k178_5 (fun _ => rfl) ?_
  refine x_lconst k178_6 (z := 0) (by decide +kernel) ?_
  refine x_putJ k178_7 (f := 37) rfl (q := 256) (n := 62) (kd := 15) ⟨by decide, rfl⟩ rfl rfl rfl ?_
  refine x_nh (fun s194 e_s194 => ?_)
  have hG_s194 : GI s194 := by rw [e_s194]; exact hG_s191.up (show in64 0 from ⟨by omega, by omega⟩)
  have f_s194 : FL [4133, 4134, 4135] s0 s194 := by rw [e_s194]; exact f_s191.up (show 4134 ∈ [4133, 4134, 4135] from by decide +kernel)
  have q195 : s194 256 34 = z189 := by rw [e_s194, x_up_i (by decide)]; exact q192
  have q196 : s194 256 36 = z193 := by rw [e_s194, x_up_i (by decide)]; exact e_z193.symm
  have q197 : s194 256 37 = 0 := by rw [e_s194]; exact x_up_same
  refine x_A k178_10 (fun _ => rfl) ?_
  refine x_A k178_11 (fun _ => rfl) ?_
  refine x_getI k178_12 (f := 36) rfl (q := 256) (n := 62) (kd := 15) ⟨by decide, rfl⟩ (by decide) rfl ?_
  refine x_rw (q196) ?_
  refine x_putI k178_15 (f := 38) rfl (q := 256) (n := 62) (kd := 15) ⟨by decide, rfl⟩ rfl rfl rfl ?_
  refine x_nh (fun s198 e_s198 => ?_)
  have hG_s198 : GI s198 := by rw [e_s198]; exact hG_s194.up (show 0 ≤ z193 ∧ z193 ≤ 160 from (by first | exact x_rbe e_z193 g_z193 rfl rfl | exact x_rb g_z193 rfl rfl | exact ⟨by omega, by omega⟩))
  have f_s198 : FL [4133, 4134, 4135] s0 s198 := by rw [e_s198]; exact f_s194.up (show 4135 ∈ [4133, 4134, 4135] from by decide +kernel)
  have q199 : s198 256 34 = z189 := by rw [e_s198, x_up_i (by decide)]; exact q195
  have q200 : s198 256 36 = z193 := by rw [e_s198, x_up_i (by decide)]; exact q196
  have q201 : s198 256 37 = 0 := by rw [e_s198, x_up_i (by decide)]; exact q197
  have q202 : s198 256 38 = z193 := by rw [e_s198]; exact x_up_same
  refine x_ls (l := [(0, .ref 256), (1, vi z190)]) (show ([0, 1] : List Nat).Nodup from by decide +kernel) ⟨rfl, rfl, trivial⟩ ?_
  exact L_E_X11_readWord_256_18 s0 pa  (((160 - z193) + 1 : Int)).toNat s198 z190 z193 z189 z193 hG_s198 f_s198 (by first | exact x_rbe e_z190 g_z190 rfl rfl | exact x_rb g_z190 rfl rfl | exact ⟨by omega, by omega⟩) (by first | exact x_rbe e_z193 g_z193 rfl rfl | exact x_rb g_z193 rfl rfl | exact ⟨by omega, by omega⟩) (by first | exact x_rbe e_z189 g_z189 rfl rfl | exact x_rb g_z189 rfl rfl | exact ⟨by omega, by omega⟩) (by first | exact x_rbe e_z193 g_z193 rfl rfl | exact x_rb g_z193 rfl rfl | exact ⟨by omega, by omega⟩) (by omega) (by omega) (by omega) (by omega) (by omega) (by omega) (by omega) (by rw [show z193 = z193 by omega]) (by rw [show z193 - z193 = 0 by omega]; show _ = (0 : Int); omega) (q200).symm (q199).symm (q202).symm  (by omega)
set_option maxHeartbeats 8000000 in
theorem L_E_X11_readNumber_256_42 (s0 : xS) (a : Int) (b_a : (-2147483648) ≤ a ∧ a ≤ 2147483647) (b : Int) (b_b : (-2147483648) ≤ b ∧ b ≤ 2147483647) (d : Int) (b_d : 2 ≤ d ∧ d ≤ 3) (e : Int) (b_e : 1 ≤ e ∧ e ≤ 5) (pa : s0 256 36 ≤ s0 256 34)  : ∀ (n : Nat) (s : xS) (x1 : Int) (x2 : Int) (x3 : Int) (x4 : Int) (x5 : Int) (x6 : Int) (x1000 : Int) (x1001 : Int) (x1002 : Int) (x1003 : Int) (hG : GI s) (f : FL [4133, 4136, 4132] s0 s) (b_x1 : (-2147483648) ≤ x1 ∧ x1 ≤ 2147483647) (b_x2 : (-2147483648) ≤ x2 ∧ x2 ≤ 2147483647) (b_x3 : 2 ≤ x3 ∧ x3 ≤ 3) (b_x4 : 1 ≤ x4 ∧ x4 ≤ 5) (b_x5 : 48 ≤ x5 ∧ x5 ≤ 57) (b_x6 : 0 ≤ x6 ∧ x6 ≤ 160) (b_x1000 : 0 ≤ x1000 ∧ x1000 ≤ 160) (b_x1001 : 0 ≤ x1001 ∧ x1001 ≤ 160) (b_x1002 : 0 ≤ x1002 ∧ x1002 ≤ 1100000) (b_x1003 : (-2147483648) ≤ x1003 ∧ x1003 ≤ 2147483647) (r_6_1000 : x6 ≤ x1000 + 0) (r_3_5 : x3 ≤ x5 + 0) (r_4_5 : x4 ≤ x5 + 0) (w_0 : x1 = a) (w_1 : x2 = b) (w_2 : s0 256 36 ≤ x1000) (w_3 : s0 256 36 ≤ x1001 → x1000 ≤ x1001) (w_4 : x6 ≤ x1000) (w_5 : s0 256 36 ≤ x6) (w_6 : x3 = d ∧ x4 = e) (w_7 : x1001 = s0 256 34 ∧ x1000 ≤ x1001) (w_8 : x6 = sk (s0 283) (s0 256 34) (s0 256 36)) (w_9 : rn (s0 283) (s0 256 34) 48 57 x1000 = rn (s0 283) (s0 256 34) 48 57 x6) (w_10 : kd (s0 283) (s0 256 34) x6 = 2) (w_11 : x1000 - x6 ≤ 4 → x1002 = nv (s0 283) x6 (x1000 - x6).toNat) (w_12 : x1003 = s0 256 35) (e_x1000 : x1000 = s 256 36) (e_x1001 : x1001 = s 256 34) (e_x1002 : x1002 = s 256 39) (e_x1003 : x1003 = s 256 35)  (hm : (160 - x1000) < (n : Int)), xe none 180 42 [(0, .ref 256), (1, vi x1), (2, vi x2), (3, vi x3), (4, vi x4), (5, vi x5), (6, vi x6)] [] s 0 0 (fun s' v => GI s' ∧ FL [4133, 4136, 4132] s0 s' ∧ ∃ z, v = some (vi z) ∧ (0 ≤ z ∧ z ≤ 5) ∧ (z = numf (s0 283) (s0 256 34) (sk (s0 283) (s0 256 34) (s0 256 36)) a b d e ∧ (z = 0 → s' 256 39 = nva (s0 283) (s0 256 34) (sk (s0 283) (s0 256 34) (s0 256 36)) ∧ s' 256 36 = te (s0 283) (s0 256 34) (sk (s0 283) (s0 256 34) (s0 256 36))) ∧ (z ≠ 0 → s' 256 35 = sk (s0 283) (s0 256 34) (s0 256 36)) ∧ (z = 0 → s' 256 35 = s0 256 35) ∧ ((z = 0 → a ≤ s' 256 39 ∧ s' 256 39 ≤ b) ∧ s0 256 36 ≤ s' 256 36 ∧ (s0 256 36 ≤ s' 256 34 → s' 256 36 ≤ s' 256 34)))) := by
  intro n
  induction n with
  | zero => intro s x1 x2 x3 x4 x5 x6 x1000 x1001 x1002 x1003 hG f b_x1 b_x2 b_x3 b_x4 b_x5 b_x6 b_x1000 b_x1001 b_x1002 b_x1003 r_6_1000 r_3_5 r_4_5 w_0 w_1 w_2 w_3 w_4 w_5 w_6 w_7 w_8 w_9 w_10 w_11 w_12 e_x1000 e_x1001 e_x1002 e_x1003  hm; exfalso; omega
  | succ n ih =>
    intro s x1 x2 x3 x4 x5 x6 x1000 x1001 x1002 x1003 hG f b_x1 b_x2 b_x3 b_x4 b_x5 b_x6 b_x1000 b_x1001 b_x1002 b_x1003 r_6_1000 r_3_5 r_4_5 w_0 w_1 w_2 w_3 w_4 w_5 w_6 w_7 w_8 w_9 w_10 w_11 w_12 e_x1000 e_x1001 e_x1002 e_x1003  hm
    refine x_A k180_42 (fun _ => rfl) ?_
    refine x_getI k180_43 (f := 36) rfl (q := 256) (n := 62) (kd := 15) ⟨by decide, rfl⟩ (by decide) rfl ?_
    refine x_rw (e_x1000.symm) ?_
    refine x_A k180_46 (fun _ => rfl) ?_
    refine x_getI k180_47 (f := 34) rfl (q := 256) (n := 62) (kd := 15) ⟨by decide, rfl⟩ (by decide) rfl ?_
    refine x_rw (e_x1001.symm) ?_
    refine x_ic_ge k180_50 (t := 129) rfl (by first | exact x_rb b_x1000 rfl rfl | exact ⟨by omega, by omega⟩) (by first | exact x_rb b_x1001 rfl rfl | exact ⟨by omega, by omega⟩) (fun c430 => ?_) (fun c430 => ?_)
    · skip
      have hr : rn (s0 283) (s0 256 34) 48 57 x6 = x1000 := w_9.symm.trans (rn_n (by omega))
      have tx_ := te_2 w_10
      refine x_A k180_129 (fun _ => rfl) ?_
      refine x_getI k180_130 (f := 36) rfl (q := 256) (n := 62) (kd := 15) ⟨by decide, rfl⟩ (by decide) rfl ?_
      refine x_rw (e_x1000.symm) ?_
      refine x_A k180_133 (fun _ => rfl) ?_
      refine x_isub k180_135 ?_
      refine x_top (fun z431 e_z431 => ?_)
      refine x_A k180_136 (fun _ => rfl) ?_
      refine x_ic_le k180_137 (t := 148) rfl (by first | exact x_rbe e_z431 g_z431 rfl rfl | exact x_rb g_z431 rfl rfl | exact ⟨by omega, by omega⟩) (by first | exact x_rb b_x3 rfl rfl | exact ⟨by omega, by omega⟩) (fun c432 => ?_) (fun c432 => ?_)
      · skip
        refine x_A k180_148 (fun _ => rfl) ?_
        refine x_getI k180_149 (f := 39) rfl (q := 256) (n := 62) (kd := 15) ⟨by decide, rfl⟩ (by decide) rfl ?_
        refine x_rw (e_x1002.symm) ?_
        refine x_i2l k180_152 (by first | exact x_rb b_x1002 rfl rfl | exact ⟨by omega, by omega⟩) ?_
        refine x_A k180_153 (fun _ => rfl) ?_
        refine x_i2l k180_154 (by first | exact x_rb b_x1 rfl rfl | exact ⟨by omega, by omega⟩) ?_
        refine x_A k180_155 (fun _ => rfl) ?_
        refine x_i2l k180_156 (by first | exact x_rb b_x2 rfl rfl | exact ⟨by omega, by omega⟩) ?_
        refine x_callS k180_157 (y := 136) (n := 3) (w0 := 0) (w1 := 6) (as := [vj x1002, vj x1, vj x2]) (rest := []) (by decide +kernel) rfl rfl rfl rfl (xe_mono (C_X11_in s hG x1002 ⟨by omega, by omega⟩ x1 ⟨by omega, by omega⟩ x2 ⟨by omega, by omega⟩) ?_)
        rintro s434 v ⟨h_s434, z433, rfl, hz_z433⟩
        rw [h_s434]
        rcases hz_z433 with ⟨c_z433, e_z433⟩ | ⟨c_z433, e_z433⟩
        · rw [e_z433]
          show xe none 180 160 [(0, .ref 256), (1, vi x1), (2, vi x2), (3, vi x3), (4, vi x4), (5, vi x5), (6, vi x6)] [vi 1] s 0 0 _
          refine x_if_eq k180_160 (t := 167) rfl ⟨by decide, by decide⟩ (fun c435 => by exfalso; omega) (fun c435 => ?_)
          have nq : x1002 = nv (s0 283) x6 (te (s0 283) (s0 256 34) x6 - x6).toNat := by rw [show te (s0 283) (s0 256 34) x6 = x1000 by omega]; exact w_11 (by omega)
          have nf : numf (s0 283) (s0 256 34) (x6) a b d e = 0 := numf_0 w_10 (by omega) (by omega)
          refine x_A k180_163 (fun _ => rfl) ?_
          refine x_goto k180_164 (t := 175) rfl ?_
          exact x_iret k180_175 rfl ⟨hG, f, 0, rfl, ⟨by decide, by decide⟩, (by rw [← w_8]; unfold nva; exact ⟨by omega, fun w => ⟨by omega, by omega⟩, fun w => by omega, fun w => by omega, by omega⟩)⟩
        · rw [e_z433]
          show xe none 180 160 [(0, .ref 256), (1, vi x1), (2, vi x2), (3, vi x3), (4, vi x4), (5, vi x5), (6, vi x6)] [vi 0] s 0 0 _
          refine x_if_eq k180_160 (t := 167) rfl ⟨by decide, by decide⟩ (fun c436 => ?_) (fun c436 => by exfalso; omega)
          have nq : x1002 = nv (s0 283) x6 (te (s0 283) (s0 256 34) x6 - x6).toNat := by rw [show te (s0 283) (s0 256 34) x6 = x1000 by omega]; exact w_11 (by omega)
          have nf : numf (s0 283) (s0 256 34) (x6) a b d e = e := numf_3 w_10 (by omega) (by omega)
          refine x_A k180_167 (fun _ => rfl) ?_
          refine x_A k180_168 (fun _ => rfl) ?_
          refine x_A k180_170 (fun _ => rfl) ?_
          refine x_callV k180_172 (y := 177) (n := 2) (w0 := 0) (w1 := 2) (as := [vi x4, vi x6]) (rest := []) (by decide +kernel) (q := 256) (nq := 62) (kq := 15) ⟨by decide, rfl⟩ rfl rfl rfl rfl (xe_mono (E_X11_fails_256 s hG x4 (by first | exact x_rb b_x4 rfl rfl | exact ⟨by omega, by omega⟩) x6 (by first | exact x_rb b_x6 rfl rfl | exact ⟨by omega, by omega⟩)) ?_)
          rintro s438 v ⟨hG_s438, t_s438, z437, rfl, g_z437, xp_z437⟩
          have f_s438 : FL [4133, 4136, 4132] s0 s438 := f.tr t_s438 (by decide +kernel)
          have q439 : s438 256 36 = x1000 := (t_s438 256 36 (show 4133 ∉ [4132] from by decide +kernel)).trans e_x1000.symm
          have q440 : s438 256 34 = x1001 := (t_s438 256 34 (show 4131 ∉ [4132] from by decide +kernel)).trans e_x1001.symm
          have q441 : s438 256 39 = x1002 := (t_s438 256 39 (show 4136 ∉ [4132] from by decide +kernel)).trans e_x1002.symm
          obtain ⟨z442, e_z442⟩ : ∃ z, z = s438 256 35 := ⟨_, rfl⟩
          have g_z442 : (-2147483648) ≤ s438 256 35 ∧ s438 256 35 ≤ 2147483647 := hG_s438 256 35
          show xe none 180 175 [(0, .ref 256), (1, vi x1), (2, vi x2), (3, vi x3), (4, vi x4), (5, vi x5), (6, vi x6)] [vi z437] s438 0 0 _
          exact x_iret k180_175 rfl ⟨hG_s438, f_s438, z437, rfl, (by first | exact x_rbe e_z437 g_z437 rfl rfl | exact x_rb g_z437 rfl rfl | exact ⟨by omega, by omega⟩), (by rw [← w_8]; unfold nva; exact ⟨by omega, fun w => ⟨by omega, by omega⟩, fun w => by omega, fun w => by omega, by omega⟩)⟩
      · skip
        have nf : numf (s0 283) (s0 256 34) (x6) a b d e = 2 := numf_2 w_10 (by omega)
        refine x_A k180_140 (fun _ => rfl) ?_
        refine x_A k180_141 (fun _ => rfl) ?_
        refine x_A k180_142 (fun _ => rfl) ?_
        refine x_callV k180_144 (y := 177) (n := 2) (w0 := 0) (w1 := 2) (as := [vi 2, vi x6]) (rest := []) (by decide +kernel) (q := 256) (nq := 62) (kq := 15) ⟨by decide, rfl⟩ rfl rfl rfl rfl (xe_mono (E_X11_fails_256 s hG 2 ⟨by decide, by decide⟩ x6 (by first | exact x_rb b_x6 rfl rfl | exact ⟨by omega, by omega⟩)) ?_)
        rintro s444 v ⟨hG_s444, t_s444, z443, rfl, g_z443, xp_z443⟩
        have f_s444 : FL [4133, 4136, 4132] s0 s444 := f.tr t_s444 (by decide +kernel)
        have q445 : s444 256 36 = x1000 := (t_s444 256 36 (show 4133 ∉ [4132] from by decide +kernel)).trans e_x1000.symm
        have q446 : s444 256 34 = x1001 := (t_s444 256 34 (show 4131 ∉ [4132] from by decide +kernel)).trans e_x1001.symm
        have q447 : s444 256 39 = x1002 := (t_s444 256 39 (show 4136 ∉ [4132] from by decide +kernel)).trans e_x1002.symm
        obtain ⟨z448, e_z448⟩ : ∃ z, z = s444 256 35 := ⟨_, rfl⟩
        have g_z448 : (-2147483648) ≤ s444 256 35 ∧ s444 256 35 ≤ 2147483647 := hG_s444 256 35
        show xe none 180 147 [(0, .ref 256), (1, vi x1), (2, vi x2), (3, vi x3), (4, vi x4), (5, vi x5), (6, vi x6)] [vi z443] s444 0 0 _
        exact x_iret k180_147 rfl ⟨hG_s444, f_s444, z443, rfl, (by first | exact x_rbe e_z443 g_z443 rfl rfl | exact x_rb g_z443 rfl rfl | exact ⟨by omega, by omega⟩), (by rw [← w_8]; unfold nva; exact ⟨by omega, fun w => ⟨by omega, by omega⟩, fun w => by omega, fun w => by omega, by omega⟩)⟩
    · skip
      refine x_A k180_53 (fun _ => rfl) ?_
      refine x_getR k180_54 (f := 33) rfl (q := 256) (n := 62) (kd := 15) ⟨by decide, rfl⟩ (q2 := 283) (by decide) rfl ?_
      refine x_A k180_57 (fun _ => rfl) ?_
      refine x_getI k180_58 (f := 36) rfl (q := 256) (n := 62) (kd := 15) ⟨by decide, rfl⟩ (by decide) rfl ?_
      refine x_rw (e_x1000.symm) ?_
      refine x_iald k180_61 (q := 283) (n := 160) ⟨by decide, rfl⟩ (by decide) (by first | exact x_rbl b_x1000 rfl rfl | exact ⟨by omega, by omega⟩) ?_
      refine x_top (fun z449 e_z449 => ?_)
      have g_z449 : (0 : Int) ≤ s 283 x1000.toNat ∧ s 283 x1000.toNat ≤ 255 := hG 283 x1000.toNat
      have ht450 : z449 = s0 283 x1000.toNat := by rw [← (show s 283 = s0 283 from funext fun i => f 283 i (show 5824 ∉ [4133, 4136, 4132] from by decide +kernel))]; exact (e_z449.symm).symm
      refine x_i2l k180_62 (by first | exact x_rbe e_z449 g_z449 rfl rfl | exact x_rb g_z449 rfl rfl | exact ⟨by omega, by omega⟩) ?_
      refine x_ldc2 k180_63 (z := 48) rfl (by decide +kernel) ?_
      refine x_ldc2 k180_66 (z := 57) rfl (by decide +kernel) ?_
      refine x_callS k180_69 (y := 136) (n := 3) (w0 := 0) (w1 := 6) (as := [vj z449, vj 48, vj 57]) (rest := []) (by decide +kernel) rfl rfl rfl rfl (xe_mono (C_X11_in s hG z449 ⟨by omega, by omega⟩ 48 ⟨by omega, by omega⟩ 57 ⟨by omega, by omega⟩) ?_)
      rintro s452 v ⟨h_s452, z451, rfl, hz_z451⟩
      rw [h_s452]
      rcases hz_z451 with ⟨c_z451, e_z451⟩ | ⟨c_z451, e_z451⟩
      · rw [e_z451]
        show xe none 180 72 [(0, .ref 256), (1, vi x1), (2, vi x2), (3, vi x3), (4, vi x4), (5, vi x5), (6, vi x6)] [vi 1] s 0 0 _
        refine x_if_eq k180_72 (t := 129) rfl ⟨by decide, by decide⟩ (fun c453 => by exfalso; omega) (fun c453 => ?_)
        have tx_ := te_2 w_10
        have rl := (rn_le (T := s0 283) (n := s0 256 34) (lo := 48) (hi := 57) (p := x1000)).1
        have nb := nv_d (x := x1000) w_10 (by omega) (by omega)
        have ns := nv_s (T := s0 283) (p := x6) (x := x1000) (by omega)
        refine x_A k180_75 (fun _ => rfl) ?_
        refine x_A k180_76 (fun _ => rfl) ?_
        refine x_getI k180_77 (f := 39) rfl (q := 256) (n := 62) (kd := 15) ⟨by decide, rfl⟩ (by decide) rfl ?_
        refine x_rw (e_x1002.symm) ?_
        refine x_ldcwI k180_80 (z := 100000) rfl (by decide +kernel) ?_
        refine x_ic_le k180_83 (t := 93) rfl (by first | exact x_rb b_x1002 rfl rfl | exact ⟨by omega, by omega⟩) ⟨by decide, by decide⟩ (fun c454 => ?_) (fun c454 => ?_)
        · skip
          refine x_bipush k180_93 (by decide +kernel) ?_
          refine x_A k180_95 (fun _ => rfl) ?_
          refine x_getI k180_96 (f := 39) rfl (q := 256) (n := 62) (kd := 15) ⟨by decide, rfl⟩ (by decide) rfl ?_
          refine x_rw (e_x1002.symm) ?_
          refine x_imul k180_99 ?_
          refine x_top (fun z455 e_z455 => ?_)
          refine x_A k180_100 (fun _ => rfl) ?_
          refine x_getR k180_101 (f := 33) rfl (q := 256) (n := 62) (kd := 15) ⟨by decide, rfl⟩ (q2 := 283) (by decide) rfl ?_
          refine x_A k180_104 (fun _ => rfl) ?_
          refine x_getI k180_105 (f := 36) rfl (q := 256) (n := 62) (kd := 15) ⟨by decide, rfl⟩ (by decide) rfl ?_
          refine x_rw (e_x1000.symm) ?_
          refine x_iald k180_108 (q := 283) (n := 160) ⟨by decide, rfl⟩ (by decide) (by first | exact x_rbl b_x1000 rfl rfl | exact ⟨by omega, by omega⟩) ?_
          refine x_rw (e_z449.symm) ?_
          have ht456 : z449 = s0 283 x1000.toNat := by rw [← (show s 283 = s0 283 from funext fun i => f 283 i (show 5824 ∉ [4133, 4136, 4132] from by decide +kernel))]; exact (e_z449.symm).symm
          refine x_iadd k180_109 ?_
          refine x_top (fun z457 e_z457 => ?_)
          refine x_bipush k180_110 (by decide +kernel) ?_
          refine x_isub k180_112 ?_
          refine x_top (fun z458 e_z458 => ?_)
          refine x_putI k180_113 (f := 39) rfl (q := 256) (n := 62) (kd := 15) ⟨by decide, rfl⟩ rfl rfl rfl ?_
          refine x_nh (fun s459 e_s459 => ?_)
          have hG_s459 : GI s459 := by rw [e_s459]; exact hG.up (show 0 ≤ z458 ∧ z458 ≤ 1100000 from (by first | exact x_rbe e_z458 g_z458 rfl rfl | exact x_rb g_z458 rfl rfl | exact ⟨by omega, by omega⟩))
          have f_s459 : FL [4133, 4136, 4132] s0 s459 := by rw [e_s459]; exact f.up (show 4136 ∈ [4133, 4136, 4132] from by decide +kernel)
          have q460 : s459 256 36 = x1000 := by rw [e_s459, x_up_i (by decide)]; exact e_x1000.symm
          have q461 : s459 256 34 = x1001 := by rw [e_s459, x_up_i (by decide)]; exact e_x1001.symm
          have q462 : s459 256 35 = x1003 := by rw [e_s459, x_up_i (by decide)]; exact e_x1003.symm
          have q463 : s459 256 39 = z458 := by rw [e_s459]; exact x_up_same
          have q464 : s459 283 x1000.toNat = z449 := by rw [e_s459, x_up_q (by first | decide | omega)]; exact e_z449.symm
          refine x_A k180_116 (fun _ => rfl) ?_
          refine x_A k180_117 (fun _ => rfl) ?_
          refine x_getI k180_118 (f := 36) rfl (q := 256) (n := 62) (kd := 15) ⟨by decide, rfl⟩ (by decide) rfl ?_
          refine x_rw (q460) ?_
          refine x_A k180_121 (fun _ => rfl) ?_
          refine x_iadd k180_122 ?_
          refine x_top (fun z465 e_z465 => ?_)
          refine x_putI k180_123 (f := 36) rfl (q := 256) (n := 62) (kd := 15) ⟨by decide, rfl⟩ rfl rfl rfl ?_
          refine x_nh (fun s466 e_s466 => ?_)
          have hG_s466 : GI s466 := by rw [e_s466]; exact hG_s459.up (show 0 ≤ z465 ∧ z465 ≤ 160 from (by first | exact x_rbe e_z465 g_z465 rfl rfl | exact x_rb g_z465 rfl rfl | exact ⟨by omega, by omega⟩))
          have f_s466 : FL [4133, 4136, 4132] s0 s466 := by rw [e_s466]; exact f_s459.up (show 4133 ∈ [4133, 4136, 4132] from by decide +kernel)
          have q467 : s466 256 34 = x1001 := by rw [e_s466, x_up_i (by decide)]; exact q461
          have q468 : s466 256 35 = x1003 := by rw [e_s466, x_up_i (by decide)]; exact q462
          have q469 : s466 256 39 = z458 := by rw [e_s466, x_up_i (by decide)]; exact q463
          have q470 : s466 256 36 = z465 := by rw [e_s466]; exact x_up_same
          have q471 : s466 283 x1000.toNat = z449 := by rw [e_s466, x_up_q (by first | decide | omega)]; exact q464
          refine x_goto k180_126 (t := 42) rfl ?_
          refine x_ls (l := [(0, .ref 256), (1, vi x1), (2, vi x2), (3, vi x3), (4, vi x4), (5, vi x5), (6, vi x6)]) (show ([0, 1, 2, 3, 4, 5, 6] : List Nat).Nodup from by decide +kernel) ⟨rfl, rfl, rfl, rfl, rfl, rfl, rfl, trivial⟩ ?_
          exact ih s466 x1 x2 x3 x4 x5 x6 z465 x1001 z458 x1003 hG_s466 f_s466 (by first | exact x_rb b_x1 rfl rfl | exact ⟨by omega, by omega⟩) (by first | exact x_rb b_x2 rfl rfl | exact ⟨by omega, by omega⟩) (by first | exact x_rb b_x3 rfl rfl | exact ⟨by omega, by omega⟩) (by first | exact x_rb b_x4 rfl rfl | exact ⟨by omega, by omega⟩) (by first | exact x_rb b_x5 rfl rfl | exact ⟨by omega, by omega⟩) (by first | exact x_rb b_x6 rfl rfl | exact ⟨by omega, by omega⟩) (by first | exact x_rbe e_z465 g_z465 rfl rfl | exact x_rb g_z465 rfl rfl | exact ⟨by omega, by omega⟩) (by first | exact x_rb b_x1001 rfl rfl | exact ⟨by omega, by omega⟩) (by first | exact x_rbe e_z458 g_z458 rfl rfl | exact x_rb g_z458 rfl rfl | exact ⟨by omega, by omega⟩) (by first | exact x_rb b_x1003 rfl rfl | exact ⟨by omega, by omega⟩) (by omega) (by omega) (by omega) (by omega) (by omega) (by omega) (by omega) (by omega) (by omega) (by omega) (by omega) w_8 (by rw [show z465 = x1000 + 1 by omega]; exact (rn_y (by omega) (by omega)).symm.trans w_9) w_10 (by rw [show z465 = x1000 + 1 by omega]; intro h; omega) (by omega) (q470).symm (q467).symm (q469).symm (q468).symm  (by omega)
        · skip
          refine x_A k180_86 (fun _ => rfl) ?_
          refine x_getI k180_87 (f := 39) rfl (q := 256) (n := 62) (kd := 15) ⟨by decide, rfl⟩ (by decide) rfl ?_
          refine x_rw (e_x1002.symm) ?_
          refine x_goto k180_90 (t := 113) rfl ?_
          refine x_putI k180_113 (f := 39) rfl (q := 256) (n := 62) (kd := 15) ⟨by decide, rfl⟩ rfl rfl rfl ?_
          refine x_nh (fun s472 e_s472 => ?_)
          have hG_s472 : GI s472 := by rw [e_s472]; exact hG.up (show 0 ≤ x1002 ∧ x1002 ≤ 1100000 from (by first | exact x_rb b_x1002 rfl rfl | exact ⟨by omega, by omega⟩))
          have f_s472 : FL [4133, 4136, 4132] s0 s472 := by rw [e_s472]; exact f.up (show 4136 ∈ [4133, 4136, 4132] from by decide +kernel)
          have q473 : s472 256 36 = x1000 := by rw [e_s472, x_up_i (by decide)]; exact e_x1000.symm
          have q474 : s472 256 34 = x1001 := by rw [e_s472, x_up_i (by decide)]; exact e_x1001.symm
          have q475 : s472 256 35 = x1003 := by rw [e_s472, x_up_i (by decide)]; exact e_x1003.symm
          have q476 : s472 256 39 = x1002 := by rw [e_s472]; exact x_up_same
          have q477 : s472 283 x1000.toNat = z449 := by rw [e_s472, x_up_q (by first | decide | omega)]; exact e_z449.symm
          refine x_A k180_116 (fun _ => rfl) ?_
          refine x_A k180_117 (fun _ => rfl) ?_
          refine x_getI k180_118 (f := 36) rfl (q := 256) (n := 62) (kd := 15) ⟨by decide, rfl⟩ (by decide) rfl ?_
          refine x_rw (q473) ?_
          refine x_A k180_121 (fun _ => rfl) ?_
          refine x_iadd k180_122 ?_
          refine x_top (fun z478 e_z478 => ?_)
          refine x_putI k180_123 (f := 36) rfl (q := 256) (n := 62) (kd := 15) ⟨by decide, rfl⟩ rfl rfl rfl ?_
          refine x_nh (fun s479 e_s479 => ?_)
          have hG_s479 : GI s479 := by rw [e_s479]; exact hG_s472.up (show 0 ≤ z478 ∧ z478 ≤ 160 from (by first | exact x_rbe e_z478 g_z478 rfl rfl | exact x_rb g_z478 rfl rfl | exact ⟨by omega, by omega⟩))
          have f_s479 : FL [4133, 4136, 4132] s0 s479 := by rw [e_s479]; exact f_s472.up (show 4133 ∈ [4133, 4136, 4132] from by decide +kernel)
          have q480 : s479 256 34 = x1001 := by rw [e_s479, x_up_i (by decide)]; exact q474
          have q481 : s479 256 35 = x1003 := by rw [e_s479, x_up_i (by decide)]; exact q475
          have q482 : s479 256 39 = x1002 := by rw [e_s479, x_up_i (by decide)]; exact q476
          have q483 : s479 256 36 = z478 := by rw [e_s479]; exact x_up_same
          have q484 : s479 283 x1000.toNat = z449 := by rw [e_s479, x_up_q (by first | decide | omega)]; exact q477
          refine x_goto k180_126 (t := 42) rfl ?_
          refine x_ls (l := [(0, .ref 256), (1, vi x1), (2, vi x2), (3, vi x3), (4, vi x4), (5, vi x5), (6, vi x6)]) (show ([0, 1, 2, 3, 4, 5, 6] : List Nat).Nodup from by decide +kernel) ⟨rfl, rfl, rfl, rfl, rfl, rfl, rfl, trivial⟩ ?_
          exact ih s479 x1 x2 x3 x4 x5 x6 z478 x1001 x1002 x1003 hG_s479 f_s479 (by first | exact x_rb b_x1 rfl rfl | exact ⟨by omega, by omega⟩) (by first | exact x_rb b_x2 rfl rfl | exact ⟨by omega, by omega⟩) (by first | exact x_rb b_x3 rfl rfl | exact ⟨by omega, by omega⟩) (by first | exact x_rb b_x4 rfl rfl | exact ⟨by omega, by omega⟩) (by first | exact x_rb b_x5 rfl rfl | exact ⟨by omega, by omega⟩) (by first | exact x_rb b_x6 rfl rfl | exact ⟨by omega, by omega⟩) (by first | exact x_rbe e_z478 g_z478 rfl rfl | exact x_rb g_z478 rfl rfl | exact ⟨by omega, by omega⟩) (by first | exact x_rb b_x1001 rfl rfl | exact ⟨by omega, by omega⟩) (by first | exact x_rb b_x1002 rfl rfl | exact ⟨by omega, by omega⟩) (by first | exact x_rb b_x1003 rfl rfl | exact ⟨by omega, by omega⟩) (by omega) (by omega) (by omega) (by omega) (by omega) (by omega) (by omega) (by omega) (by omega) (by omega) (by omega) w_8 (by rw [show z478 = x1000 + 1 by omega]; exact (rn_y (by omega) (by omega)).symm.trans w_9) w_10 (by rw [show z478 = x1000 + 1 by omega]; intro h; omega) (by omega) (q483).symm (q480).symm (q482).symm (q481).symm  (by omega)
      · rw [e_z451]
        show xe none 180 72 [(0, .ref 256), (1, vi x1), (2, vi x2), (3, vi x3), (4, vi x4), (5, vi x5), (6, vi x6)] [vi 0] s 0 0 _
        refine x_if_eq k180_72 (t := 129) rfl ⟨by decide, by decide⟩ (fun c485 => ?_) (fun c485 => by exfalso; omega)
        have hr : rn (s0 283) (s0 256 34) 48 57 x6 = x1000 := w_9.symm.trans (rn_n (by omega))
        have tx_ := te_2 w_10
        refine x_A k180_129 (fun _ => rfl) ?_
        refine x_getI k180_130 (f := 36) rfl (q := 256) (n := 62) (kd := 15) ⟨by decide, rfl⟩ (by decide) rfl ?_
        refine x_rw (e_x1000.symm) ?_
        refine x_A k180_133 (fun _ => rfl) ?_
        refine x_isub k180_135 ?_
        refine x_top (fun z486 e_z486 => ?_)
        refine x_A k180_136 (fun _ => rfl) ?_
        refine x_ic_le k180_137 (t := 148) rfl (by first | exact x_rbe e_z486 g_z486 rfl rfl | exact x_rb g_z486 rfl rfl | exact ⟨by omega, by omega⟩) (by first | exact x_rb b_x3 rfl rfl | exact ⟨by omega, by omega⟩) (fun c487 => ?_) (fun c487 => ?_)
        · skip
          refine x_A k180_148 (fun _ => rfl) ?_
          refine x_getI k180_149 (f := 39) rfl (q := 256) (n := 62) (kd := 15) ⟨by decide, rfl⟩ (by decide) rfl ?_
          refine x_rw (e_x1002.symm) ?_
          refine x_i2l k180_152 (by first | exact x_rb b_x1002 rfl rfl | exact ⟨by omega, by omega⟩) ?_
          refine x_A k180_153 (fun _ => rfl) ?_
          refine x_i2l k180_154 (by first | exact x_rb b_x1 rfl rfl | exact ⟨by omega, by omega⟩) ?_
          refine x_A k180_155 (fun _ => rfl) ?_
          refine x_i2l k180_156 (by first | exact x_rb b_x2 rfl rfl | exact ⟨by omega, by omega⟩) ?_
          refine x_callS k180_157 (y := 136) (n := 3) (w0 := 0) (w1 := 6) (as := [vj x1002, vj x1, vj x2]) (rest := []) (by decide +kernel) rfl rfl rfl rfl (xe_mono (C_X11_in s hG x1002 ⟨by omega, by omega⟩ x1 ⟨by omega, by omega⟩ x2 ⟨by omega, by omega⟩) ?_)
          rintro s489 v ⟨h_s489, z488, rfl, hz_z488⟩
          rw [h_s489]
          rcases hz_z488 with ⟨c_z488, e_z488⟩ | ⟨c_z488, e_z488⟩
          · rw [e_z488]
            show xe none 180 160 [(0, .ref 256), (1, vi x1), (2, vi x2), (3, vi x3), (4, vi x4), (5, vi x5), (6, vi x6)] [vi 1] s 0 0 _
            refine x_if_eq k180_160 (t := 167) rfl ⟨by decide, by decide⟩ (fun c490 => by exfalso; omega) (fun c490 => ?_)
            have nq : x1002 = nv (s0 283) x6 (te (s0 283) (s0 256 34) x6 - x6).toNat := by rw [show te (s0 283) (s0 256 34) x6 = x1000 by omega]; exact w_11 (by omega)
            have nf : numf (s0 283) (s0 256 34) (x6) a b d e = 0 := numf_0 w_10 (by omega) (by omega)
            refine x_A k180_163 (fun _ => rfl) ?_
            refine x_goto k180_164 (t := 175) rfl ?_
            exact x_iret k180_175 rfl ⟨hG, f, 0, rfl, ⟨by decide, by decide⟩, (by rw [← w_8]; unfold nva; exact ⟨by omega, fun w => ⟨by omega, by omega⟩, fun w => by omega, fun w => by omega, by omega⟩)⟩
          · rw [e_z488]
            show xe none 180 160 [(0, .ref 256), (1, vi x1), (2, vi x2), (3, vi x3), (4, vi x4), (5, vi x5), (6, vi x6)] [vi 0] s 0 0 _
            refine x_if_eq k180_160 (t := 167) rfl ⟨by decide, by decide⟩ (fun c491 => ?_) (fun c491 => by exfalso; omega)
            have nq : x1002 = nv (s0 283) x6 (te (s0 283) (s0 256 34) x6 - x6).toNat := by rw [show te (s0 283) (s0 256 34) x6 = x1000 by omega]; exact w_11 (by omega)
            have nf : numf (s0 283) (s0 256 34) (x6) a b d e = e := numf_3 w_10 (by omega) (by omega)
            refine x_A k180_167 (fun _ => rfl) ?_
            refine x_A k180_168 (fun _ => rfl) ?_
            refine x_A k180_170 (fun _ => rfl) ?_
            refine x_callV k180_172 (y := 177) (n := 2) (w0 := 0) (w1 := 2) (as := [vi x4, vi x6]) (rest := []) (by decide +kernel) (q := 256) (nq := 62) (kq := 15) ⟨by decide, rfl⟩ rfl rfl rfl rfl (xe_mono (E_X11_fails_256 s hG x4 (by first | exact x_rb b_x4 rfl rfl | exact ⟨by omega, by omega⟩) x6 (by first | exact x_rb b_x6 rfl rfl | exact ⟨by omega, by omega⟩)) ?_)
            rintro s493 v ⟨hG_s493, t_s493, z492, rfl, g_z492, xp_z492⟩
            have f_s493 : FL [4133, 4136, 4132] s0 s493 := f.tr t_s493 (by decide +kernel)
            have q494 : s493 256 36 = x1000 := (t_s493 256 36 (show 4133 ∉ [4132] from by decide +kernel)).trans e_x1000.symm
            have q495 : s493 256 34 = x1001 := (t_s493 256 34 (show 4131 ∉ [4132] from by decide +kernel)).trans e_x1001.symm
            have q496 : s493 256 39 = x1002 := (t_s493 256 39 (show 4136 ∉ [4132] from by decide +kernel)).trans e_x1002.symm
            have q497 : s493 283 x1000.toNat = z449 := (t_s493 283 x1000.toNat (show 5824 ∉ [4132] from by decide +kernel)).trans e_z449.symm
            obtain ⟨z498, e_z498⟩ : ∃ z, z = s493 256 35 := ⟨_, rfl⟩
            have g_z498 : (-2147483648) ≤ s493 256 35 ∧ s493 256 35 ≤ 2147483647 := hG_s493 256 35
            show xe none 180 175 [(0, .ref 256), (1, vi x1), (2, vi x2), (3, vi x3), (4, vi x4), (5, vi x5), (6, vi x6)] [vi z492] s493 0 0 _
            exact x_iret k180_175 rfl ⟨hG_s493, f_s493, z492, rfl, (by first | exact x_rbe e_z492 g_z492 rfl rfl | exact x_rb g_z492 rfl rfl | exact ⟨by omega, by omega⟩), (by rw [← w_8]; unfold nva; exact ⟨by omega, fun w => ⟨by omega, by omega⟩, fun w => by omega, fun w => by omega, by omega⟩)⟩
        · skip
          have nf : numf (s0 283) (s0 256 34) (x6) a b d e = 2 := numf_2 w_10 (by omega)
          refine x_A k180_140 (fun _ => rfl) ?_
          refine x_A k180_141 (fun _ => rfl) ?_
          refine x_A k180_142 (fun _ => rfl) ?_
          refine x_callV k180_144 (y := 177) (n := 2) (w0 := 0) (w1 := 2) (as := [vi 2, vi x6]) (rest := []) (by decide +kernel) (q := 256) (nq := 62) (kq := 15) ⟨by decide, rfl⟩ rfl rfl rfl rfl (xe_mono (E_X11_fails_256 s hG 2 ⟨by decide, by decide⟩ x6 (by first | exact x_rb b_x6 rfl rfl | exact ⟨by omega, by omega⟩)) ?_)
          rintro s500 v ⟨hG_s500, t_s500, z499, rfl, g_z499, xp_z499⟩
          have f_s500 : FL [4133, 4136, 4132] s0 s500 := f.tr t_s500 (by decide +kernel)
          have q501 : s500 256 36 = x1000 := (t_s500 256 36 (show 4133 ∉ [4132] from by decide +kernel)).trans e_x1000.symm
          have q502 : s500 256 34 = x1001 := (t_s500 256 34 (show 4131 ∉ [4132] from by decide +kernel)).trans e_x1001.symm
          have q503 : s500 256 39 = x1002 := (t_s500 256 39 (show 4136 ∉ [4132] from by decide +kernel)).trans e_x1002.symm
          have q504 : s500 283 x1000.toNat = z449 := (t_s500 283 x1000.toNat (show 5824 ∉ [4132] from by decide +kernel)).trans e_z449.symm
          obtain ⟨z505, e_z505⟩ : ∃ z, z = s500 256 35 := ⟨_, rfl⟩
          have g_z505 : (-2147483648) ≤ s500 256 35 ∧ s500 256 35 ≤ 2147483647 := hG_s500 256 35
          show xe none 180 147 [(0, .ref 256), (1, vi x1), (2, vi x2), (3, vi x3), (4, vi x4), (5, vi x5), (6, vi x6)] [vi z499] s500 0 0 _
          exact x_iret k180_147 rfl ⟨hG_s500, f_s500, z499, rfl, (by first | exact x_rbe e_z499 g_z499 rfl rfl | exact x_rb g_z499 rfl rfl | exact ⟨by omega, by omega⟩), (by rw [← w_8]; unfold nva; exact ⟨by omega, fun w => ⟨by omega, by omega⟩, fun w => by omega, fun w => by omega, by omega⟩)⟩
set_option maxHeartbeats 8000000 in
theorem E_X11_readNumber_256 (s0 : xS) (hG0 : GI s0) (a : Int) (b_a : (-2147483648) ≤ a ∧ a ≤ 2147483647) (b : Int) (b_b : (-2147483648) ≤ b ∧ b ≤ 2147483647) (d : Int) (b_d : 2 ≤ d ∧ d ≤ 3) (e : Int) (b_e : 1 ≤ e ∧ e ≤ 5) (pa : s0 256 36 ≤ s0 256 34) : xe none 180 0 (lv_args 0 [.ref 256, vi a, vi b, vi d, vi e]) [] s0 0 0 (fun s' v => GI s' ∧ FL [4133, 4136, 4132] s0 s' ∧ ∃ z, v = some (vi z) ∧ (0 ≤ z ∧ z ≤ 5) ∧ (z = numf (s0 283) (s0 256 34) (sk (s0 283) (s0 256 34) (s0 256 36)) a b d e ∧ (z = 0 → s' 256 39 = nva (s0 283) (s0 256 34) (sk (s0 283) (s0 256 34) (s0 256 36)) ∧ s' 256 36 = te (s0 283) (s0 256 34) (sk (s0 283) (s0 256 34) (s0 256 36))) ∧ (z ≠ 0 → s' 256 35 = sk (s0 283) (s0 256 34) (s0 256 36)) ∧ (z = 0 → s' 256 35 = s0 256 35) ∧ ((z = 0 → a ≤ s' 256 39 ∧ s' 256 39 ≤ b) ∧ s0 256 36 ≤ s' 256 36 ∧ (s0 256 36 ≤ s' 256 34 → s' 256 36 ≤ s' 256 34)))) := by
  have f0 : FL [4133, 4136, 4132] s0 s0 := FL.rf
  show xe none 180 0 [(0, .ref 256), (1, vi a), (2, vi b), (3, vi d), (4, vi e)] [] s0 0 0 _
  obtain ⟨z506, e_z506⟩ : ∃ z, z = s0 256 34 := ⟨_, rfl⟩
  have g_z506 : (0 : Int) ≤ s0 256 34 ∧ s0 256 34 ≤ 160 := hG0 256 34
  obtain ⟨z507, e_z507⟩ : ∃ z, z = s0 256 35 := ⟨_, rfl⟩
  have g_z507 : (-2147483648) ≤ s0 256 35 ∧ s0 256 35 ≤ 2147483647 := hG0 256 35
  refine x_A k180_0 (fun _ => rfl) ?_
  refine x_callV k180_1 (y := 176) (n := 0) (w0 := 0) (w1 := 0) (as := []) (rest := []) (by decide +kernel) (q := 256) (nq := 62) (kq := 15) ⟨by decide, rfl⟩ rfl rfl rfl rfl (xe_mono (E_X11_here_256 s0 hG0 (by omega)) ?_)
  rintro s509 v ⟨hG_s509, t_s509, z508, rfl, g_z508, xp_z508⟩
  have f_s509 : FL [4133, 4136, 4132] s0 s509 := f0.tr t_s509 (by decide +kernel)
  have q510 : s509 256 34 = z506 := (t_s509 256 34 (show 4131 ∉ [4133] from by decide +kernel)).trans e_z506.symm
  have q511 : s509 256 35 = z507 := (t_s509 256 35 (show 4132 ∉ [4133] from by decide +kernel)).trans e_z507.symm
  obtain ⟨z512, e_z512⟩ : ∃ z, z = s509 256 36 := ⟨_, rfl⟩
  have g_z512 : (0 : Int) ≤ s509 256 36 ∧ s509 256 36 ≤ 160 := hG_s509 256 36
  show xe none 180 4 [(0, .ref 256), (1, vi a), (2, vi b), (3, vi d), (4, vi e)] [vi z508] s509 0 0 _
  have hp := xp_z508.1
  have hc := xp_z508.2.1
  have kc := kd_cs (T := s0 283) (n := s0 256 34) (p := sk (s0 283) (s0 256 34) (s0 256 36))
  refine x_istore k180_4 (ls' := [(5, vi z508), (0, .ref 256), (1, vi a), (2, vi b), (3, vi d), (4, vi e)]) (by decide) rfl ?_
  refine x_A k180_6 (fun _ => rfl) ?_
  refine x_i2l k180_8 (by first | exact x_rbe e_z508 g_z508 rfl rfl | exact x_rb g_z508 rfl rfl | exact ⟨by omega, by omega⟩) ?_
  refine x_ldc2 k180_9 (z := 48) rfl (by decide +kernel) ?_
  refine x_ldc2 k180_12 (z := 57) rfl (by decide +kernel) ?_
  refine x_callS k180_15 (y := 136) (n := 3) (w0 := 0) (w1 := 6) (as := [vj z508, vj 48, vj 57]) (rest := []) (by decide +kernel) rfl rfl rfl rfl (xe_mono (C_X11_in s509 hG_s509 z508 ⟨by omega, by omega⟩ 48 ⟨by omega, by omega⟩ 57 ⟨by omega, by omega⟩) ?_)
  rintro s514 v ⟨h_s514, z513, rfl, hz_z513⟩
  rw [h_s514]
  rcases hz_z513 with ⟨c_z513, e_z513⟩ | ⟨c_z513, e_z513⟩
  · rw [e_z513]
    show xe none 180 18 [(5, vi z508), (0, .ref 256), (1, vi a), (2, vi b), (3, vi d), (4, vi e)] [vi 1] s509 0 0 _
    refine x_if_ne k180_18 (t := 31) rfl ⟨by decide, by decide⟩ (fun c515 => ?_) (fun c515 => by exfalso; omega)
    have hk : kd (s0 283) (s0 256 34) (sk (s0 283) (s0 256 34) (s0 256 36)) = 2 := by unfold ch at hc; split at hc <;> omega
    refine x_A k180_31 (fun _ => rfl) ?_
    refine x_getI k180_32 (f := 36) rfl (q := 256) (n := 62) (kd := 15) ⟨by decide, rfl⟩ (by decide) rfl ?_
    refine x_rw (e_z512.symm) ?_
    refine x_istore k180_35 (ls' := [(6, vi z512), (5, vi z508), (0, .ref 256), (1, vi a), (2, vi b), (3, vi d), (4, vi e)]) (by decide) rfl ?_
    refine x_A k180_37 (fun _ => rfl) ?_
    refine x_A k180_38 (fun _ => rfl) ?_
    refine x_putI k180_39 (f := 39) rfl (q := 256) (n := 62) (kd := 15) ⟨by decide, rfl⟩ rfl rfl rfl ?_
    refine x_nh (fun s516 e_s516 => ?_)
    have hG_s516 : GI s516 := by rw [e_s516]; exact hG_s509.up (show 0 ≤ 0 ∧ 0 ≤ 1100000 from ⟨by decide, by decide⟩)
    have f_s516 : FL [4133, 4136, 4132] s0 s516 := by rw [e_s516]; exact f_s509.up (show 4136 ∈ [4133, 4136, 4132] from by decide +kernel)
    have q517 : s516 256 34 = z506 := by rw [e_s516, x_up_i (by decide)]; exact q510
    have q518 : s516 256 35 = z507 := by rw [e_s516, x_up_i (by decide)]; exact q511
    have q519 : s516 256 36 = z512 := by rw [e_s516, x_up_i (by decide)]; exact e_z512.symm
    have q520 : s516 256 39 = 0 := by rw [e_s516]; exact x_up_same
    refine x_ls (l := [(0, .ref 256), (1, vi a), (2, vi b), (3, vi d), (4, vi e), (5, vi z508), (6, vi z512)]) (show ([0, 1, 2, 3, 4, 5, 6] : List Nat).Nodup from by decide +kernel) ⟨rfl, rfl, rfl, rfl, rfl, rfl, rfl, trivial⟩ ?_
    exact L_E_X11_readNumber_256_42 s0 a b_a b b_b d b_d e b_e pa  (((160 - z512) + 1 : Int)).toNat s516 a b d e z508 z512 z512 z506 0 z507 hG_s516 f_s516 (by first | exact x_rb b_a rfl rfl | exact ⟨by omega, by omega⟩) (by first | exact x_rb b_b rfl rfl | exact ⟨by omega, by omega⟩) (by first | exact x_rb b_d rfl rfl | exact ⟨by omega, by omega⟩) (by first | exact x_rb b_e rfl rfl | exact ⟨by omega, by omega⟩) (by first | exact x_rbe e_z508 g_z508 rfl rfl | exact x_rb g_z508 rfl rfl | exact ⟨by omega, by omega⟩) (by first | exact x_rbe e_z512 g_z512 rfl rfl | exact x_rb g_z512 rfl rfl | exact ⟨by omega, by omega⟩) (by first | exact x_rbe e_z512 g_z512 rfl rfl | exact x_rb g_z512 rfl rfl | exact ⟨by omega, by omega⟩) (by first | exact x_rbe e_z506 g_z506 rfl rfl | exact x_rb g_z506 rfl rfl | exact ⟨by omega, by omega⟩) ⟨by decide, by decide⟩ (by first | exact x_rbe e_z507 g_z507 rfl rfl | exact x_rb g_z507 rfl rfl | exact ⟨by omega, by omega⟩) (by omega) (by omega) (by omega) (by omega) (by omega) (by omega) (by omega) (by omega) (by omega) (by omega) (by omega) (by omega) (by rw [show z512 = z512 by omega]) (by rw [show z512 = sk (s0 283) (s0 256 34) (s0 256 36) by omega]; exact hk) (fun _ => by rw [show z512 - z512 = 0 by omega]; show _ = (0 : Int); omega) (by omega) (q519).symm (q517).symm (q520).symm (q518).symm  (by omega)
  · rw [e_z513]
    show xe none 180 18 [(5, vi z508), (0, .ref 256), (1, vi a), (2, vi b), (3, vi d), (4, vi e)] [vi 0] s509 0 0 _
    refine x_if_ne k180_18 (t := 31) rfl ⟨by decide, by decide⟩ (fun c521 => by exfalso; omega) (fun c521 => ?_)
    have nf : numf (s0 283) (s0 256 34) (sk (s0 283) (s0 256 34) (s0 256 36)) a b d e = 1 := numf_1 (fun w => by unfold ch at hc; split at hc <;> omega)
    refine x_A k180_21 (fun _ => rfl) ?_
    refine x_A k180_22 (fun _ => rfl) ?_
    refine x_A k180_23 (fun _ => rfl) ?_
    refine x_getI k180_24 (f := 36) rfl (q := 256) (n := 62) (kd := 15) ⟨by decide, rfl⟩ (by decide) rfl ?_
    refine x_rw (e_z512.symm) ?_
    refine x_callV k180_27 (y := 177) (n := 2) (w0 := 0) (w1 := 2) (as := [vi 1, vi z512]) (rest := []) (by decide +kernel) (q := 256) (nq := 62) (kq := 15) ⟨by decide, rfl⟩ rfl rfl rfl rfl (xe_mono (E_X11_fails_256 s509 hG_s509 1 ⟨by decide, by decide⟩ z512 (by first | exact x_rbe e_z512 g_z512 rfl rfl | exact x_rb g_z512 rfl rfl | exact ⟨by omega, by omega⟩)) ?_)
    rintro s523 v ⟨hG_s523, t_s523, z522, rfl, g_z522, xp_z522⟩
    have f_s523 : FL [4133, 4136, 4132] s0 s523 := f_s509.tr t_s523 (by decide +kernel)
    have q524 : s523 256 34 = z506 := (t_s523 256 34 (show 4131 ∉ [4132] from by decide +kernel)).trans q510
    have q525 : s523 256 36 = z512 := (t_s523 256 36 (show 4133 ∉ [4132] from by decide +kernel)).trans e_z512.symm
    obtain ⟨z526, e_z526⟩ : ∃ z, z = s523 256 35 := ⟨_, rfl⟩
    have g_z526 : (-2147483648) ≤ s523 256 35 ∧ s523 256 35 ≤ 2147483647 := hG_s523 256 35
    show xe none 180 30 [(5, vi z508), (0, .ref 256), (1, vi a), (2, vi b), (3, vi d), (4, vi e)] [vi z522] s523 0 0 _
    obtain ⟨z527, e_z527⟩ : ∃ z, z = s523 256 39 := ⟨_, rfl⟩
    have g_z527 : (0 : Int) ≤ s523 256 39 ∧ s523 256 39 ≤ 1100000 := hG_s523 256 39
    exact x_iret k180_30 rfl ⟨hG_s523, f_s523, z522, rfl, (by first | exact x_rbe e_z522 g_z522 rfl rfl | exact x_rb g_z522 rfl rfl | exact ⟨by omega, by omega⟩), (by exact ⟨by omega, fun w => by omega, fun w => by omega, fun w => by omega, by omega⟩)⟩
