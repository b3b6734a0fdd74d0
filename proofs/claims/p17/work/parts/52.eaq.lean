set_option maxHeartbeats 8000000 in
theorem L_E_X11_rule_256_43 (s0 : xS) (a : Int) (b_a : (-2147483648) ≤ a ∧ a ≤ 2147483647)  : ∀ (n : Nat) (s : xS) (x1 : Int) (x2 : Int) (x3 : Int) (x1000 : Int) (x1001 : Int) (x1002 : Int) (hG : GI s) (f : FL [4133, 4136, 4132, 4134, 4135, 5120, 5184, 5248, 4131, 4992, 5056, 4117, 4114] s0 s) (b_x1 : 0 ≤ x1 ∧ x1 ≤ 9) (b_x2 : 0 ≤ x2 ∧ x2 ≤ 8) (b_x3 : 0 ≤ x3 ∧ x3 ≤ 5) (b_x1000 : 0 ≤ x1000 ∧ x1000 ≤ 64) (b_x1001 : 0 ≤ x1001 ∧ x1001 ≤ 7) (b_x1002 : 0 ≤ x1002 ∧ x1002 ≤ 160) (w_0 : x1 = a) (w_1 : x1000 = s0 256 20) (w_2 : x1001 = s0 256 17) (w_3 : x1000 ≤ 8 * x1001) (w_4 : 0 ≤ a ∧ a ≤ 9) (w_5 : x1001 ≤ 7) (w_6 : JRc s (s0 256 20 + x2)) (w_7 : x1002 = s0 256 34) (w_8 : s 283 = s0 283) (w_9 : RrI s (s0 283) (s0 256 34) (s0 256 20) (s0 256 17) x2 x3) (w_10 : ∀ j : Nat, (j : Int) < s0 256 20 → s 272 j = s0 272 j ∧ s 273 j = s0 273 j ∧ s 274 j = s0 274 j) (w_11 : s 270 = s0 270) (w_12 : s 271 = s0 271) (w_13 : 0 ≤ s 256 36 ∧ (x3 = 0 → s 256 36 ≤ x1002)) (w_14 : x2 ≤ 8) (e_x1000 : x1000 = s 256 20) (e_x1001 : x1001 = s 256 17) (e_x1002 : x1002 = s 256 34) (i_J : J s)  (hm : (40 - 2 * x2 - x3) < (n : Int)), xe none 187 43 [(0, .ref 256), (1, vi x1), (2, vi x2), (3, vi x3)] [] s 0 0 (fun s' v => GI s' ∧ FL [4133, 4136, 4132, 4134, 4135, 5120, 5184, 5248, 4131, 4992, 5056, 4117, 4114] s0 s' ∧ ∃ z, v = some (vi z) ∧ ((-2147483648) ≤ z ∧ z ≤ 2147483647) ∧ (RuR s0 s' a z) ∧ J s') := by
  intro n
  induction n with
  | zero => intro s x1 x2 x3 x1000 x1001 x1002 hG f b_x1 b_x2 b_x3 b_x1000 b_x1001 b_x1002 w_0 w_1 w_2 w_3 w_4 w_5 w_6 w_7 w_8 w_9 w_10 w_11 w_12 w_13 w_14 e_x1000 e_x1001 e_x1002 i_J  hm; exfalso; omega
  | succ n ih =>
    intro s x1 x2 x3 x1000 x1001 x1002 hG f b_x1 b_x2 b_x3 b_x1000 b_x1001 b_x1002 w_0 w_1 w_2 w_3 w_4 w_5 w_6 w_7 w_8 w_9 w_10 w_11 w_12 w_13 w_14 e_x1000 e_x1001 e_x1002 i_J  hm
    refine x_A k187_43 (fun _ => rfl) ?_
    refine x_if_ne k187_44 (t := 91) rfl (by first | exact x_rb b_x3 rfl rfl | exact ⟨by omega, by omega⟩) (fun c884 => ?_) (fun c884 => ?_)
    · skip
      obtain ⟨z885, e_z885⟩ : ∃ z, z = s 256 35 := ⟨_, rfl⟩
      have g_z885 : (-2147483648) ≤ s 256 35 ∧ s 256 35 ≤ 2147483647 := hG 256 35
      refine x_A k187_91 (fun _ => rfl) ?_
      refine x_A k187_92 (fun _ => rfl) ?_
      refine x_putI k187_93 (f := 34) rfl (q := 256) (n := 62) (kd := 15) ⟨by decide, rfl⟩ rfl rfl rfl ?_
      refine x_nh (fun s886 e_s886 => ?_)
      have hG_s886 : GI s886 := by rw [e_s886]; exact hG.up (show 0 ≤ 0 ∧ 0 ≤ 160 from ⟨by decide, by decide⟩)
      have f_s886 : FL [4133, 4136, 4132, 4134, 4135, 5120, 5184, 5248, 4131, 4992, 5056, 4117, 4114] s0 s886 := by rw [e_s886]; exact f.up (show 4131 ∈ [4133, 4136, 4132, 4134, 4135, 5120, 5184, 5248, 4131, 4992, 5056, 4117, 4114] from by decide +kernel)
      have q887 : s886 256 20 = x1000 := by rw [e_s886, x_up_i (by decide)]; exact e_x1000.symm
      have q888 : s886 256 17 = x1001 := by rw [e_s886, x_up_i (by decide)]; exact e_x1001.symm
      have q889 : s886 256 35 = z885 := by rw [e_s886, x_up_i (by decide)]; exact e_z885.symm
      have q890 : s886 256 34 = 0 := by rw [e_s886]; exact x_up_same
      have J_s886 : J s886 := by rw [e_s886]; exact J.up i_J (show 4131 ∉ LJ from by decide)
      have Rn_s886 : JRc s886 (s0 256 20 + x2) := by rw [e_s886]; exact JRc.up w_6 (show 4131 ∉ [5120, 5184] from by decide +kernel)
      refine x_A k187_96 (fun _ => rfl) ?_
      refine x_if_le k187_97 (t := 105) rfl (by first | exact x_rb b_x3 rfl rfl | exact ⟨by omega, by omega⟩) (fun c891 => by exfalso; omega) (fun c891 => ?_)
      refine x_bipush k187_100 (by decide +kernel) ?_
      refine x_A k187_102 (fun _ => rfl) ?_
      refine x_isub k187_103 ?_
      refine x_top (fun z892 e_z892 => ?_)
      exact x_iret k187_104 rfl ⟨hG_s886, f_s886, z892, rfl, (by first | exact x_rbe e_z892 g_z892 rfl rfl | exact x_rb g_z892 rfl rfl | exact ⟨by omega, by omega⟩), (by rw [show z892 = -10 - x3 by omega]; exact RuR.bad w_9 (by omega) ⟨by omega, by omega⟩ (by omega) (by omega) (by omega) (by omega) (by omega) (by omega) (funext fun i => by rw [e_s886, x_up_q (by decide)]; exact congrFun w_11 i) (funext fun i => by rw [e_s886, x_up_q (by decide)]; exact congrFun w_12 i) (fun j hj => by obtain ⟨l1, l2, l3⟩ := w_10 j hj; exact ⟨by rw [e_s886, x_up_q (by decide)]; exact l1, by rw [e_s886, x_up_q (by decide)]; exact l2, by rw [e_s886, x_up_q (by decide)]; exact l3⟩)), J_s886⟩
    · skip
      obtain ⟨z893, e_z893⟩ : ∃ z, z = s 256 35 := ⟨_, rfl⟩
      have g_z893 : (-2147483648) ≤ s 256 35 ∧ s 256 35 ≤ 2147483647 := hG 256 35
      refine x_A k187_47 (fun _ => rfl) ?_
      refine x_callV k187_48 (y := 176) (n := 0) (w0 := 0) (w1 := 0) (as := []) (rest := []) (by decide +kernel) (q := 256) (nq := 62) (kq := 15) ⟨by decide, rfl⟩ rfl rfl rfl rfl (xe_mono (E_X11_here_256 s hG (by omega)) ?_)
      rintro s895 v ⟨hG_s895, t_s895, z894, rfl, g_z894, xp_z894⟩
      have f_s895 : FL [4133, 4136, 4132, 4134, 4135, 5120, 5184, 5248, 4131, 4992, 5056, 4117, 4114] s0 s895 := f.tr t_s895 (by decide +kernel)
      have q896 : s895 256 20 = x1000 := (t_s895 256 20 (show 4117 ∉ [4133] from by decide +kernel)).trans e_x1000.symm
      have q897 : s895 256 17 = x1001 := (t_s895 256 17 (show 4114 ∉ [4133] from by decide +kernel)).trans e_x1001.symm
      have q898 : s895 256 34 = x1002 := (t_s895 256 34 (show 4131 ∉ [4133] from by decide +kernel)).trans e_x1002.symm
      have q899 : s895 256 35 = z893 := (t_s895 256 35 (show 4132 ∉ [4133] from by decide +kernel)).trans e_z893.symm
      have J_s895 : J s895 := J.fl i_J t_s895 (by decide +kernel)
      have Rn_s895 : JRc s895 (s0 256 20 + x2) := JRc.fl w_6 t_s895 (by decide +kernel)
      obtain ⟨z900, e_z900⟩ : ∃ z, z = s895 256 36 := ⟨_, rfl⟩
      have g_z900 : (0 : Int) ≤ s895 256 36 ∧ s895 256 36 ≤ 160 := hG_s895 256 36
      show xe none 187 51 [(0, .ref 256), (1, vi x1), (2, vi x2), (3, vi x3)] [vi z894] s895 0 0 _
      have hh := xp_z894
      clear xp_z894
      rw [w_8, show s 256 34 = s0 256 34 by omega] at hh
      obtain ⟨hh1, hh2, hh3, hh4, hh5⟩ := hh
      specialize hh5 (by omega)
      refine x_if_lt k187_51 (t := 91) rfl (by first | exact x_rbe e_z894 g_z894 rfl rfl | exact x_rb g_z894 rfl rfl | exact ⟨by omega, by omega⟩) (fun c901 => ?_) (fun c901 => ?_)
      · skip
        refine x_A k187_91 (fun _ => rfl) ?_
        refine x_A k187_92 (fun _ => rfl) ?_
        refine x_putI k187_93 (f := 34) rfl (q := 256) (n := 62) (kd := 15) ⟨by decide, rfl⟩ rfl rfl rfl ?_
        refine x_nh (fun s902 e_s902 => ?_)
        have hG_s902 : GI s902 := by rw [e_s902]; exact hG_s895.up (show 0 ≤ 0 ∧ 0 ≤ 160 from ⟨by decide, by decide⟩)
        have f_s902 : FL [4133, 4136, 4132, 4134, 4135, 5120, 5184, 5248, 4131, 4992, 5056, 4117, 4114] s0 s902 := by rw [e_s902]; exact f_s895.up (show 4131 ∈ [4133, 4136, 4132, 4134, 4135, 5120, 5184, 5248, 4131, 4992, 5056, 4117, 4114] from by decide +kernel)
        have q903 : s902 256 20 = x1000 := by rw [e_s902, x_up_i (by decide)]; exact q896
        have q904 : s902 256 17 = x1001 := by rw [e_s902, x_up_i (by decide)]; exact q897
        have q905 : s902 256 35 = z893 := by rw [e_s902, x_up_i (by decide)]; exact q899
        have q906 : s902 256 36 = z900 := by rw [e_s902, x_up_i (by decide)]; exact e_z900.symm
        have q907 : s902 256 34 = 0 := by rw [e_s902]; exact x_up_same
        have J_s902 : J s902 := by rw [e_s902]; exact J.up J_s895 (show 4131 ∉ LJ from by decide)
        have Rn_s902 : JRc s902 (s0 256 20 + x2) := by rw [e_s902]; exact JRc.up Rn_s895 (show 4131 ∉ [5120, 5184] from by decide +kernel)
        refine x_A k187_96 (fun _ => rfl) ?_
        refine x_if_le k187_97 (t := 105) rfl (by first | exact x_rb b_x3 rfl rfl | exact ⟨by omega, by omega⟩) (fun c908 => ?_) (fun c908 => by exfalso; omega)
        refine x_A k187_105 (fun _ => rfl) ?_
        refine x_getR k187_106 (f := 18) rfl (q := 256) (n := 62) (kd := 15) ⟨by decide, rfl⟩ (q2 := 270) (by decide) rfl ?_
        refine x_A k187_109 (fun _ => rfl) ?_
        refine x_getI k187_110 (f := 17) rfl (q := 256) (n := 62) (kd := 15) ⟨by decide, rfl⟩ (by decide) rfl ?_
        refine x_rw (q904) ?_
        refine x_A k187_113 (fun _ => rfl) ?_
        refine x_iast k187_114 (q := 270) (n := 8) ⟨by decide, rfl⟩ (by decide) (by first | exact x_rbl b_x1001 rfl rfl | exact ⟨by omega, by omega⟩) ?_
        refine x_nh (fun s909 e_s909 => ?_)
        have hG_s909 : GI s909 := by rw [e_s909]; exact hG_s902.up (show 0 ≤ x1 ∧ x1 ≤ 9 from (by first | exact x_rb b_x1 rfl rfl | exact ⟨by omega, by omega⟩))
        have f_s909 : FL [4133, 4136, 4132, 4134, 4135, 5120, 5184, 5248, 4131, 4992, 5056, 4117, 4114] s0 s909 := by rw [e_s909]; exact f_s902.up (show 4992 ∈ [4133, 4136, 4132, 4134, 4135, 5120, 5184, 5248, 4131, 4992, 5056, 4117, 4114] from by decide +kernel)
        have q910 : s909 256 20 = x1000 := by rw [e_s909, x_up_q (by decide)]; exact q903
        have q911 : s909 256 17 = x1001 := by rw [e_s909, x_up_q (by decide)]; exact q904
        have q912 : s909 256 35 = z893 := by rw [e_s909, x_up_q (by decide)]; exact q905
        have q913 : s909 256 36 = z900 := by rw [e_s909, x_up_q (by decide)]; exact q906
        have q914 : s909 256 34 = 0 := by rw [e_s909, x_up_q (by decide)]; exact q907
        have q915 : s909 270 x1001.toNat = x1 := by rw [e_s909]; exact x_up_same
        have J_s909 : J s909 := by rw [e_s909]; exact J.up J_s902 (show 4992 ∉ LJ from by decide)
        have Rn_s909 : JRc s909 (s0 256 20 + x2) := by rw [e_s909]; exact JRc.up Rn_s902 (show 4992 ∉ [5120, 5184] from by decide +kernel)
        refine x_A k187_115 (fun _ => rfl) ?_
        refine x_getR k187_116 (f := 19) rfl (q := 256) (n := 62) (kd := 15) ⟨by decide, rfl⟩ (q2 := 271) (by decide) rfl ?_
        refine x_A k187_119 (fun _ => rfl) ?_
        refine x_getI k187_120 (f := 17) rfl (q := 256) (n := 62) (kd := 15) ⟨by decide, rfl⟩ (by decide) rfl ?_
        refine x_rw (q911) ?_
        refine x_A k187_123 (fun _ => rfl) ?_
        refine x_getI k187_124 (f := 20) rfl (q := 256) (n := 62) (kd := 15) ⟨by decide, rfl⟩ (by decide) rfl ?_
        refine x_rw (q910) ?_
        refine x_iast k187_127 (q := 271) (n := 9) ⟨by decide, rfl⟩ (by decide) (by first | exact x_rbl b_x1001 rfl rfl | exact ⟨by omega, by omega⟩) ?_
        refine x_nh (fun s916 e_s916 => ?_)
        have hG_s916 : GI s916 := by rw [e_s916]; exact hG_s909.up (show 0 ≤ x1000 ∧ x1000 ≤ 64 from (by first | exact x_rb b_x1000 rfl rfl | exact ⟨by omega, by omega⟩))
        have f_s916 : FL [4133, 4136, 4132, 4134, 4135, 5120, 5184, 5248, 4131, 4992, 5056, 4117, 4114] s0 s916 := by rw [e_s916]; exact f_s909.up (show 5056 ∈ [4133, 4136, 4132, 4134, 4135, 5120, 5184, 5248, 4131, 4992, 5056, 4117, 4114] from by decide +kernel)
        have q917 : s916 256 20 = x1000 := by rw [e_s916, x_up_q (by decide)]; exact q910
        have q918 : s916 256 17 = x1001 := by rw [e_s916, x_up_q (by decide)]; exact q911
        have q919 : s916 256 35 = z893 := by rw [e_s916, x_up_q (by decide)]; exact q912
        have q920 : s916 256 36 = z900 := by rw [e_s916, x_up_q (by decide)]; exact q913
        have q921 : s916 256 34 = 0 := by rw [e_s916, x_up_q (by decide)]; exact q914
        have q922 : s916 270 x1001.toNat = x1 := by rw [e_s916, x_up_q (by first | decide | omega)]; exact q915
        have q923 : s916 271 x1001.toNat = x1000 := by rw [e_s916]; exact x_up_same
        have Rn_s916 : JRc s916 (s0 256 20 + x2) := by rw [e_s916]; exact JRc.up Rn_s909 (show 5056 ∉ [5120, 5184] from by decide +kernel)
        refine x_A k187_128 (fun _ => rfl) ?_
        refine x_A k187_129 (fun _ => rfl) ?_
        refine x_getI k187_130 (f := 20) rfl (q := 256) (n := 62) (kd := 15) ⟨by decide, rfl⟩ (by decide) rfl ?_
        refine x_rw (q917) ?_
        refine x_A k187_133 (fun _ => rfl) ?_
        refine x_iadd k187_134 ?_
        refine x_top (fun z924 e_z924 => ?_)
        refine x_putI k187_135 (f := 20) rfl (q := 256) (n := 62) (kd := 15) ⟨by decide, rfl⟩ rfl rfl rfl ?_
        refine x_nh (fun s925 e_s925 => ?_)
        have hG_s925 : GI s925 := by rw [e_s925]; exact hG_s916.up (show 0 ≤ z924 ∧ z924 ≤ 64 from (by first | exact x_rbe e_z924 g_z924 rfl rfl | exact x_rb g_z924 rfl rfl | exact ⟨by omega, by omega⟩))
        have f_s925 : FL [4133, 4136, 4132, 4134, 4135, 5120, 5184, 5248, 4131, 4992, 5056, 4117, 4114] s0 s925 := by rw [e_s925]; exact f_s916.up (show 4117 ∈ [4133, 4136, 4132, 4134, 4135, 5120, 5184, 5248, 4131, 4992, 5056, 4117, 4114] from by decide +kernel)
        have q926 : s925 256 17 = x1001 := by rw [e_s925, x_up_i (by decide)]; exact q918
        have q927 : s925 256 35 = z893 := by rw [e_s925, x_up_i (by decide)]; exact q919
        have q928 : s925 256 36 = z900 := by rw [e_s925, x_up_i (by decide)]; exact q920
        have q929 : s925 256 34 = 0 := by rw [e_s925, x_up_i (by decide)]; exact q921
        have q930 : s925 256 20 = z924 := by rw [e_s925]; exact x_up_same
        have q931 : s925 270 x1001.toNat = x1 := by rw [e_s925, x_up_q (by first | decide | omega)]; exact q922
        have q932 : s925 271 x1001.toNat = x1000 := by rw [e_s925, x_up_q (by first | decide | omega)]; exact q923
        have Rn_s925 : JRc s925 (s0 256 20 + x2) := by rw [e_s925]; exact JRc.up Rn_s916 (show 4117 ∉ [5120, 5184] from by decide +kernel)
        refine x_A k187_138 (fun _ => rfl) ?_
        refine x_A k187_139 (fun _ => rfl) ?_
        refine x_getI k187_140 (f := 17) rfl (q := 256) (n := 62) (kd := 15) ⟨by decide, rfl⟩ (by decide) rfl ?_
        refine x_rw (q926) ?_
        refine x_A k187_143 (fun _ => rfl) ?_
        refine x_iadd k187_144 ?_
        refine x_top (fun z933 e_z933 => ?_)
        refine x_putI k187_145 (f := 17) rfl (q := 256) (n := 62) (kd := 15) ⟨by decide, rfl⟩ rfl rfl rfl ?_
        refine x_nh (fun s934 e_s934 => ?_)
        have hG_s934 : GI s934 := by rw [e_s934]; exact hG_s925.up (show 0 ≤ z933 ∧ z933 ≤ 8 from (by first | exact x_rbe e_z933 g_z933 rfl rfl | exact x_rb g_z933 rfl rfl | exact ⟨by omega, by omega⟩))
        have f_s934 : FL [4133, 4136, 4132, 4134, 4135, 5120, 5184, 5248, 4131, 4992, 5056, 4117, 4114] s0 s934 := by rw [e_s934]; exact f_s925.up (show 4114 ∈ [4133, 4136, 4132, 4134, 4135, 5120, 5184, 5248, 4131, 4992, 5056, 4117, 4114] from by decide +kernel)
        have q935 : s934 256 35 = z893 := by rw [e_s934, x_up_i (by decide)]; exact q927
        have q936 : s934 256 36 = z900 := by rw [e_s934, x_up_i (by decide)]; exact q928
        have q937 : s934 256 34 = 0 := by rw [e_s934, x_up_i (by decide)]; exact q929
        have q938 : s934 256 20 = z924 := by rw [e_s934, x_up_i (by decide)]; exact q930
        have q939 : s934 256 17 = z933 := by rw [e_s934]; exact x_up_same
        have q940 : s934 270 x1001.toNat = x1 := by rw [e_s934, x_up_q (by first | decide | omega)]; exact q931
        have q941 : s934 271 x1001.toNat = x1000 := by rw [e_s934, x_up_q (by first | decide | omega)]; exact q932
        have Rn_s934 : JRc s934 (s0 256 20 + x2) := by rw [e_s934]; exact JRc.up Rn_s925 (show 4114 ∉ [5120, 5184] from by decide +kernel)
        refine x_A k187_148 (fun _ => rfl) ?_
        refine x_getR k187_149 (f := 19) rfl (q := 256) (n := 62) (kd := 15) ⟨by decide, rfl⟩ (q2 := 271) (by decide) rfl ?_
        refine x_A k187_152 (fun _ => rfl) ?_
        refine x_getI k187_153 (f := 17) rfl (q := 256) (n := 62) (kd := 15) ⟨by decide, rfl⟩ (by decide) rfl ?_
        refine x_rw (q939) ?_
        refine x_A k187_156 (fun _ => rfl) ?_
        refine x_getI k187_157 (f := 20) rfl (q := 256) (n := 62) (kd := 15) ⟨by decide, rfl⟩ (by decide) rfl ?_
        refine x_rw (q938) ?_
        refine x_iast k187_160 (q := 271) (n := 9) ⟨by decide, rfl⟩ (by decide) (by first | exact x_rbel e_z933 g_z933 rfl rfl | exact x_rbl g_z933 rfl rfl | exact ⟨by omega, by omega⟩) ?_
        refine x_nh (fun s942 e_s942 => ?_)
        have hG_s942 : GI s942 := by rw [e_s942]; exact hG_s934.up (show 0 ≤ z924 ∧ z924 ≤ 64 from (by first | exact x_rbe e_z924 g_z924 rfl rfl | exact x_rb g_z924 rfl rfl | exact ⟨by omega, by omega⟩))
        have f_s942 : FL [4133, 4136, 4132, 4134, 4135, 5120, 5184, 5248, 4131, 4992, 5056, 4117, 4114] s0 s942 := by rw [e_s942]; exact f_s934.up (show 5056 ∈ [4133, 4136, 4132, 4134, 4135, 5120, 5184, 5248, 4131, 4992, 5056, 4117, 4114] from by decide +kernel)
        have q943 : s942 256 35 = z893 := by rw [e_s942, x_up_q (by decide)]; exact q935
        have q944 : s942 256 36 = z900 := by rw [e_s942, x_up_q (by decide)]; exact q936
        have q945 : s942 256 34 = 0 := by rw [e_s942, x_up_q (by decide)]; exact q937
        have q946 : s942 256 20 = z924 := by rw [e_s942, x_up_q (by decide)]; exact q938
        have q947 : s942 256 17 = z933 := by rw [e_s942, x_up_q (by decide)]; exact q939
        have q948 : s942 270 x1001.toNat = x1 := by rw [e_s942, x_up_q (by first | decide | omega)]; exact q940
        have q949 : s942 271 z933.toNat = z924 := by rw [e_s942]; exact x_up_same
        have Rn_s942 : JRc s942 (s0 256 20 + x2) := by rw [e_s942]; exact JRc.up Rn_s934 (show 5056 ∉ [5120, 5184] from by decide +kernel)
        have J_r : J s942 := by rw [e_s942, e_s934, e_s925, e_s916, e_s909]; exact J.rule J_s902 (n := x2) (show x1001 = s902 256 17 by omega) ⟨by omega, by omega⟩ (by omega) (show x1000 = s902 256 20 by omega) ⟨by omega, by omega⟩ (by omega) (by rw [show z924 = s0 256 20 + x2 by omega]; exact Rn_s902)
        refine x_A k187_161 (fun _ => rfl) ?_
        refine x_getI k187_162 (f := 17) rfl (q := 256) (n := 62) (kd := 15) ⟨by decide, rfl⟩ (by decide) rfl ?_
        refine x_rw (q947) ?_
        refine x_A k187_165 (fun _ => rfl) ?_
        refine x_isub k187_166 ?_
        refine x_top (fun z950 e_z950 => ?_)
        exact x_iret k187_167 rfl ⟨hG_s942, f_s942, z950, rfl, (by first | exact x_rbe e_z950 g_z950 rfl rfl | exact x_rb g_z950 rfl rfl | exact ⟨by omega, by omega⟩), (by rw [show z950 = s0 256 17 by omega]; exact RuR.good (by have w := w_9; rw [show x3 = 0 by omega] at w; exact w) (by omega) (fun j => by rw [← w_8]; exact (show (0 : Int) ≤ s 283 j ∧ s 283 j ≤ 255 from hG 283 j).1) ⟨by omega, by omega⟩ (by omega) (by omega) (by omega) (by omega) (by omega) (by omega) (fun j => by rw [e_s942, x_up_q (by decide), e_s934, x_up_q (by decide), e_s925, x_up_q (by decide), e_s916, x_up_q (by decide), e_s909, x_up_at, e_s902, x_up_q (by decide), t_s895 270 _ (show 4992 ∉ _ from by decide), show x1001 = s0 256 17 by omega, show x1 = a by omega, w_11]) (fun j => by rw [e_s942, x_up_at, e_s934, x_up_q (by decide), e_s925, x_up_q (by decide), e_s916, x_up_at, e_s909, x_up_q (by decide), e_s902, x_up_q (by decide), t_s895 271 _ (show 5056 ∉ _ from by decide), show z933 = s0 256 17 + 1 by omega, show z924 = s0 256 20 + x2 by omega, show x1001 = s0 256 17 by omega, show x1000 = s0 256 20 by omega, w_12]) (fun j hj => by obtain ⟨l1, l2, l3⟩ := w_10 j hj; exact ⟨by rw [e_s942, x_up_q (by decide), e_s934, x_up_q (by decide), e_s925, x_up_q (by decide), e_s916, x_up_q (by decide), e_s909, x_up_q (by decide), e_s902, x_up_q (by decide), t_s895 272 _ (show 5120 ∉ _ from by decide)]; exact l1, by rw [e_s942, x_up_q (by decide), e_s934, x_up_q (by decide), e_s925, x_up_q (by decide), e_s916, x_up_q (by decide), e_s909, x_up_q (by decide), e_s902, x_up_q (by decide), t_s895 273 _ (show 5184 ∉ _ from by decide)]; exact l2, by rw [e_s942, x_up_q (by decide), e_s934, x_up_q (by decide), e_s925, x_up_q (by decide), e_s916, x_up_q (by decide), e_s909, x_up_q (by decide), e_s902, x_up_q (by decide), t_s895 274 _ (show 5248 ∉ _ from by decide)]; exact l3⟩) (funext fun i => by rw [e_s942, x_up_q (by decide), e_s934, x_up_q (by decide), e_s925, x_up_q (by decide), e_s916, x_up_q (by decide), e_s909, x_up_q (by decide), e_s902, x_up_q (by decide), t_s895 272 _ (show 5120 ∉ _ from by decide)]) (funext fun i => by rw [e_s942, x_up_q (by decide), e_s934, x_up_q (by decide), e_s925, x_up_q (by decide), e_s916, x_up_q (by decide), e_s909, x_up_q (by decide), e_s902, x_up_q (by decide), t_s895 273 _ (show 5184 ∉ _ from by decide)]) (funext fun i => by rw [e_s942, x_up_q (by decide), e_s934, x_up_q (by decide), e_s925, x_up_q (by decide), e_s916, x_up_q (by decide), e_s909, x_up_q (by decide), e_s902, x_up_q (by decide), t_s895 274 _ (show 5248 ∉ _ from by decide)])), J_r⟩
      · skip
        refine x_A k187_54 (fun _ => rfl) ?_
        refine x_A k187_55 (fun _ => rfl) ?_
        refine x_getI k187_56 (f := 20) rfl (q := 256) (n := 62) (kd := 15) ⟨by decide, rfl⟩ (by decide) rfl ?_
        refine x_rw (q896) ?_
        refine x_A k187_59 (fun _ => rfl) ?_
        refine x_iadd k187_60 ?_
        refine x_top (fun z951 e_z951 => ?_)
        refine x_A k187_61 (fun _ => rfl) ?_
        refine x_bipush k187_62 (by decide +kernel) ?_
        refine x_ic_ne k187_64 (t := 71) rfl (by first | exact x_rb b_x2 rfl rfl | exact ⟨by omega, by omega⟩) ⟨by decide, by decide⟩ (fun c952 => ?_) (fun c952 => ?_)
        · skip
          refine x_A k187_71 (fun _ => rfl) ?_
          have Ra_i : JRc s895 z951 := by rw [show z951 = s0 256 20 + x2 by omega]; exact Rn_s895
          refine x_callV k187_72 (y := 186) (n := 2) (w0 := 0) (w1 := 2) (as := [vi z951, vi 0]) (rest := []) (by decide +kernel) (q := 256) (nq := 62) (kq := 15) ⟨by decide, rfl⟩ rfl rfl rfl rfl (xe_mono (E_X11_readClause_256 s895 hG_s895 z951 (by first | exact x_rbe e_z951 g_z951 rfl rfl | exact x_rb g_z951 rfl rfl | exact ⟨by omega, by omega⟩) 0 ⟨by decide, by decide⟩ (by omega) Ra_i (RCk.rf (a := z951))) ?_)
          rintro s954 v ⟨hG_s954, t_s954, z953, rfl, g_z953, xp_z953, Ra_s954, RC_s954⟩
          have f_s954 : FL [4133, 4136, 4132, 4134, 4135, 5120, 5184, 5248, 4131, 4992, 5056, 4117, 4114] s0 s954 := f_s895.tr t_s954 (by decide +kernel)
          have q955 : s954 256 20 = x1000 := (t_s954 256 20 (show 4117 ∉ [4133, 4136, 4132, 4134, 4135, 5120, 5184, 5248] from by decide +kernel)).trans q896
          have q956 : s954 256 17 = x1001 := (t_s954 256 17 (show 4114 ∉ [4133, 4136, 4132, 4134, 4135, 5120, 5184, 5248] from by decide +kernel)).trans q897
          have q957 : s954 256 34 = x1002 := (t_s954 256 34 (show 4131 ∉ [4133, 4136, 4132, 4134, 4135, 5120, 5184, 5248] from by decide +kernel)).trans q898
          obtain ⟨z958, e_z958⟩ : ∃ z, z = s954 256 36 := ⟨_, rfl⟩
          have g_z958 : (0 : Int) ≤ s954 256 36 ∧ s954 256 36 ≤ 160 := hG_s954 256 36
          obtain ⟨z959, e_z959⟩ : ∃ z, z = s954 256 35 := ⟨_, rfl⟩
          have g_z959 : (-2147483648) ≤ s954 256 35 ∧ s954 256 35 ≤ 2147483647 := hG_s954 256 35
          show xe none 187 75 [(0, .ref 256), (1, vi x1), (2, vi x2), (3, vi x3)] [vi z953] s954 0 0 _
          have J_s954 : J s954 := J.rc J_s895 t_s954 (by decide) Ra_s954 (by omega)
          have cR := xp_z953.1
          have c36 : z953 = 0 → s954 256 36 ≤ s895 256 34 := fun w => (cR.2.2 w).2.1
          rw [show z951 = s0 256 20 + x2 by omega] at cR
          have rC := RC_s954
          rw [show z951 = s0 256 20 + x2 by omega] at rC
          have st := RrI.step (T := s0 283) (n := s0 256 34) (R := s0 256 17) (show RrI s (s0 283) (s0 256 34) (s0 256 20) (s0 256 17) x2 0 from by have w := w_9; rw [show x3 = 0 by omega] at w; exact w) ⟨by omega, by omega⟩ (by omega) hh1 (by omega) (by omega) (funext fun i => t_s895 272 i (show 5120 ∉ _ from by decide)) (funext fun i => t_s895 273 i (show 5184 ∉ _ from by decide)) (funext fun i => t_s895 274 i (show 5248 ∉ _ from by decide)) cR ((funext fun i => t_s895 283 i (show 5824 ∉ _ from by decide)).trans w_8) (by omega) (by omega) (by omega) rC
          refine x_istore_n k187_75 (ls' := [(3, vi z953), (0, .ref 256), (1, vi x1), (2, vi x2)]) (by decide) rfl ?_
          refine x_A k187_76 (fun _ => rfl) ?_
          refine x_A k187_77 (fun _ => rfl) ?_
          refine x_if_ne k187_78 (t := 85) rfl (by first | exact x_rbe e_z953 g_z953 rfl rfl | exact x_rb g_z953 rfl rfl | exact ⟨by omega, by omega⟩) (fun c960 => ?_) (fun c960 => ?_)
          · skip
            refine x_A k187_85 (fun _ => rfl) ?_
            refine x_iadd k187_86 ?_
            refine x_top (fun z961 e_z961 => ?_)
            refine x_istore_n k187_87 (ls' := [(2, vi z961), (3, vi z953), (0, .ref 256), (1, vi x1)]) (by decide) rfl ?_
            refine x_goto k187_88 (t := 43) rfl ?_
            refine x_ls (l := [(0, .ref 256), (1, vi x1), (2, vi z961), (3, vi z953)]) (show ([0, 1, 2, 3] : List Nat).Nodup from by decide +kernel) ⟨rfl, rfl, rfl, rfl, trivial⟩ ?_
            exact ih s954 x1 z961 z953 x1000 x1001 x1002 hG_s954 f_s954 (by first | exact x_rb b_x1 rfl rfl | exact ⟨by omega, by omega⟩) (by first | exact x_rbe e_z961 g_z961 rfl rfl | exact x_rb g_z961 rfl rfl | exact ⟨by omega, by omega⟩) (by first | exact x_rbe e_z953 g_z953 rfl rfl | exact x_rb g_z953 rfl rfl | exact ⟨by omega, by omega⟩) (by first | exact x_rb b_x1000 rfl rfl | exact ⟨by omega, by omega⟩) (by first | exact x_rb b_x1001 rfl rfl | exact ⟨by omega, by omega⟩) (by first | exact x_rb b_x1002 rfl rfl | exact ⟨by omega, by omega⟩) (by omega) (by omega) (by omega) (by omega) (by omega) (by omega) (by rw [show s0 256 20 + z961 = z951 by omega]; exact Ra_s954) (by omega) (show s954 283 = s0 283 from funext fun i => f_s954 283 i (show 5824 ∉ [4133, 4136, 4132, 4134, 4135, 5120, 5184, 5248, 4131, 4992, 5056, 4117, 4114] from by decide +kernel)) (by rw [show z961 = x2 by omega]; exact st.2 (by omega)) (fun j hj => by obtain ⟨k1, k2, k3⟩ := rC j (by omega); obtain ⟨l1, l2, l3⟩ := w_10 j hj; exact ⟨k1.trans ((t_s895 272 j (show 5120 ∉ _ from by decide)).trans l1), k2.trans ((t_s895 273 j (show 5184 ∉ _ from by decide)).trans l2), k3.trans ((t_s895 274 j (show 5248 ∉ _ from by decide)).trans l3)⟩) ((funext fun i => (t_s954 270 i (show 4992 ∉ _ from by decide)).trans (t_s895 270 i (show 4992 ∉ _ from by decide))).trans w_11) ((funext fun i => (t_s954 271 i (show 5056 ∉ _ from by decide)).trans (t_s895 271 i (show 5056 ∉ _ from by decide))).trans w_12) (by omega) (by omega) (q955).symm (q956).symm (q957).symm J_s954  (by omega)
          · skip
            refine x_A k187_81 (fun _ => rfl) ?_
            refine x_goto k187_82 (t := 86) rfl ?_
            refine x_iadd k187_86 ?_
            refine x_top (fun z962 e_z962 => ?_)
            refine x_istore_n k187_87 (ls' := [(2, vi z962), (3, vi z953), (0, .ref 256), (1, vi x1)]) (by decide) rfl ?_
            refine x_goto k187_88 (t := 43) rfl ?_
            refine x_ls (l := [(0, .ref 256), (1, vi x1), (2, vi z962), (3, vi z953)]) (show ([0, 1, 2, 3] : List Nat).Nodup from by decide +kernel) ⟨rfl, rfl, rfl, rfl, trivial⟩ ?_
            exact ih s954 x1 z962 z953 x1000 x1001 x1002 hG_s954 f_s954 (by first | exact x_rb b_x1 rfl rfl | exact ⟨by omega, by omega⟩) (by first | exact x_rbe e_z962 g_z962 rfl rfl | exact x_rb g_z962 rfl rfl | exact ⟨by omega, by omega⟩) (by first | exact x_rbe e_z953 g_z953 rfl rfl | exact x_rb g_z953 rfl rfl | exact ⟨by omega, by omega⟩) (by first | exact x_rb b_x1000 rfl rfl | exact ⟨by omega, by omega⟩) (by first | exact x_rb b_x1001 rfl rfl | exact ⟨by omega, by omega⟩) (by first | exact x_rb b_x1002 rfl rfl | exact ⟨by omega, by omega⟩) (by omega) (by omega) (by omega) (by omega) (by omega) (by omega) (by rw [show s0 256 20 + z962 = z951 + 1 by omega]; exact xp_z953.2.2 (by omega)) (by omega) (show s954 283 = s0 283 from funext fun i => f_s954 283 i (show 5824 ∉ [4133, 4136, 4132, 4134, 4135, 5120, 5184, 5248, 4131, 4992, 5056, 4117, 4114] from by decide +kernel)) (by rw [show z962 = x2 + 1 by omega, show z953 = 0 by omega]; exact st.1 (by omega)) (fun j hj => by obtain ⟨k1, k2, k3⟩ := rC j (by omega); obtain ⟨l1, l2, l3⟩ := w_10 j hj; exact ⟨k1.trans ((t_s895 272 j (show 5120 ∉ _ from by decide)).trans l1), k2.trans ((t_s895 273 j (show 5184 ∉ _ from by decide)).trans l2), k3.trans ((t_s895 274 j (show 5248 ∉ _ from by decide)).trans l3)⟩) ((funext fun i => (t_s954 270 i (show 4992 ∉ _ from by decide)).trans (t_s895 270 i (show 4992 ∉ _ from by decide))).trans w_11) ((funext fun i => (t_s954 271 i (show 5056 ∉ _ from by decide)).trans (t_s895 271 i (show 5056 ∉ _ from by decide))).trans w_12) (by omega) (by omega) (q955).symm (q956).symm (q957).symm J_s954  (by omega)
        · skip
          refine x_A k187_67 (fun _ => rfl) ?_
          refine x_goto k187_68 (t := 72) rfl ?_
          have Ra_i : JRc s895 z951 := by rw [show z951 = s0 256 20 + x2 by omega]; exact Rn_s895
          refine x_callV k187_72 (y := 186) (n := 2) (w0 := 0) (w1 := 2) (as := [vi z951, vi 1]) (rest := []) (by decide +kernel) (q := 256) (nq := 62) (kq := 15) ⟨by decide, rfl⟩ rfl rfl rfl rfl (xe_mono (E_X11_readClause_256 s895 hG_s895 z951 (by first | exact x_rbe e_z951 g_z951 rfl rfl | exact x_rb g_z951 rfl rfl | exact ⟨by omega, by omega⟩) 1 ⟨by decide, by decide⟩ (by omega) Ra_i (RCk.rf (a := z951))) ?_)
          rintro s964 v ⟨hG_s964, t_s964, z963, rfl, g_z963, xp_z963, Ra_s964, RC_s964⟩
          have f_s964 : FL [4133, 4136, 4132, 4134, 4135, 5120, 5184, 5248, 4131, 4992, 5056, 4117, 4114] s0 s964 := f_s895.tr t_s964 (by decide +kernel)
          have q965 : s964 256 20 = x1000 := (t_s964 256 20 (show 4117 ∉ [4133, 4136, 4132, 4134, 4135, 5120, 5184, 5248] from by decide +kernel)).trans q896
          have q966 : s964 256 17 = x1001 := (t_s964 256 17 (show 4114 ∉ [4133, 4136, 4132, 4134, 4135, 5120, 5184, 5248] from by decide +kernel)).trans q897
          have q967 : s964 256 34 = x1002 := (t_s964 256 34 (show 4131 ∉ [4133, 4136, 4132, 4134, 4135, 5120, 5184, 5248] from by decide +kernel)).trans q898
          obtain ⟨z968, e_z968⟩ : ∃ z, z = s964 256 36 := ⟨_, rfl⟩
          have g_z968 : (0 : Int) ≤ s964 256 36 ∧ s964 256 36 ≤ 160 := hG_s964 256 36
          obtain ⟨z969, e_z969⟩ : ∃ z, z = s964 256 35 := ⟨_, rfl⟩
          have g_z969 : (-2147483648) ≤ s964 256 35 ∧ s964 256 35 ≤ 2147483647 := hG_s964 256 35
          show xe none 187 75 [(0, .ref 256), (1, vi x1), (2, vi x2), (3, vi x3)] [vi z963] s964 0 0 _
          have J_s964 : J s964 := J.rc J_s895 t_s964 (by decide) Ra_s964 (by omega)
          have cR := xp_z963.1
          have c36 : z963 = 0 → s964 256 36 ≤ s895 256 34 := fun w => (cR.2.2 w).2.1
          rw [show z951 = s0 256 20 + x2 by omega] at cR
          have rC := RC_s964
          rw [show z951 = s0 256 20 + x2 by omega] at rC
          have st := RrI.step (T := s0 283) (n := s0 256 34) (R := s0 256 17) (show RrI s (s0 283) (s0 256 34) (s0 256 20) (s0 256 17) x2 0 from by have w := w_9; rw [show x3 = 0 by omega] at w; exact w) ⟨by omega, by omega⟩ (by omega) hh1 (by omega) (by omega) (funext fun i => t_s895 272 i (show 5120 ∉ _ from by decide)) (funext fun i => t_s895 273 i (show 5184 ∉ _ from by decide)) (funext fun i => t_s895 274 i (show 5248 ∉ _ from by decide)) cR ((funext fun i => t_s895 283 i (show 5824 ∉ _ from by decide)).trans w_8) (by omega) (by omega) (by omega) rC
          refine x_istore_n k187_75 (ls' := [(3, vi z963), (0, .ref 256), (1, vi x1), (2, vi x2)]) (by decide) rfl ?_
          refine x_A k187_76 (fun _ => rfl) ?_
          refine x_A k187_77 (fun _ => rfl) ?_
          refine x_if_ne k187_78 (t := 85) rfl (by first | exact x_rbe e_z963 g_z963 rfl rfl | exact x_rb g_z963 rfl rfl | exact ⟨by omega, by omega⟩) (fun c970 => ?_) (fun c970 => ?_)
          · skip
            refine x_A k187_85 (fun _ => rfl) ?_
            refine x_iadd k187_86 ?_
            refine x_top (fun z971 e_z971 => ?_)
            refine x_istore_n k187_87 (ls' := [(2, vi z971), (3, vi z963), (0, .ref 256), (1, vi x1)]) (by decide) rfl ?_
            refine x_goto k187_88 (t := 43) rfl ?_
            refine x_ls (l := [(0, .ref 256), (1, vi x1), (2, vi z971), (3, vi z963)]) (show ([0, 1, 2, 3] : List Nat).Nodup from by decide +kernel) ⟨rfl, rfl, rfl, rfl, trivial⟩ ?_
            exact ih s964 x1 z971 z963 x1000 x1001 x1002 hG_s964 f_s964 (by first | exact x_rb b_x1 rfl rfl | exact ⟨by omega, by omega⟩) (by first | exact x_rbe e_z971 g_z971 rfl rfl | exact x_rb g_z971 rfl rfl | exact ⟨by omega, by omega⟩) (by first | exact x_rbe e_z963 g_z963 rfl rfl | exact x_rb g_z963 rfl rfl | exact ⟨by omega, by omega⟩) (by first | exact x_rb b_x1000 rfl rfl | exact ⟨by omega, by omega⟩) (by first | exact x_rb b_x1001 rfl rfl | exact ⟨by omega, by omega⟩) (by first | exact x_rb b_x1002 rfl rfl | exact ⟨by omega, by omega⟩) (by omega) (by omega) (by omega) (by omega) (by omega) (by omega) (by rw [show s0 256 20 + z971 = z951 by omega]; exact Ra_s964) (by omega) (show s964 283 = s0 283 from funext fun i => f_s964 283 i (show 5824 ∉ [4133, 4136, 4132, 4134, 4135, 5120, 5184, 5248, 4131, 4992, 5056, 4117, 4114] from by decide +kernel)) (by rw [show z971 = x2 by omega]; exact st.2 (by omega)) (fun j hj => by obtain ⟨k1, k2, k3⟩ := rC j (by omega); obtain ⟨l1, l2, l3⟩ := w_10 j hj; exact ⟨k1.trans ((t_s895 272 j (show 5120 ∉ _ from by decide)).trans l1), k2.trans ((t_s895 273 j (show 5184 ∉ _ from by decide)).trans l2), k3.trans ((t_s895 274 j (show 5248 ∉ _ from by decide)).trans l3)⟩) ((funext fun i => (t_s964 270 i (show 4992 ∉ _ from by decide)).trans (t_s895 270 i (show 4992 ∉ _ from by decide))).trans w_11) ((funext fun i => (t_s964 271 i (show 5056 ∉ _ from by decide)).trans (t_s895 271 i (show 5056 ∉ _ from by decide))).trans w_12) (by omega) (by omega) (q965).symm (q966).symm (q967).symm J_s964  (by omega)
          · skip
            refine x_A k187_81 (fun _ => rfl) ?_
            refine x_goto k187_82 (t := 86) rfl ?_
            refine x_iadd k187_86 ?_
            refine x_top (fun z972 e_z972 => ?_)
            refine x_istore_n k187_87 (ls' := [(2, vi z972), (3, vi z963), (0, .ref 256), (1, vi x1)]) (by decide) rfl ?_
            refine x_goto k187_88 (t := 43) rfl ?_
            refine x_ls (l := [(0, .ref 256), (1, vi x1), (2, vi z972), (3, vi z963)]) (show ([0, 1, 2, 3] : List Nat).Nodup from by decide +kernel) ⟨rfl, rfl, rfl, rfl, trivial⟩ ?_
            exact ih s964 x1 z972 z963 x1000 x1001 x1002 hG_s964 f_s964 (by first | exact x_rb b_x1 rfl rfl | exact ⟨by omega, by omega⟩) (by first | exact x_rbe e_z972 g_z972 rfl rfl | exact x_rb g_z972 rfl rfl | exact ⟨by omega, by omega⟩) (by first | exact x_rbe e_z963 g_z963 rfl rfl | exact x_rb g_z963 rfl rfl | exact ⟨by omega, by omega⟩) (by first | exact x_rb b_x1000 rfl rfl | exact ⟨by omega, by omega⟩) (by first | exact x_rb b_x1001 rfl rfl | exact ⟨by omega, by omega⟩) (by first | exact x_rb b_x1002 rfl rfl | exact ⟨by omega, by omega⟩) (by omega) (by omega) (by omega) (by omega) (by omega) (by omega) (by rw [show s0 256 20 + z972 = z951 + 1 by omega]; exact xp_z963.2.2 (by omega)) (by omega) (show s964 283 = s0 283 from funext fun i => f_s964 283 i (show 5824 ∉ [4133, 4136, 4132, 4134, 4135, 5120, 5184, 5248, 4131, 4992, 5056, 4117, 4114] from by decide +kernel)) (by rw [show z972 = x2 + 1 by omega, show z963 = 0 by omega]; exact st.1 (by omega)) (fun j hj => by obtain ⟨k1, k2, k3⟩ := rC j (by omega); obtain ⟨l1, l2, l3⟩ := w_10 j hj; exact ⟨k1.trans ((t_s895 272 j (show 5120 ∉ _ from by decide)).trans l1), k2.trans ((t_s895 273 j (show 5184 ∉ _ from by decide)).trans l2), k3.trans ((t_s895 274 j (show 5248 ∉ _ from by decide)).trans l3)⟩) ((funext fun i => (t_s964 270 i (show 4992 ∉ _ from by decide)).trans (t_s895 270 i (show 4992 ∉ _ from by decide))).trans w_11) ((funext fun i => (t_s964 271 i (show 5056 ∉ _ from by decide)).trans (t_s895 271 i (show 5056 ∉ _ from by decide))).trans w_12) (by omega) (by omega) (q965).symm (q966).symm (q967).symm J_s964  (by omega)
set_option maxHeartbeats 8000000 in
theorem E_X11_rule_256 (s0 : xS) (hG0 : GI s0) (a : Int) (b_a : (-2147483648) ≤ a ∧ a ≤ 2147483647) (p_256_20 : 0 ≤ s0 256 20 ∧ s0 256 20 ≤ 64) (p_256_17 : 0 ≤ s0 256 17 ∧ s0 256 17 ≤ 8) (i0_J : J s0) : xe none 187 0 (lv_args 0 [.ref 256, vi a]) [] s0 0 0 (fun s' v => GI s' ∧ FL [4133, 4136, 4132, 4134, 4135, 5120, 5184, 5248, 4131, 4992, 5056, 4117, 4114] s0 s' ∧ ∃ z, v = some (vi z) ∧ ((-2147483648) ≤ z ∧ z ≤ 2147483647) ∧ (RuR s0 s' a z) ∧ J s') := by
  have f0 : FL [4133, 4136, 4132, 4134, 4135, 5120, 5184, 5248, 4131, 4992, 5056, 4117, 4114] s0 s0 := FL.rf
  show xe none 187 0 [(0, .ref 256), (1, vi a)] [] s0 0 0 _
  obtain ⟨z973, e_z973⟩ : ∃ z, z = s0 256 20 := ⟨_, rfl⟩
  have g_z973 : (0 : Int) ≤ s0 256 20 ∧ s0 256 20 ≤ 64 := hG0 256 20
  obtain ⟨z974, e_z974⟩ : ∃ z, z = s0 256 17 := ⟨_, rfl⟩
  have g_z974 : (0 : Int) ≤ s0 256 17 ∧ s0 256 17 ≤ 8 := hG0 256 17
  have jc := i0_J.cl
  obtain ⟨z975, e_z975⟩ : ∃ z, z = s0 256 34 := ⟨_, rfl⟩
  have g_z975 : (0 : Int) ≤ s0 256 34 ∧ s0 256 34 ≤ 160 := hG0 256 34
  obtain ⟨z976, e_z976⟩ : ∃ z, z = s0 256 35 := ⟨_, rfl⟩
  have g_z976 : (-2147483648) ≤ s0 256 35 ∧ s0 256 35 ≤ 2147483647 := hG0 256 35
  refine x_A k187_0 (fun _ => rfl) ?_
  refine x_i2l k187_1 (by first | exact x_rb b_a rfl rfl | exact ⟨by omega, by omega⟩) ?_
  refine x_lconst k187_2 (z := 0) (by decide +kernel) ?_
  refine x_ldc2 k187_3 (z := 9) rfl (by decide +kernel) ?_
  refine x_callS k187_6 (y := 136) (n := 3) (w0 := 0) (w1 := 6) (as := [vj a, vj 0, vj 9]) (rest := []) (by decide +kernel) rfl rfl rfl rfl (xe_mono (C_X11_in s0 hG0 a ⟨by omega, by omega⟩ 0 ⟨by omega, by omega⟩ 9 ⟨by omega, by omega⟩) ?_)
  rintro s978 v ⟨h_s978, z977, rfl, hz_z977⟩
  rw [h_s978]
  rcases hz_z977 with ⟨c_z977, e_z977⟩ | ⟨c_z977, e_z977⟩
  · rw [e_z977]
    show xe none 187 9 [(0, .ref 256), (1, vi a)] [vi 1] s0 0 0 _
    refine x_if_ne k187_9 (t := 16) rfl ⟨by decide, by decide⟩ (fun c979 => ?_) (fun c979 => by exfalso; omega)
    refine x_A k187_16 (fun _ => rfl) ?_
    refine x_getI k187_17 (f := 17) rfl (q := 256) (n := 62) (kd := 15) ⟨by decide, rfl⟩ (by decide) rfl ?_
    refine x_rw (e_z974.symm) ?_
    refine x_bipush k187_20 (by decide +kernel) ?_
    refine x_ic_ne k187_22 (t := 29) rfl (by first | exact x_rbe e_z974 g_z974 rfl rfl | exact x_rb g_z974 rfl rfl | exact ⟨by omega, by omega⟩) ⟨by decide, by decide⟩ (fun c980 => ?_) (fun c980 => ?_)
    · skip
      refine x_A k187_29 (fun _ => rfl) ?_
      refine x_A k187_30 (fun _ => rfl) ?_
      refine x_putI k187_31 (f := 35) rfl (q := 256) (n := 62) (kd := 15) ⟨by decide, rfl⟩ rfl rfl rfl ?_
      refine x_nh (fun s981 e_s981 => ?_)
      have hG_s981 : GI s981 := by rw [e_s981]; exact hG0.up (show (-2147483648) ≤ (-1) ∧ (-1) ≤ 2147483647 from ⟨by decide, by decide⟩)
      have f_s981 : FL [4133, 4136, 4132, 4134, 4135, 5120, 5184, 5248, 4131, 4992, 5056, 4117, 4114] s0 s981 := by rw [e_s981]; exact f0.up (show 4132 ∈ [4133, 4136, 4132, 4134, 4135, 5120, 5184, 5248, 4131, 4992, 5056, 4117, 4114] from by decide +kernel)
      have q982 : s981 256 20 = z973 := by rw [e_s981, x_up_i (by decide)]; exact e_z973.symm
      have q983 : s981 256 17 = z974 := by rw [e_s981, x_up_i (by decide)]; exact e_z974.symm
      have q984 : s981 256 34 = z975 := by rw [e_s981, x_up_i (by decide)]; exact e_z975.symm
      have q985 : s981 256 35 = (-1) := by rw [e_s981]; exact x_up_same
      have J_s981 : J s981 := by rw [e_s981]; exact J.up i0_J (show 4132 ∉ LJ from by decide)
      refine x_A k187_34 (fun _ => rfl) ?_
      refine x_A k187_35 (fun _ => rfl) ?_
      refine x_putI k187_36 (f := 36) rfl (q := 256) (n := 62) (kd := 15) ⟨by decide, rfl⟩ rfl rfl rfl ?_
      refine x_nh (fun s986 e_s986 => ?_)
      have hG_s986 : GI s986 := by rw [e_s986]; exact hG_s981.up (show 0 ≤ 0 ∧ 0 ≤ 160 from ⟨by decide, by decide⟩)
      have f_s986 : FL [4133, 4136, 4132, 4134, 4135, 5120, 5184, 5248, 4131, 4992, 5056, 4117, 4114] s0 s986 := by rw [e_s986]; exact f_s981.up (show 4133 ∈ [4133, 4136, 4132, 4134, 4135, 5120, 5184, 5248, 4131, 4992, 5056, 4117, 4114] from by decide +kernel)
      have q987 : s986 256 20 = z973 := by rw [e_s986, x_up_i (by decide)]; exact q982
      have q988 : s986 256 17 = z974 := by rw [e_s986, x_up_i (by decide)]; exact q983
      have q989 : s986 256 34 = z975 := by rw [e_s986, x_up_i (by decide)]; exact q984
      have q990 : s986 256 35 = (-1) := by rw [e_s986, x_up_i (by decide)]; exact q985
      have q991 : s986 256 36 = 0 := by rw [e_s986]; exact x_up_same
      have J_s986 : J s986 := by rw [e_s986]; exact J.up J_s981 (show 4133 ∉ LJ from by decide)
      refine x_A k187_39 (fun _ => rfl) ?_
      refine x_istore_n k187_40 (ls' := [(2, vi 0), (0, .ref 256), (1, vi a)]) (by decide) rfl ?_
      refine x_A k187_41 (fun _ => rfl) ?_
      refine x_istore_n k187_42 (ls' := [(3, vi 0), (2, vi 0), (0, .ref 256), (1, vi a)]) (by decide) rfl ?_
      refine x_ls (l := [(0, .ref 256), (1, vi a), (2, vi 0), (3, vi 0)]) (show ([0, 1, 2, 3] : List Nat).Nodup from by decide +kernel) ⟨rfl, rfl, rfl, rfl, trivial⟩ ?_
      exact L_E_X11_rule_256_43 s0 a b_a  (((40 - 2 * 0 - 0) + 1 : Int)).toNat s986 a 0 0 z973 z974 z975 hG_s986 f_s986 (by first | exact x_rb b_a rfl rfl | exact ⟨by omega, by omega⟩) ⟨by decide, by decide⟩ ⟨by decide, by decide⟩ (by first | exact x_rbe e_z973 g_z973 rfl rfl | exact x_rb g_z973 rfl rfl | exact ⟨by omega, by omega⟩) (by first | exact x_rbe e_z974 g_z974 rfl rfl | exact x_rb g_z974 rfl rfl | exact ⟨by omega, by omega⟩) (by first | exact x_rbe e_z975 g_z975 rfl rfl | exact x_rb g_z975 rfl rfl | exact ⟨by omega, by omega⟩) (by omega) (by omega) (by omega) (by omega) (by omega) (by omega) (by rw [show s0 256 20 + 0 = s0 256 20 by omega, ← show s986 256 20 = s0 256 20 by omega]; exact J_s986.2.2.2.2.2.1) (by omega) (show s986 283 = s0 283 from funext fun i => f_s986 283 i (show 5824 ∉ [4133, 4136, 4132, 4134, 4135, 5120, 5184, 5248, 4131, 4992, 5056, 4117, 4114] from by decide +kernel)) (Or.inl ⟨rfl, by rw [show s986 256 36 = 0 by omega]; rfl, by omega, by omega, fun j j0 j1 => by omega, fun j j0 j1 => by omega⟩) (fun j _ => ⟨by rw [e_s986, x_up_q (by decide), e_s981, x_up_q (by decide)], by rw [e_s986, x_up_q (by decide), e_s981, x_up_q (by decide)], by rw [e_s986, x_up_q (by decide), e_s981, x_up_q (by decide)]⟩) (funext fun i => by rw [e_s986, x_up_q (by decide), e_s981, x_up_q (by decide)]) (funext fun i => by rw [e_s986, x_up_q (by decide), e_s981, x_up_q (by decide)]) (by omega) (by omega) (q987).symm (q988).symm (q989).symm J_s986  (by omega)
    · skip
      refine x_sipush k187_25 (by decide +kernel) ?_
      exact x_iret k187_28 rfl ⟨hG0, f0, (-1004), rfl, ⟨by decide, by decide⟩, (by unfold RuR; exact Or.inr (Or.inl ⟨by omega, by omega, rfl, rfl⟩)), i0_J⟩
  · rw [e_z977]
    show xe none 187 9 [(0, .ref 256), (1, vi a)] [vi 0] s0 0 0 _
    refine x_if_ne k187_9 (t := 16) rfl ⟨by decide, by decide⟩ (fun c992 => by exfalso; omega) (fun c992 => ?_)
    refine x_sipush k187_12 (by decide +kernel) ?_
    exact x_iret k187_15 rfl ⟨hG0, f0, (-1002), rfl, ⟨by decide, by decide⟩, (by unfold RuR; exact Or.inl ⟨by omega, rfl, rfl⟩), i0_J⟩
set_option maxHeartbeats 8000000 in
theorem E_X0_oneKind_177 (s0 : xS) (hG0 : GI s0) (i0_TK : TKs s0) : xe none 6 0 (lv_args 0 [.ref 177]) [] s0 0 0 (fun s' v => GI s' ∧ FL [] s0 s' ∧ ∃ z, v = some (vi z) ∧ ((-1) ≤ z ∧ z ≤ 5) ∧ (z = lkd (s0 178) (s0 177 1) (s0 177 3))) := by
  have f0 : FL [] s0 s0 := FL.rf
  show xe none 6 0 [(0, .ref 177)] [] s0 0 0 _
  refine x_A k6_0 (fun _ => rfl) ?_
  refine x_ldcR k6_1 (q := 2002) rfl ?_
  refine x_callV k6_3 (y := 53) (n := 1) (w0 := 0) (w1 := 1) (as := [.ref 2002]) (rest := []) (by decide +kernel) (q := 177) (nq := 7) (kq := 7) ⟨by decide, rfl⟩ rfl rfl rfl rfl (xe_mono (E_X6_isWord_177_2002 s0 hG0 i0_TK) ?_)
  rintro s2 v ⟨-, t_s2, z1, rfl, g_z1, xp_z1⟩
  rw [t_s2.nil]
  try rw [t_s2.nil] at xp_z1
  show xe none 6 6 [(0, .ref 177)] [vi z1] s0 0 0 _
  refine x_if_eq k6_6 (t := 11) rfl (by first | exact x_rbe e_z1 g_z1 rfl rfl | exact x_rb g_z1 rfl rfl | exact ⟨by omega, by omega⟩) (fun c3 => ?_) (fun c3 => ?_)
  · skip
    refine x_A k6_11 (fun _ => rfl) ?_
    refine x_ldcR k6_12 (q := 2003) rfl ?_
    refine x_callV k6_14 (y := 53) (n := 1) (w0 := 0) (w1 := 1) (as := [.ref 2003]) (rest := []) (by decide +kernel) (q := 177) (nq := 7) (kq := 7) ⟨by decide, rfl⟩ rfl rfl rfl rfl (xe_mono (E_X6_isWord_177_2003 s0 hG0 i0_TK) ?_)
    rintro s5 v ⟨-, t_s5, z4, rfl, g_z4, xp_z4⟩
    rw [t_s5.nil]
    try rw [t_s5.nil] at xp_z4
    show xe none 6 17 [(0, .ref 177)] [vi z4] s0 0 0 _
    refine x_if_eq k6_17 (t := 22) rfl (by first | exact x_rbe e_z4 g_z4 rfl rfl | exact x_rb g_z4 rfl rfl | exact ⟨by omega, by omega⟩) (fun c6 => ?_) (fun c6 => ?_)
    · skip
      refine x_A k6_22 (fun _ => rfl) ?_
      refine x_ldcR k6_23 (q := 2004) rfl ?_
      refine x_callV k6_25 (y := 53) (n := 1) (w0 := 0) (w1 := 1) (as := [.ref 2004]) (rest := []) (by decide +kernel) (q := 177) (nq := 7) (kq := 7) ⟨by decide, rfl⟩ rfl rfl rfl rfl (xe_mono (E_X6_isWord_177_2004 s0 hG0 i0_TK) ?_)
      rintro s8 v ⟨-, t_s8, z7, rfl, g_z7, xp_z7⟩
      rw [t_s8.nil]
      try rw [t_s8.nil] at xp_z7
      show xe none 6 28 [(0, .ref 177)] [vi z7] s0 0 0 _
      refine x_if_eq k6_28 (t := 33) rfl (by first | exact x_rbe e_z7 g_z7 rfl rfl | exact x_rb g_z7 rfl rfl | exact ⟨by omega, by omega⟩) (fun c9 => ?_) (fun c9 => ?_)
      · skip
        refine x_A k6_33 (fun _ => rfl) ?_
        refine x_ldcR k6_34 (q := 2005) rfl ?_
        refine x_callV k6_36 (y := 53) (n := 1) (w0 := 0) (w1 := 1) (as := [.ref 2005]) (rest := []) (by decide +kernel) (q := 177) (nq := 7) (kq := 7) ⟨by decide, rfl⟩ rfl rfl rfl rfl (xe_mono (E_X6_isWord_177_2005 s0 hG0 i0_TK) ?_)
        rintro s11 v ⟨-, t_s11, z10, rfl, g_z10, xp_z10⟩
        rw [t_s11.nil]
        try rw [t_s11.nil] at xp_z10
        show xe none 6 39 [(0, .ref 177)] [vi z10] s0 0 0 _
        refine x_if_eq k6_39 (t := 44) rfl (by first | exact x_rbe e_z10 g_z10 rfl rfl | exact x_rb g_z10 rfl rfl | exact ⟨by omega, by omega⟩) (fun c12 => ?_) (fun c12 => ?_)
        · skip
          refine x_A k6_44 (fun _ => rfl) ?_
          refine x_ldcR k6_45 (q := 2006) rfl ?_
          refine x_callV k6_47 (y := 53) (n := 1) (w0 := 0) (w1 := 1) (as := [.ref 2006]) (rest := []) (by decide +kernel) (q := 177) (nq := 7) (kq := 7) ⟨by decide, rfl⟩ rfl rfl rfl rfl (xe_mono (E_X6_isWord_177_2006 s0 hG0 i0_TK) ?_)
          rintro s14 v ⟨-, t_s14, z13, rfl, g_z13, xp_z13⟩
          rw [t_s14.nil]
          try rw [t_s14.nil] at xp_z13
          show xe none 6 50 [(0, .ref 177)] [vi z13] s0 0 0 _
          refine x_if_eq k6_50 (t := 55) rfl (by first | exact x_rbe e_z13 g_z13 rfl rfl | exact x_rb g_z13 rfl rfl | exact ⟨by omega, by omega⟩) (fun c15 => ?_) (fun c15 => ?_)
          · skip
            refine x_A k6_55 (fun _ => rfl) ?_
            exact x_iret k6_56 rfl ⟨hG0, f0, (-1), rfl, ⟨by decide, by decide⟩, (by unfold lkd; have kc := lkw_cs (wv (s0 178) (s0 177 1) (s0 177 3)); omega)⟩
          · skip
            refine x_A k6_53 (fun _ => rfl) ?_
            exact x_iret k6_54 rfl ⟨hG0, f0, 5, rfl, ⟨by decide, by decide⟩, (by unfold lkd; have kc := lkw_cs (wv (s0 178) (s0 177 1) (s0 177 3)); omega)⟩
        · skip
          refine x_A k6_42 (fun _ => rfl) ?_
          exact x_iret k6_43 rfl ⟨hG0, f0, 4, rfl, ⟨by decide, by decide⟩, (by unfold lkd; have kc := lkw_cs (wv (s0 178) (s0 177 1) (s0 177 3)); omega)⟩
      · skip
        refine x_A k6_31 (fun _ => rfl) ?_
        exact x_iret k6_32 rfl ⟨hG0, f0, 3, rfl, ⟨by decide, by decide⟩, (by unfold lkd; have kc := lkw_cs (wv (s0 178) (s0 177 1) (s0 177 3)); omega)⟩
    · skip
      refine x_A k6_20 (fun _ => rfl) ?_
      exact x_iret k6_21 rfl ⟨hG0, f0, 2, rfl, ⟨by decide, by decide⟩, (by unfold lkd; have kc := lkw_cs (wv (s0 178) (s0 177 1) (s0 177 3)); omega)⟩
  · skip
    refine x_A k6_9 (fun _ => rfl) ?_
    exact x_iret k6_10 rfl ⟨hG0, f0, 1, rfl, ⟨by decide, by decide⟩, (by unfold lkd; have kc := lkw_cs (wv (s0 178) (s0 177 1) (s0 177 3)); omega)⟩
