set_option maxHeartbeats 8000000 in
theorem L_E_X11_isBeyond_256_23 (s0 : xS) (a : Int) (b_a : 0 ≤ a ∧ a ≤ 39) (b : Int) (b_b : 0 ≤ b ∧ b ≤ 39) (d : Int) (b_d : (-2147483648) ≤ d ∧ d ≤ 2147483647) (e : Int) (b_e : (-2147483648) ≤ e ∧ e ≤ 2147483647)  : ∀ (n : Nat) (s : xS) (x1 : Int) (x2 : Int) (x3 : Int) (x4 : Int) (x5 : Int) (x1000 : Int) (x1001 : Int) (x1002 : Int) (x1003 : Int) (x1004 : Int) (hG : GI s) (f : FL [4150, 4151, 4152, 4153] s0 s) (b_x1 : 0 ≤ x1 ∧ x1 ≤ 39) (b_x2 : 0 ≤ x2 ∧ x2 ≤ 39) (b_x3 : (-2147483648) ≤ x3 ∧ x3 ≤ 2147483647) (b_x4 : (-2147483648) ≤ x4 ∧ x4 ≤ 2147483647) (b_x5 : 0 ≤ x5 ∧ x5 ≤ 40) (b_x1000 : 0 ≤ x1000 ∧ x1000 ≤ 60) (b_x1001 : 0 ≤ x1001 ∧ x1001 ≤ 60) (b_x1002 : 0 ≤ x1002 ∧ x1002 ≤ 60) (b_x1003 : 0 ≤ x1003 ∧ x1003 ≤ 60) (b_x1004 : 0 ≤ x1004 ∧ x1004 ≤ 40) (r_1000_5 : x1000 ≤ x5 + 0) (r_1000_1003 : x1000 ≤ x1003 + 0) (r_1001_5 : x1001 ≤ x5 + 0) (r_1001_1003 : x1001 ≤ x1003 + 0) (r_1002_5 : x1002 ≤ x5 + 0) (r_1002_1003 : x1002 ≤ x1003 + 0) (r_1003_5 : x1003 ≤ x5 + 0) (r_5_1004 : x5 ≤ x1004 + 0) (w_0 : x1 = a ∧ x2 = b ∧ x3 = d ∧ x4 = e ∧ x1004 = s0 256 6 ∧ x5 ≤ x1004) (w_1 : x1000 = ctp (fun p : Nat => yrR s0 d e p ∧ shR s0 (p : Int) a) x5.toNat) (w_2 : x1001 = ctp (fun p : Nat => yrR s0 d e p ∧ shR s0 (p : Int) b) x5.toNat) (w_3 : x1002 = ctp (fun p : Nat => yrR s0 d e p ∧ shR s0 (p : Int) a ∧ shR s0 (p : Int) b) x5.toNat) (w_4 : x1003 = ctp (fun p : Nat => yrR s0 d e p) x5.toNat) (e_x1000 : x1000 = s 256 53) (e_x1001 : x1001 = s 256 54) (e_x1002 : x1002 = s 256 55) (e_x1003 : x1003 = s 256 56) (e_x1004 : x1004 = s 256 6)  (hm : (40 - x5) < (n : Int)), xe none 207 23 [(0, .ref 256), (1, vi x1), (2, vi x2), (3, vi x3), (4, vi x4), (5, vi x5)] [] s 0 0 (fun s' v => GI s' ∧ FL [4150, 4151, 4152, 4153] s0 s' ∧ ∃ z, v = some (vi z) ∧ (0 ≤ z ∧ z ≤ 1) ∧ (s' 256 53 = rX s0 a d e ∧ s' 256 54 = rX s0 b d e ∧ s' 256 55 = rZ s0 a b d e ∧ s' 256 56 = rN s0 d e ∧ ((z = 1 ∧ jml (rX s0 a d e) (rX s0 b d e) < jml (rZ s0 a b d e) (rN s0 d e)) ∨ (z = 0 ∧ ¬ jml (rX s0 a d e) (rX s0 b d e) < jml (rZ s0 a b d e) (rN s0 d e))))) := by
  intro n
  induction n with
  | zero => intro s x1 x2 x3 x4 x5 x1000 x1001 x1002 x1003 x1004 hG f b_x1 b_x2 b_x3 b_x4 b_x5 b_x1000 b_x1001 b_x1002 b_x1003 b_x1004 r_1000_5 r_1000_1003 r_1001_5 r_1001_1003 r_1002_5 r_1002_1003 r_1003_5 r_5_1004 w_0 w_1 w_2 w_3 w_4 e_x1000 e_x1001 e_x1002 e_x1003 e_x1004  hm; exfalso; omega
  | succ n ih =>
    intro s x1 x2 x3 x4 x5 x1000 x1001 x1002 x1003 x1004 hG f b_x1 b_x2 b_x3 b_x4 b_x5 b_x1000 b_x1001 b_x1002 b_x1003 b_x1004 r_1000_5 r_1000_1003 r_1001_5 r_1001_1003 r_1002_5 r_1002_1003 r_1003_5 r_5_1004 w_0 w_1 w_2 w_3 w_4 e_x1000 e_x1001 e_x1002 e_x1003 e_x1004  hm
    refine x_A k207_23 (fun _ => rfl) ?_
    refine x_A k207_25 (fun _ => rfl) ?_
    refine x_getI k207_26 (f := 6) rfl (q := 256) (n := 62) (kd := 15) ⟨by decide, rfl⟩ (by decide) rfl ?_
    refine x_rw (e_x1004.symm) ?_
    refine x_ic_ge k207_29 (t := 149) rfl ⟨by omega, by omega⟩ ⟨by omega, by omega⟩ (fun c3121 => ?_) (fun c3121 => ?_)
    · skip
      refine x_A k207_149 (fun _ => rfl) ?_
      refine x_getI k207_150 (f := 55) rfl (q := 256) (n := 62) (kd := 15) ⟨by decide, rfl⟩ (by decide) rfl ?_
      refine x_rw (e_x1002.symm) ?_
      refine x_A k207_153 (fun _ => rfl) ?_
      refine x_getI k207_154 (f := 56) rfl (q := 256) (n := 62) (kd := 15) ⟨by decide, rfl⟩ (by decide) rfl ?_
      refine x_rw (e_x1003.symm) ?_
      refine x_imul_f k207_157 (fun z3122 g_z3122 e_z3122 => ?_)
      unfold in32 at g_z3122
      refine x_A k207_158 (fun _ => rfl) ?_
      refine x_getI k207_159 (f := 53) rfl (q := 256) (n := 62) (kd := 15) ⟨by decide, rfl⟩ (by decide) rfl ?_
      refine x_rw (e_x1000.symm) ?_
      refine x_A k207_162 (fun _ => rfl) ?_
      refine x_getI k207_163 (f := 54) rfl (q := 256) (n := 62) (kd := 15) ⟨by decide, rfl⟩ (by decide) rfl ?_
      refine x_rw (e_x1001.symm) ?_
      refine x_imul_f k207_166 (fun z3123 g_z3123 e_z3123 => ?_)
      unfold in32 at g_z3123
      refine x_ic_le k207_167 (t := 174) rfl ⟨by omega, by omega⟩ ⟨by omega, by omega⟩ (fun c3124 => ?_) (fun c3124 => ?_)
      · skip
        refine x_A k207_174 (fun _ => rfl) ?_
        exact x_zret k207_175 rfl ⟨by omega, by omega⟩ ⟨hG, f, 0, rfl, ⟨by omega, by omega⟩, (by have rx : rX s0 a d e = x1000 := (by unfold rX; rw [show (s0 256 6).toNat = x5.toNat by omega]; exact w_1.symm); have ry : rX s0 b d e = x1001 := (by unfold rX; rw [show (s0 256 6).toNat = x5.toNat by omega]; exact w_2.symm); have rz : rZ s0 a b d e = x1002 := (by unfold rZ; rw [show (s0 256 6).toNat = x5.toNat by omega]; exact w_3.symm); have rn : rN s0 d e = x1003 := (by unfold rN; rw [show (s0 256 6).toNat = x5.toNat by omega]; exact w_4.symm); rw [rx, ry, rz, rn]; exact ⟨by omega, by omega, by omega, by omega, Or.inr ⟨rfl, by omega⟩⟩)⟩
      · skip
        refine x_A k207_170 (fun _ => rfl) ?_
        refine x_goto k207_171 (t := 175) rfl ?_
        exact x_zret k207_175 rfl ⟨by omega, by omega⟩ ⟨hG, f, 1, rfl, ⟨by omega, by omega⟩, (by have rx : rX s0 a d e = x1000 := (by unfold rX; rw [show (s0 256 6).toNat = x5.toNat by omega]; exact w_1.symm); have ry : rX s0 b d e = x1001 := (by unfold rX; rw [show (s0 256 6).toNat = x5.toNat by omega]; exact w_2.symm); have rz : rZ s0 a b d e = x1002 := (by unfold rZ; rw [show (s0 256 6).toNat = x5.toNat by omega]; exact w_3.symm); have rn : rN s0 d e = x1003 := (by unfold rN; rw [show (s0 256 6).toNat = x5.toNat by omega]; exact w_4.symm); rw [rx, ry, rz, rn]; exact ⟨by omega, by omega, by omega, by omega, Or.inl ⟨rfl, by omega⟩⟩)⟩
    · skip
      refine x_A k207_32 (fun _ => rfl) ?_
      refine x_getR k207_33 (f := 7) rfl (q := 256) (n := 62) (kd := 15) ⟨by decide, rfl⟩ (q2 := 261) (by decide) rfl ?_
      refine x_A k207_36 (fun _ => rfl) ?_
      refine x_iald k207_38 (q := 261) (n := 40) ⟨by decide, rfl⟩ (by decide) ⟨by omega, by omega⟩ ?_
      refine x_top (fun z3125 e_z3125 => ?_)
      have g_z3125 : (0 : Int) ≤ s 261 x5.toNat ∧ s 261 x5.toNat ≤ 999 := hG 261 x5.toNat
      refine x_i2l k207_39 ⟨by omega, by omega⟩ ?_
      refine x_A k207_40 (fun _ => rfl) ?_
      refine x_i2l k207_41 ⟨by omega, by omega⟩ ?_
      refine x_A k207_42 (fun _ => rfl) ?_
      refine x_i2l k207_44 ⟨by omega, by omega⟩ ?_
      refine x_callS k207_45 (y := 136) (n := 3) (w0 := 0) (w1 := 6) (as := [vj z3125, vj x3, vj x4]) (rest := []) (by decide +kernel) rfl rfl rfl rfl (xe_mono (C_X11_in s hG z3125 ⟨by omega, by omega⟩ x3 ⟨by omega, by omega⟩ x4 ⟨by omega, by omega⟩) ?_)
      rintro s3127 v ⟨h_s3127, z3126, rfl, hz_z3126⟩
      rw [h_s3127]
      rcases hz_z3126 with ⟨c_z3126, e_z3126⟩ | ⟨c_z3126, e_z3126⟩
      · rw [e_z3126]
        show xe none 207 48 [(0, .ref 256), (1, vi x1), (2, vi x2), (3, vi x3), (4, vi x4), (5, vi x5)] [vi 1] s 0 0 _
        refine x_if_eq k207_48 (t := 143) rfl ⟨by omega, by omega⟩ (fun c3128 => by exfalso; omega) (fun c3128 => ?_)
        have f261_ := f 261 x5.toNat (show 4416 ∉ [4150, 4151, 4152, 4153] from by decide)
        have yr : yrR s0 d e x5.toNat := ⟨by omega, by omega⟩
        refine x_A k207_51 (fun _ => rfl) ?_
        refine x_A k207_52 (fun _ => rfl) ?_
        refine x_getI k207_53 (f := 56) rfl (q := 256) (n := 62) (kd := 15) ⟨by decide, rfl⟩ (by decide) rfl ?_
        refine x_rw (e_x1003.symm) ?_
        refine x_A k207_56 (fun _ => rfl) ?_
        refine x_iadd k207_57 ?_
        refine x_top (fun z3129 e_z3129 => ?_)
        refine x_putI k207_58 (f := 56) rfl (q := 256) (n := 62) (kd := 15) ⟨by decide, rfl⟩ rfl rfl rfl ?_
        refine x_nh (fun s3130 e_s3130 => ?_)
        have hG_s3130 : GI s3130 := by rw [e_s3130]; exact hG.up (show 0 ≤ z3129 ∧ z3129 ≤ 40 from ⟨by omega, by omega⟩)
        have f_s3130 : FL [4150, 4151, 4152, 4153] s0 s3130 := by rw [e_s3130]; exact f.up (show 4153 ∈ [4150, 4151, 4152, 4153] from by decide)
        have q3131 : s3130 256 53 = x1000 := by rw [e_s3130, x_up_i (by decide)]; exact e_x1000.symm
        have q3132 : s3130 256 54 = x1001 := by rw [e_s3130, x_up_i (by decide)]; exact e_x1001.symm
        have q3133 : s3130 256 55 = x1002 := by rw [e_s3130, x_up_i (by decide)]; exact e_x1002.symm
        have q3134 : s3130 256 6 = x1004 := by rw [e_s3130, x_up_i (by decide)]; exact e_x1004.symm
        have q3135 : s3130 256 56 = z3129 := by rw [e_s3130]; exact x_up_same
        have q3136 : s3130 261 x5.toNat = z3125 := by rw [e_s3130, x_up_q (by omega)]; exact e_z3125.symm
        refine x_A k207_61 (fun _ => rfl) ?_
        refine x_A k207_62 (fun _ => rfl) ?_
        refine x_getI k207_63 (f := 53) rfl (q := 256) (n := 62) (kd := 15) ⟨by decide, rfl⟩ (by decide) rfl ?_
        refine x_rw (q3131) ?_
        refine x_A k207_66 (fun _ => rfl) ?_
        refine x_A k207_67 (fun _ => rfl) ?_
        refine x_A k207_69 (fun _ => rfl) ?_
        refine x_callV k207_70 (y := 169) (n := 2) (w0 := 2) (w1 := 2) (as := [vi x5, vi x1]) (rest := [vi x1000, .ref 256]) (by decide +kernel) (q := 256) (nq := 62) (kq := 15) ⟨by decide, rfl⟩ rfl rfl rfl rfl (xe_mono (E_X11_shows_256 s3130 hG_s3130 x5 ⟨by omega, by omega⟩ x1 ⟨by omega, by omega⟩) ?_)
        rintro s3138 v ⟨-, t_s3138, z3137, rfl, g_z3137, xp_z3137⟩
        rw [t_s3138.nil]
        try rw [t_s3138.nil] at xp_z3137
        show xe none 207 73 [(0, .ref 256), (1, vi x1), (2, vi x2), (3, vi x3), (4, vi x4), (5, vi x5)] [vi z3137, vi x1000, .ref 256] s3130 0 0 _
        have sh1 := xp_z3137
        rw [shR.eq (funext fun i => f_s3130 282 i (show 5760 ∉ [4150, 4151, 4152, 4153] from by decide)), show x1 = a by omega] at sh1
        refine x_if_eq k207_73 (t := 80) rfl ⟨by omega, by omega⟩ (fun c3139 => ?_) (fun c3139 => ?_)
        · skip
          refine x_A k207_80 (fun _ => rfl) ?_
          refine x_iadd k207_81 ?_
          refine x_top (fun z3140 e_z3140 => ?_)
          refine x_putI k207_82 (f := 53) rfl (q := 256) (n := 62) (kd := 15) ⟨by decide, rfl⟩ rfl rfl rfl ?_
          refine x_nh (fun s3141 e_s3141 => ?_)
          have hG_s3141 : GI s3141 := by rw [e_s3141]; exact hG_s3130.up (show 0 ≤ z3140 ∧ z3140 ≤ 40 from ⟨by omega, by omega⟩)
          have f_s3141 : FL [4150, 4151, 4152, 4153] s0 s3141 := by rw [e_s3141]; exact f_s3130.up (show 4150 ∈ [4150, 4151, 4152, 4153] from by decide)
          have q3142 : s3141 256 54 = x1001 := by rw [e_s3141, x_up_i (by decide)]; exact q3132
          have q3143 : s3141 256 55 = x1002 := by rw [e_s3141, x_up_i (by decide)]; exact q3133
          have q3144 : s3141 256 6 = x1004 := by rw [e_s3141, x_up_i (by decide)]; exact q3134
          have q3145 : s3141 256 56 = z3129 := by rw [e_s3141, x_up_i (by decide)]; exact q3135
          have q3146 : s3141 256 53 = z3140 := by rw [e_s3141]; exact x_up_same
          have q3147 : s3141 261 x5.toNat = z3125 := by rw [e_s3141, x_up_q (by omega)]; exact q3136
          refine x_A k207_85 (fun _ => rfl) ?_
          refine x_A k207_86 (fun _ => rfl) ?_
          refine x_getI k207_87 (f := 54) rfl (q := 256) (n := 62) (kd := 15) ⟨by decide, rfl⟩ (by decide) rfl ?_
          refine x_rw (q3142) ?_
          refine x_A k207_90 (fun _ => rfl) ?_
          refine x_A k207_91 (fun _ => rfl) ?_
          refine x_A k207_93 (fun _ => rfl) ?_
          refine x_callV k207_94 (y := 169) (n := 2) (w0 := 2) (w1 := 2) (as := [vi x5, vi x2]) (rest := [vi x1001, .ref 256]) (by decide +kernel) (q := 256) (nq := 62) (kq := 15) ⟨by decide, rfl⟩ rfl rfl rfl rfl (xe_mono (E_X11_shows_256 s3141 hG_s3141 x5 ⟨by omega, by omega⟩ x2 ⟨by omega, by omega⟩) ?_)
          rintro s3149 v ⟨-, t_s3149, z3148, rfl, g_z3148, xp_z3148⟩
          rw [t_s3149.nil]
          try rw [t_s3149.nil] at xp_z3148
          show xe none 207 97 [(0, .ref 256), (1, vi x1), (2, vi x2), (3, vi x3), (4, vi x4), (5, vi x5)] [vi z3148, vi x1001, .ref 256] s3141 0 0 _
          have sh2 := xp_z3148
          rw [shR.eq (funext fun i => f_s3141 282 i (show 5760 ∉ [4150, 4151, 4152, 4153] from by decide)), show x2 = b by omega] at sh2
          refine x_if_eq k207_97 (t := 104) rfl ⟨by omega, by omega⟩ (fun c3150 => ?_) (fun c3150 => ?_)
          · skip
            refine x_A k207_104 (fun _ => rfl) ?_
            refine x_iadd k207_105 ?_
            refine x_top (fun z3151 e_z3151 => ?_)
            refine x_putI k207_106 (f := 54) rfl (q := 256) (n := 62) (kd := 15) ⟨by decide, rfl⟩ rfl rfl rfl ?_
            refine x_nh (fun s3152 e_s3152 => ?_)
            have hG_s3152 : GI s3152 := by rw [e_s3152]; exact hG_s3141.up (show 0 ≤ z3151 ∧ z3151 ≤ 40 from ⟨by omega, by omega⟩)
            have f_s3152 : FL [4150, 4151, 4152, 4153] s0 s3152 := by rw [e_s3152]; exact f_s3141.up (show 4151 ∈ [4150, 4151, 4152, 4153] from by decide)
            have q3153 : s3152 256 55 = x1002 := by rw [e_s3152, x_up_i (by decide)]; exact q3143
            have q3154 : s3152 256 6 = x1004 := by rw [e_s3152, x_up_i (by decide)]; exact q3144
            have q3155 : s3152 256 56 = z3129 := by rw [e_s3152, x_up_i (by decide)]; exact q3145
            have q3156 : s3152 256 53 = z3140 := by rw [e_s3152, x_up_i (by decide)]; exact q3146
            have q3157 : s3152 256 54 = z3151 := by rw [e_s3152]; exact x_up_same
            have q3158 : s3152 261 x5.toNat = z3125 := by rw [e_s3152, x_up_q (by omega)]; exact q3147
            refine x_A k207_109 (fun _ => rfl) ?_
            refine x_A k207_110 (fun _ => rfl) ?_
            refine x_getI k207_111 (f := 55) rfl (q := 256) (n := 62) (kd := 15) ⟨by decide, rfl⟩ (by decide) rfl ?_
            refine x_rw (q3153) ?_
            refine x_A k207_114 (fun _ => rfl) ?_
            refine x_A k207_115 (fun _ => rfl) ?_
            refine x_A k207_117 (fun _ => rfl) ?_
            refine x_callV k207_118 (y := 169) (n := 2) (w0 := 2) (w1 := 2) (as := [vi x5, vi x1]) (rest := [vi x1002, .ref 256]) (by decide +kernel) (q := 256) (nq := 62) (kq := 15) ⟨by decide, rfl⟩ rfl rfl rfl rfl (xe_mono (E_X11_shows_256 s3152 hG_s3152 x5 ⟨by omega, by omega⟩ x1 ⟨by omega, by omega⟩) ?_)
            rintro s3160 v ⟨-, t_s3160, z3159, rfl, g_z3159, xp_z3159⟩
            rw [t_s3160.nil]
            try rw [t_s3160.nil] at xp_z3159
            show xe none 207 121 [(0, .ref 256), (1, vi x1), (2, vi x2), (3, vi x3), (4, vi x4), (5, vi x5)] [vi z3159, vi x1002, .ref 256] s3152 0 0 _
            have sh3 := xp_z3159
            rw [shR.eq (funext fun i => f_s3152 282 i (show 5760 ∉ [4150, 4151, 4152, 4153] from by decide)), show x1 = a by omega] at sh3
            refine x_if_eq k207_121 (t := 138) rfl ⟨by omega, by omega⟩ (fun c3161 => ?_) (fun c3161 => ?_)
            · skip
              refine x_A k207_138 (fun _ => rfl) ?_
              refine x_iadd k207_139 ?_
              refine x_top (fun z3162 e_z3162 => ?_)
              refine x_putI k207_140 (f := 55) rfl (q := 256) (n := 62) (kd := 15) ⟨by decide, rfl⟩ rfl rfl rfl ?_
              refine x_nh (fun s3163 e_s3163 => ?_)
              have hG_s3163 : GI s3163 := by rw [e_s3163]; exact hG_s3152.up (show 0 ≤ z3162 ∧ z3162 ≤ 40 from ⟨by omega, by omega⟩)
              have f_s3163 : FL [4150, 4151, 4152, 4153] s0 s3163 := by rw [e_s3163]; exact f_s3152.up (show 4152 ∈ [4150, 4151, 4152, 4153] from by decide)
              have q3164 : s3163 256 6 = x1004 := by rw [e_s3163, x_up_i (by decide)]; exact q3154
              have q3165 : s3163 256 56 = z3129 := by rw [e_s3163, x_up_i (by decide)]; exact q3155
              have q3166 : s3163 256 53 = z3140 := by rw [e_s3163, x_up_i (by decide)]; exact q3156
              have q3167 : s3163 256 54 = z3151 := by rw [e_s3163, x_up_i (by decide)]; exact q3157
              have q3168 : s3163 256 55 = z3162 := by rw [e_s3163]; exact x_up_same
              have q3169 : s3163 261 x5.toNat = z3125 := by rw [e_s3163, x_up_q (by omega)]; exact q3158
              refine x_iinc k207_143 (ls' := [(5, vi (x5 + 1)), (0, .ref 256), (1, vi x1), (2, vi x2), (3, vi x3), (4, vi x4)]) rfl (by decide) rfl ?_
              refine x_goto k207_146 (t := 23) rfl ?_
              refine x_ls (l := [(0, .ref 256), (1, vi x1), (2, vi x2), (3, vi x3), (4, vi x4), (5, vi (x5 + 1))]) (show ([0, 1, 2, 3, 4, 5] : List Nat).Nodup from by decide) ⟨rfl, rfl, rfl, rfl, rfl, rfl, trivial⟩ ?_
              exact ih s3163 x1 x2 x3 x4 (x5 + 1) z3140 z3151 z3162 z3129 x1004 hG_s3163 f_s3163 ⟨by omega, by omega⟩ ⟨by omega, by omega⟩ ⟨by omega, by omega⟩ ⟨by omega, by omega⟩ ⟨by omega, by omega⟩ ⟨by omega, by omega⟩ ⟨by omega, by omega⟩ ⟨by omega, by omega⟩ ⟨by omega, by omega⟩ ⟨by omega, by omega⟩ (by omega) (by omega) (by omega) (by omega) (by omega) (by omega) (by omega) (by omega) (by omega) (by have cs := ctp_s (fun p : Nat => yrR s0 d e p ∧ shR s0 (p : Int) a) (k := x5) (by omega); rw [show ((x5.toNat : Nat) : Int) = x5 by omega] at cs; have q := cs.2 (fun q => (sh1.resolve_left (fun q => by omega)).2 q.2); omega) (by have cs := ctp_s (fun p : Nat => yrR s0 d e p ∧ shR s0 (p : Int) b) (k := x5) (by omega); rw [show ((x5.toNat : Nat) : Int) = x5 by omega] at cs; have q := cs.2 (fun q => (sh2.resolve_left (fun q => by omega)).2 q.2); omega) (by have cs := ctp_s (fun p : Nat => yrR s0 d e p ∧ shR s0 (p : Int) a ∧ shR s0 (p : Int) b) (k := x5) (by omega); rw [show ((x5.toNat : Nat) : Int) = x5 by omega] at cs; have q := cs.2 (fun q => (sh3.resolve_left (fun q => by omega)).2 q.2.1); omega) (by have cs := ctp_s (fun p : Nat => yrR s0 d e p) (k := x5) (by omega); have q := cs.1 (yr); omega) (q3166).symm (q3167).symm (q3168).symm (q3165).symm (q3164).symm  (by omega)
            · skip
              refine x_A k207_124 (fun _ => rfl) ?_
              refine x_A k207_125 (fun _ => rfl) ?_
              refine x_A k207_127 (fun _ => rfl) ?_
              refine x_callV k207_128 (y := 169) (n := 2) (w0 := 2) (w1 := 2) (as := [vi x5, vi x2]) (rest := [vi x1002, .ref 256]) (by decide +kernel) (q := 256) (nq := 62) (kq := 15) ⟨by decide, rfl⟩ rfl rfl rfl rfl (xe_mono (E_X11_shows_256 s3152 hG_s3152 x5 ⟨by omega, by omega⟩ x2 ⟨by omega, by omega⟩) ?_)
              rintro s3171 v ⟨-, t_s3171, z3170, rfl, g_z3170, xp_z3170⟩
              rw [t_s3171.nil]
              try rw [t_s3171.nil] at xp_z3170
              show xe none 207 131 [(0, .ref 256), (1, vi x1), (2, vi x2), (3, vi x3), (4, vi x4), (5, vi x5)] [vi z3170, vi x1002, .ref 256] s3152 0 0 _
              have sh4 := xp_z3170
              rw [shR.eq (funext fun i => f_s3152 282 i (show 5760 ∉ [4150, 4151, 4152, 4153] from by decide)), show x2 = b by omega] at sh4
              refine x_if_eq k207_131 (t := 138) rfl ⟨by omega, by omega⟩ (fun c3172 => ?_) (fun c3172 => ?_)
              · skip
                refine x_A k207_138 (fun _ => rfl) ?_
                refine x_iadd k207_139 ?_
                refine x_top (fun z3173 e_z3173 => ?_)
                refine x_putI k207_140 (f := 55) rfl (q := 256) (n := 62) (kd := 15) ⟨by decide, rfl⟩ rfl rfl rfl ?_
                refine x_nh (fun s3174 e_s3174 => ?_)
                have hG_s3174 : GI s3174 := by rw [e_s3174]; exact hG_s3152.up (show 0 ≤ z3173 ∧ z3173 ≤ 40 from ⟨by omega, by omega⟩)
                have f_s3174 : FL [4150, 4151, 4152, 4153] s0 s3174 := by rw [e_s3174]; exact f_s3152.up (show 4152 ∈ [4150, 4151, 4152, 4153] from by decide)
                have q3175 : s3174 256 6 = x1004 := by rw [e_s3174, x_up_i (by decide)]; exact q3154
                have q3176 : s3174 256 56 = z3129 := by rw [e_s3174, x_up_i (by decide)]; exact q3155
                have q3177 : s3174 256 53 = z3140 := by rw [e_s3174, x_up_i (by decide)]; exact q3156
                have q3178 : s3174 256 54 = z3151 := by rw [e_s3174, x_up_i (by decide)]; exact q3157
                have q3179 : s3174 256 55 = z3173 := by rw [e_s3174]; exact x_up_same
                have q3180 : s3174 261 x5.toNat = z3125 := by rw [e_s3174, x_up_q (by omega)]; exact q3158
                refine x_iinc k207_143 (ls' := [(5, vi (x5 + 1)), (0, .ref 256), (1, vi x1), (2, vi x2), (3, vi x3), (4, vi x4)]) rfl (by decide) rfl ?_
                refine x_goto k207_146 (t := 23) rfl ?_
                refine x_ls (l := [(0, .ref 256), (1, vi x1), (2, vi x2), (3, vi x3), (4, vi x4), (5, vi (x5 + 1))]) (show ([0, 1, 2, 3, 4, 5] : List Nat).Nodup from by decide) ⟨rfl, rfl, rfl, rfl, rfl, rfl, trivial⟩ ?_
                exact ih s3174 x1 x2 x3 x4 (x5 + 1) z3140 z3151 z3173 z3129 x1004 hG_s3174 f_s3174 ⟨by omega, by omega⟩ ⟨by omega, by omega⟩ ⟨by omega, by omega⟩ ⟨by omega, by omega⟩ ⟨by omega, by omega⟩ ⟨by omega, by omega⟩ ⟨by omega, by omega⟩ ⟨by omega, by omega⟩ ⟨by omega, by omega⟩ ⟨by omega, by omega⟩ (by omega) (by omega) (by omega) (by omega) (by omega) (by omega) (by omega) (by omega) (by omega) (by have cs := ctp_s (fun p : Nat => yrR s0 d e p ∧ shR s0 (p : Int) a) (k := x5) (by omega); rw [show ((x5.toNat : Nat) : Int) = x5 by omega] at cs; have q := cs.2 (fun q => (sh1.resolve_left (fun q => by omega)).2 q.2); omega) (by have cs := ctp_s (fun p : Nat => yrR s0 d e p ∧ shR s0 (p : Int) b) (k := x5) (by omega); rw [show ((x5.toNat : Nat) : Int) = x5 by omega] at cs; have q := cs.2 (fun q => (sh2.resolve_left (fun q => by omega)).2 q.2); omega) (by have cs := ctp_s (fun p : Nat => yrR s0 d e p ∧ shR s0 (p : Int) a ∧ shR s0 (p : Int) b) (k := x5) (by omega); rw [show ((x5.toNat : Nat) : Int) = x5 by omega] at cs; have q := cs.2 (fun q => (sh4.resolve_left (fun q => by omega)).2 q.2.2); omega) (by have cs := ctp_s (fun p : Nat => yrR s0 d e p) (k := x5) (by omega); have q := cs.1 (yr); omega) (q3177).symm (q3178).symm (q3179).symm (q3176).symm (q3175).symm  (by omega)
              · skip
                refine x_A k207_134 (fun _ => rfl) ?_
                refine x_goto k207_135 (t := 139) rfl ?_
                refine x_iadd k207_139 ?_
                refine x_top (fun z3181 e_z3181 => ?_)
                refine x_putI k207_140 (f := 55) rfl (q := 256) (n := 62) (kd := 15) ⟨by decide, rfl⟩ rfl rfl rfl ?_
                refine x_nh (fun s3182 e_s3182 => ?_)
                have hG_s3182 : GI s3182 := by rw [e_s3182]; exact hG_s3152.up (show 0 ≤ z3181 ∧ z3181 ≤ 40 from ⟨by omega, by omega⟩)
                have f_s3182 : FL [4150, 4151, 4152, 4153] s0 s3182 := by rw [e_s3182]; exact f_s3152.up (show 4152 ∈ [4150, 4151, 4152, 4153] from by decide)
                have q3183 : s3182 256 6 = x1004 := by rw [e_s3182, x_up_i (by decide)]; exact q3154
                have q3184 : s3182 256 56 = z3129 := by rw [e_s3182, x_up_i (by decide)]; exact q3155
                have q3185 : s3182 256 53 = z3140 := by rw [e_s3182, x_up_i (by decide)]; exact q3156
                have q3186 : s3182 256 54 = z3151 := by rw [e_s3182, x_up_i (by decide)]; exact q3157
                have q3187 : s3182 256 55 = z3181 := by rw [e_s3182]; exact x_up_same
                have q3188 : s3182 261 x5.toNat = z3125 := by rw [e_s3182, x_up_q (by omega)]; exact q3158
                refine x_iinc k207_143 (ls' := [(5, vi (x5 + 1)), (0, .ref 256), (1, vi x1), (2, vi x2), (3, vi x3), (4, vi x4)]) rfl (by decide) rfl ?_
                refine x_goto k207_146 (t := 23) rfl ?_
                refine x_ls (l := [(0, .ref 256), (1, vi x1), (2, vi x2), (3, vi x3), (4, vi x4), (5, vi (x5 + 1))]) (show ([0, 1, 2, 3, 4, 5] : List Nat).Nodup from by decide) ⟨rfl, rfl, rfl, rfl, rfl, rfl, trivial⟩ ?_
                exact ih s3182 x1 x2 x3 x4 (x5 + 1) z3140 z3151 z3181 z3129 x1004 hG_s3182 f_s3182 ⟨by omega, by omega⟩ ⟨by omega, by omega⟩ ⟨by omega, by omega⟩ ⟨by omega, by omega⟩ ⟨by omega, by omega⟩ ⟨by omega, by omega⟩ ⟨by omega, by omega⟩ ⟨by omega, by omega⟩ ⟨by omega, by omega⟩ ⟨by omega, by omega⟩ (by omega) (by omega) (by omega) (by omega) (by omega) (by omega) (by omega) (by omega) (by omega) (by have cs := ctp_s (fun p : Nat => yrR s0 d e p ∧ shR s0 (p : Int) a) (k := x5) (by omega); rw [show ((x5.toNat : Nat) : Int) = x5 by omega] at cs; have q := cs.2 (fun q => (sh1.resolve_left (fun q => by omega)).2 q.2); omega) (by have cs := ctp_s (fun p : Nat => yrR s0 d e p ∧ shR s0 (p : Int) b) (k := x5) (by omega); rw [show ((x5.toNat : Nat) : Int) = x5 by omega] at cs; have q := cs.2 (fun q => (sh2.resolve_left (fun q => by omega)).2 q.2); omega) (by have cs := ctp_s (fun p : Nat => yrR s0 d e p ∧ shR s0 (p : Int) a ∧ shR s0 (p : Int) b) (k := x5) (by omega); rw [show ((x5.toNat : Nat) : Int) = x5 by omega] at cs; have q := cs.1 (⟨yr, (sh3.resolve_right (fun q => by omega)).2, (sh4.resolve_right (fun q => by omega)).2⟩); omega) (by have cs := ctp_s (fun p : Nat => yrR s0 d e p) (k := x5) (by omega); have q := cs.1 (yr); omega) (q3185).symm (q3186).symm (q3187).symm (q3184).symm (q3183).symm  (by omega)
          · skip
            refine x_A k207_100 (fun _ => rfl) ?_
            refine x_goto k207_101 (t := 105) rfl ?_
            refine x_iadd k207_105 ?_
            refine x_top (fun z3189 e_z3189 => ?_)
            refine x_putI k207_106 (f := 54) rfl (q := 256) (n := 62) (kd := 15) ⟨by decide, rfl⟩ rfl rfl rfl ?_
            refine x_nh (fun s3190 e_s3190 => ?_)
            have hG_s3190 : GI s3190 := by rw [e_s3190]; exact hG_s3141.up (show 0 ≤ z3189 ∧ z3189 ≤ 40 from ⟨by omega, by omega⟩)
            have f_s3190 : FL [4150, 4151, 4152, 4153] s0 s3190 := by rw [e_s3190]; exact f_s3141.up (show 4151 ∈ [4150, 4151, 4152, 4153] from by decide)
            have q3191 : s3190 256 55 = x1002 := by rw [e_s3190, x_up_i (by decide)]; exact q3143
            have q3192 : s3190 256 6 = x1004 := by rw [e_s3190, x_up_i (by decide)]; exact q3144
            have q3193 : s3190 256 56 = z3129 := by rw [e_s3190, x_up_i (by decide)]; exact q3145
            have q3194 : s3190 256 53 = z3140 := by rw [e_s3190, x_up_i (by decide)]; exact q3146
            have q3195 : s3190 256 54 = z3189 := by rw [e_s3190]; exact x_up_same
            have q3196 : s3190 261 x5.toNat = z3125 := by rw [e_s3190, x_up_q (by omega)]; exact q3147
            refine x_A k207_109 (fun _ => rfl) ?_
            refine x_A k207_110 (fun _ => rfl) ?_
            refine x_getI k207_111 (f := 55) rfl (q := 256) (n := 62) (kd := 15) ⟨by decide, rfl⟩ (by decide) rfl ?_
            refine x_rw (q3191) ?_
            refine x_A k207_114 (fun _ => rfl) ?_
            refine x_A k207_115 (fun _ => rfl) ?_
            refine x_A k207_117 (fun _ => rfl) ?_
            refine x_callV k207_118 (y := 169) (n := 2) (w0 := 2) (w1 := 2) (as := [vi x5, vi x1]) (rest := [vi x1002, .ref 256]) (by decide +kernel) (q := 256) (nq := 62) (kq := 15) ⟨by decide, rfl⟩ rfl rfl rfl rfl (xe_mono (E_X11_shows_256 s3190 hG_s3190 x5 ⟨by omega, by omega⟩ x1 ⟨by omega, by omega⟩) ?_)
            rintro s3198 v ⟨-, t_s3198, z3197, rfl, g_z3197, xp_z3197⟩
            rw [t_s3198.nil]
            try rw [t_s3198.nil] at xp_z3197
            show xe none 207 121 [(0, .ref 256), (1, vi x1), (2, vi x2), (3, vi x3), (4, vi x4), (5, vi x5)] [vi z3197, vi x1002, .ref 256] s3190 0 0 _
            have sh3 := xp_z3197
            rw [shR.eq (funext fun i => f_s3190 282 i (show 5760 ∉ [4150, 4151, 4152, 4153] from by decide)), show x1 = a by omega] at sh3
            refine x_if_eq k207_121 (t := 138) rfl ⟨by omega, by omega⟩ (fun c3199 => ?_) (fun c3199 => ?_)
            · skip
              refine x_A k207_138 (fun _ => rfl) ?_
              refine x_iadd k207_139 ?_
              refine x_top (fun z3200 e_z3200 => ?_)
              refine x_putI k207_140 (f := 55) rfl (q := 256) (n := 62) (kd := 15) ⟨by decide, rfl⟩ rfl rfl rfl ?_
              refine x_nh (fun s3201 e_s3201 => ?_)
              have hG_s3201 : GI s3201 := by rw [e_s3201]; exact hG_s3190.up (show 0 ≤ z3200 ∧ z3200 ≤ 40 from ⟨by omega, by omega⟩)
              have f_s3201 : FL [4150, 4151, 4152, 4153] s0 s3201 := by rw [e_s3201]; exact f_s3190.up (show 4152 ∈ [4150, 4151, 4152, 4153] from by decide)
              have q3202 : s3201 256 6 = x1004 := by rw [e_s3201, x_up_i (by decide)]; exact q3192
              have q3203 : s3201 256 56 = z3129 := by rw [e_s3201, x_up_i (by decide)]; exact q3193
              have q3204 : s3201 256 53 = z3140 := by rw [e_s3201, x_up_i (by decide)]; exact q3194
              have q3205 : s3201 256 54 = z3189 := by rw [e_s3201, x_up_i (by decide)]; exact q3195
              have q3206 : s3201 256 55 = z3200 := by rw [e_s3201]; exact x_up_same
              have q3207 : s3201 261 x5.toNat = z3125 := by rw [e_s3201, x_up_q (by omega)]; exact q3196
              refine x_iinc k207_143 (ls' := [(5, vi (x5 + 1)), (0, .ref 256), (1, vi x1), (2, vi x2), (3, vi x3), (4, vi x4)]) rfl (by decide) rfl ?_
              refine x_goto k207_146 (t := 23) rfl ?_
              refine x_ls (l := [(0, .ref 256), (1, vi x1), (2, vi x2), (3, vi x3), (4, vi x4), (5, vi (x5 + 1))]) (show ([0, 1, 2, 3, 4, 5] : List Nat).Nodup from by decide) ⟨rfl, rfl, rfl, rfl, rfl, rfl, trivial⟩ ?_
              exact ih s3201 x1 x2 x3 x4 (x5 + 1) z3140 z3189 z3200 z3129 x1004 hG_s3201 f_s3201 ⟨by omega, by omega⟩ ⟨by omega, by omega⟩ ⟨by omega, by omega⟩ ⟨by omega, by omega⟩ ⟨by omega, by omega⟩ ⟨by omega, by omega⟩ ⟨by omega, by omega⟩ ⟨by omega, by omega⟩ ⟨by omega, by omega⟩ ⟨by omega, by omega⟩ (by omega) (by omega) (by omega) (by omega) (by omega) (by omega) (by omega) (by omega) (by omega) (by have cs := ctp_s (fun p : Nat => yrR s0 d e p ∧ shR s0 (p : Int) a) (k := x5) (by omega); rw [show ((x5.toNat : Nat) : Int) = x5 by omega] at cs; have q := cs.2 (fun q => (sh1.resolve_left (fun q => by omega)).2 q.2); omega) (by have cs := ctp_s (fun p : Nat => yrR s0 d e p ∧ shR s0 (p : Int) b) (k := x5) (by omega); rw [show ((x5.toNat : Nat) : Int) = x5 by omega] at cs; have q := cs.1 (⟨yr, (sh2.resolve_right (fun q => by omega)).2⟩); omega) (by have cs := ctp_s (fun p : Nat => yrR s0 d e p ∧ shR s0 (p : Int) a ∧ shR s0 (p : Int) b) (k := x5) (by omega); rw [show ((x5.toNat : Nat) : Int) = x5 by omega] at cs; have q := cs.2 (fun q => (sh3.resolve_left (fun q => by omega)).2 q.2.1); omega) (by have cs := ctp_s (fun p : Nat => yrR s0 d e p) (k := x5) (by omega); have q := cs.1 (yr); omega) (q3204).symm (q3205).symm (q3206).symm (q3203).symm (q3202).symm  (by omega)
            · skip
              refine x_A k207_124 (fun _ => rfl) ?_
              refine x_A k207_125 (fun _ => rfl) ?_
              refine x_A k207_127 (fun _ => rfl) ?_
              refine x_callV k207_128 (y := 169) (n := 2) (w0 := 2) (w1 := 2) (as := [vi x5, vi x2]) (rest := [vi x1002, .ref 256]) (by decide +kernel) (q := 256) (nq := 62) (kq := 15) ⟨by decide, rfl⟩ rfl rfl rfl rfl (xe_mono (E_X11_shows_256 s3190 hG_s3190 x5 ⟨by omega, by omega⟩ x2 ⟨by omega, by omega⟩) ?_)
              rintro s3209 v ⟨-, t_s3209, z3208, rfl, g_z3208, xp_z3208⟩
              rw [t_s3209.nil]
              try rw [t_s3209.nil] at xp_z3208
              show xe none 207 131 [(0, .ref 256), (1, vi x1), (2, vi x2), (3, vi x3), (4, vi x4), (5, vi x5)] [vi z3208, vi x1002, .ref 256] s3190 0 0 _
              have sh4 := xp_z3208
              rw [shR.eq (funext fun i => f_s3190 282 i (show 5760 ∉ [4150, 4151, 4152, 4153] from by decide)), show x2 = b by omega] at sh4
              refine x_if_eq k207_131 (t := 138) rfl ⟨by omega, by omega⟩ (fun c3210 => ?_) (fun c3210 => ?_)
              · skip
                refine x_A k207_138 (fun _ => rfl) ?_
                refine x_iadd k207_139 ?_
                refine x_top (fun z3211 e_z3211 => ?_)
                refine x_putI k207_140 (f := 55) rfl (q := 256) (n := 62) (kd := 15) ⟨by decide, rfl⟩ rfl rfl rfl ?_
                refine x_nh (fun s3212 e_s3212 => ?_)
                have hG_s3212 : GI s3212 := by rw [e_s3212]; exact hG_s3190.up (show 0 ≤ z3211 ∧ z3211 ≤ 40 from ⟨by omega, by omega⟩)
                have f_s3212 : FL [4150, 4151, 4152, 4153] s0 s3212 := by rw [e_s3212]; exact f_s3190.up (show 4152 ∈ [4150, 4151, 4152, 4153] from by decide)
                have q3213 : s3212 256 6 = x1004 := by rw [e_s3212, x_up_i (by decide)]; exact q3192
                have q3214 : s3212 256 56 = z3129 := by rw [e_s3212, x_up_i (by decide)]; exact q3193
                have q3215 : s3212 256 53 = z3140 := by rw [e_s3212, x_up_i (by decide)]; exact q3194
                have q3216 : s3212 256 54 = z3189 := by rw [e_s3212, x_up_i (by decide)]; exact q3195
                have q3217 : s3212 256 55 = z3211 := by rw [e_s3212]; exact x_up_same
                have q3218 : s3212 261 x5.toNat = z3125 := by rw [e_s3212, x_up_q (by omega)]; exact q3196
                refine x_iinc k207_143 (ls' := [(5, vi (x5 + 1)), (0, .ref 256), (1, vi x1), (2, vi x2), (3, vi x3), (4, vi x4)]) rfl (by decide) rfl ?_
                refine x_goto k207_146 (t := 23) rfl ?_
                refine x_ls (l := [(0, .ref 256), (1, vi x1), (2, vi x2), (3, vi x3), (4, vi x4), (5, vi (x5 + 1))]) (show ([0, 1, 2, 3, 4, 5] : List Nat).Nodup from by decide) ⟨rfl, rfl, rfl, rfl, rfl, rfl, trivial⟩ ?_
                exact ih s3212 x1 x2 x3 x4 (x5 + 1) z3140 z3189 z3211 z3129 x1004 hG_s3212 f_s3212 ⟨by omega, by omega⟩ ⟨by omega, by omega⟩ ⟨by omega, by omega⟩ ⟨by omega, by omega⟩ ⟨by omega, by omega⟩ ⟨by omega, by omega⟩ ⟨by omega, by omega⟩ ⟨by omega, by omega⟩ ⟨by omega, by omega⟩ ⟨by omega, by omega⟩ (by omega) (by omega) (by omega) (by omega) (by omega) (by omega) (by omega) (by omega) (by omega) (by have cs := ctp_s (fun p : Nat => yrR s0 d e p ∧ shR s0 (p : Int) a) (k := x5) (by omega); rw [show ((x5.toNat : Nat) : Int) = x5 by omega] at cs; have q := cs.2 (fun q => (sh1.resolve_left (fun q => by omega)).2 q.2); omega) (by have cs := ctp_s (fun p : Nat => yrR s0 d e p ∧ shR s0 (p : Int) b) (k := x5) (by omega); rw [show ((x5.toNat : Nat) : Int) = x5 by omega] at cs; have q := cs.1 (⟨yr, (sh2.resolve_right (fun q => by omega)).2⟩); omega) (by have cs := ctp_s (fun p : Nat => yrR s0 d e p ∧ shR s0 (p : Int) a ∧ shR s0 (p : Int) b) (k := x5) (by omega); rw [show ((x5.toNat : Nat) : Int) = x5 by omega] at cs; have q := cs.2 (fun q => (sh4.resolve_left (fun q => by omega)).2 q.2.2); omega) (by have cs := ctp_s (fun p : Nat => yrR s0 d e p) (k := x5) (by omega); have q := cs.1 (yr); omega) (q3215).symm (q3216).symm (q3217).symm (q3214).symm (q3213).symm  (by omega)
              · skip
                refine x_A k207_134 (fun _ => rfl) ?_
                refine x_goto k207_135 (t := 139) rfl ?_
                refine x_iadd k207_139 ?_
                refine x_top (fun z3219 e_z3219 => ?_)
                refine x_putI k207_140 (f := 55) rfl (q := 256) (n := 62) (kd := 15) ⟨by decide, rfl⟩ rfl rfl rfl ?_
                refine x_nh (fun s3220 e_s3220 => ?_)
                have hG_s3220 : GI s3220 := by rw [e_s3220]; exact hG_s3190.up (show 0 ≤ z3219 ∧ z3219 ≤ 40 from ⟨by omega, by omega⟩)
                have f_s3220 : FL [4150, 4151, 4152, 4153] s0 s3220 := by rw [e_s3220]; exact f_s3190.up (show 4152 ∈ [4150, 4151, 4152, 4153] from by decide)
                have q3221 : s3220 256 6 = x1004 := by rw [e_s3220, x_up_i (by decide)]; exact q3192
                have q3222 : s3220 256 56 = z3129 := by rw [e_s3220, x_up_i (by decide)]; exact q3193
                have q3223 : s3220 256 53 = z3140 := by rw [e_s3220, x_up_i (by decide)]; exact q3194
                have q3224 : s3220 256 54 = z3189 := by rw [e_s3220, x_up_i (by decide)]; exact q3195
                have q3225 : s3220 256 55 = z3219 := by rw [e_s3220]; exact x_up_same
                have q3226 : s3220 261 x5.toNat = z3125 := by rw [e_s3220, x_up_q (by omega)]; exact q3196
                refine x_iinc k207_143 (ls' := [(5, vi (x5 + 1)), (0, .ref 256), (1, vi x1), (2, vi x2), (3, vi x3), (4, vi x4)]) rfl (by decide) rfl ?_
                refine x_goto k207_146 (t := 23) rfl ?_
                refine x_ls (l := [(0, .ref 256), (1, vi x1), (2, vi x2), (3, vi x3), (4, vi x4), (5, vi (x5 + 1))]) (show ([0, 1, 2, 3, 4, 5] : List Nat).Nodup from by decide) ⟨rfl, rfl, rfl, rfl, rfl, rfl, trivial⟩ ?_
                exact ih s3220 x1 x2 x3 x4 (x5 + 1) z3140 z3189 z3219 z3129 x1004 hG_s3220 f_s3220 ⟨by omega, by omega⟩ ⟨by omega, by omega⟩ ⟨by omega, by omega⟩ ⟨by omega, by omega⟩ ⟨by omega, by omega⟩ ⟨by omega, by omega⟩ ⟨by omega, by omega⟩ ⟨by omega, by omega⟩ ⟨by omega, by omega⟩ ⟨by omega, by omega⟩ (by omega) (by omega) (by omega) (by omega) (by omega) (by omega) (by omega) (by omega) (by omega) (by have cs := ctp_s (fun p : Nat => yrR s0 d e p ∧ shR s0 (p : Int) a) (k := x5) (by omega); rw [show ((x5.toNat : Nat) : Int) = x5 by omega] at cs; have q := cs.2 (fun q => (sh1.resolve_left (fun q => by omega)).2 q.2); omega) (by have cs := ctp_s (fun p : Nat => yrR s0 d e p ∧ shR s0 (p : Int) b) (k := x5) (by omega); rw [show ((x5.toNat : Nat) : Int) = x5 by omega] at cs; have q := cs.1 (⟨yr, (sh2.resolve_right (fun q => by omega)).2⟩); omega) (by have cs := ctp_s (fun p : Nat => yrR s0 d e p ∧ shR s0 (p : Int) a ∧ shR s0 (p : Int) b) (k := x5) (by omega); rw [show ((x5.toNat : Nat) : Int) = x5 by omega] at cs; have q := cs.1 (⟨yr, (sh3.resolve_right (fun q => by omega)).2, (sh4.resolve_right (fun q => by omega)).2⟩); omega) (by have cs := ctp_s (fun p : Nat => yrR s0 d e p) (k := x5) (by omega); have q := cs.1 (yr); omega) (q3223).symm (q3224).symm (q3225).symm (q3222).symm (q3221).symm  (by omega)
        · skip
          refine x_A k207_76 (fun _ => rfl) ?_
          refine x_goto k207_77 (t := 81) rfl ?_
          refine x_iadd k207_81 ?_
          refine x_top (fun z3227 e_z3227 => ?_)
          refine x_putI k207_82 (f := 53) rfl (q := 256) (n := 62) (kd := 15) ⟨by decide, rfl⟩ rfl rfl rfl ?_
          refine x_nh (fun s3228 e_s3228 => ?_)
          have hG_s3228 : GI s3228 := by rw [e_s3228]; exact hG_s3130.up (show 0 ≤ z3227 ∧ z3227 ≤ 40 from ⟨by omega, by omega⟩)
          have f_s3228 : FL [4150, 4151, 4152, 4153] s0 s3228 := by rw [e_s3228]; exact f_s3130.up (show 4150 ∈ [4150, 4151, 4152, 4153] from by decide)
          have q3229 : s3228 256 54 = x1001 := by rw [e_s3228, x_up_i (by decide)]; exact q3132
          have q3230 : s3228 256 55 = x1002 := by rw [e_s3228, x_up_i (by decide)]; exact q3133
          have q3231 : s3228 256 6 = x1004 := by rw [e_s3228, x_up_i (by decide)]; exact q3134
          have q3232 : s3228 256 56 = z3129 := by rw [e_s3228, x_up_i (by decide)]; exact q3135
          have q3233 : s3228 256 53 = z3227 := by rw [e_s3228]; exact x_up_same
          have q3234 : s3228 261 x5.toNat = z3125 := by rw [e_s3228, x_up_q (by omega)]; exact q3136
          refine x_A k207_85 (fun _ => rfl) ?_
          refine x_A k207_86 (fun _ => rfl) ?_
          refine x_getI k207_87 (f := 54) rfl (q := 256) (n := 62) (kd := 15) ⟨by decide, rfl⟩ (by decide) rfl ?_
          refine x_rw (q3229) ?_
          refine x_A k207_90 (fun _ => rfl) ?_
          refine x_A k207_91 (fun _ => rfl) ?_
          refine x_A k207_93 (fun _ => rfl) ?_
          refine x_callV k207_94 (y := 169) (n := 2) (w0 := 2) (w1 := 2) (as := [vi x5, vi x2]) (rest := [vi x1001, .ref 256]) (by decide +kernel) (q := 256) (nq := 62) (kq := 15) ⟨by decide, rfl⟩ rfl rfl rfl rfl (xe_mono (E_X11_shows_256 s3228 hG_s3228 x5 ⟨by omega, by omega⟩ x2 ⟨by omega, by omega⟩) ?_)
          rintro s3236 v ⟨-, t_s3236, z3235, rfl, g_z3235, xp_z3235⟩
          rw [t_s3236.nil]
          try rw [t_s3236.nil] at xp_z3235
          show xe none 207 97 [(0, .ref 256), (1, vi x1), (2, vi x2), (3, vi x3), (4, vi x4), (5, vi x5)] [vi z3235, vi x1001, .ref 256] s3228 0 0 _
          have sh2 := xp_z3235
          rw [shR.eq (funext fun i => f_s3228 282 i (show 5760 ∉ [4150, 4151, 4152, 4153] from by decide)), show x2 = b by omega] at sh2
          refine x_if_eq k207_97 (t := 104) rfl ⟨by omega, by omega⟩ (fun c3237 => ?_) (fun c3237 => ?_)
          · skip
            refine x_A k207_104 (fun _ => rfl) ?_
            refine x_iadd k207_105 ?_
            refine x_top (fun z3238 e_z3238 => ?_)
            refine x_putI k207_106 (f := 54) rfl (q := 256) (n := 62) (kd := 15) ⟨by decide, rfl⟩ rfl rfl rfl ?_
            refine x_nh (fun s3239 e_s3239 => ?_)
            have hG_s3239 : GI s3239 := by rw [e_s3239]; exact hG_s3228.up (show 0 ≤ z3238 ∧ z3238 ≤ 40 from ⟨by omega, by omega⟩)
            have f_s3239 : FL [4150, 4151, 4152, 4153] s0 s3239 := by rw [e_s3239]; exact f_s3228.up (show 4151 ∈ [4150, 4151, 4152, 4153] from by decide)
            have q3240 : s3239 256 55 = x1002 := by rw [e_s3239, x_up_i (by decide)]; exact q3230
            have q3241 : s3239 256 6 = x1004 := by rw [e_s3239, x_up_i (by decide)]; exact q3231
            have q3242 : s3239 256 56 = z3129 := by rw [e_s3239, x_up_i (by decide)]; exact q3232
            have q3243 : s3239 256 53 = z3227 := by rw [e_s3239, x_up_i (by decide)]; exact q3233
            have q3244 : s3239 256 54 = z3238 := by rw [e_s3239]; exact x_up_same
            have q3245 : s3239 261 x5.toNat = z3125 := by rw [e_s3239, x_up_q (by omega)]; exact q3234
            refine x_A k207_109 (fun _ => rfl) ?_
            refine x_A k207_110 (fun _ => rfl) ?_
            refine x_getI k207_111 (f := 55) rfl (q := 256) (n := 62) (kd := 15) ⟨by decide, rfl⟩ (by decide) rfl ?_
            refine x_rw (q3240) ?_
            refine x_A k207_114 (fun _ => rfl) ?_
            refine x_A k207_115 (fun _ => rfl) ?_
            refine x_A k207_117 (fun _ => rfl) ?_
            refine x_callV k207_118 (y := 169) (n := 2) (w0 := 2) (w1 := 2) (as := [vi x5, vi x1]) (rest := [vi x1002, .ref 256]) (by decide +kernel) (q := 256) (nq := 62) (kq := 15) ⟨by decide, rfl⟩ rfl rfl rfl rfl (xe_mono (E_X11_shows_256 s3239 hG_s3239 x5 ⟨by omega, by omega⟩ x1 ⟨by omega, by omega⟩) ?_)
            rintro s3247 v ⟨-, t_s3247, z3246, rfl, g_z3246, xp_z3246⟩
            rw [t_s3247.nil]
            try rw [t_s3247.nil] at xp_z3246
            show xe none 207 121 [(0, .ref 256), (1, vi x1), (2, vi x2), (3, vi x3), (4, vi x4), (5, vi x5)] [vi z3246, vi x1002, .ref 256] s3239 0 0 _
            have sh3 := xp_z3246
            rw [shR.eq (funext fun i => f_s3239 282 i (show 5760 ∉ [4150, 4151, 4152, 4153] from by decide)), show x1 = a by omega] at sh3
            refine x_if_eq k207_121 (t := 138) rfl ⟨by omega, by omega⟩ (fun c3248 => ?_) (fun c3248 => ?_)
            · skip
              refine x_A k207_138 (fun _ => rfl) ?_
              refine x_iadd k207_139 ?_
              refine x_top (fun z3249 e_z3249 => ?_)
              refine x_putI k207_140 (f := 55) rfl (q := 256) (n := 62) (kd := 15) ⟨by decide, rfl⟩ rfl rfl rfl ?_
              refine x_nh (fun s3250 e_s3250 => ?_)
              have hG_s3250 : GI s3250 := by rw [e_s3250]; exact hG_s3239.up (show 0 ≤ z3249 ∧ z3249 ≤ 40 from ⟨by omega, by omega⟩)
              have f_s3250 : FL [4150, 4151, 4152, 4153] s0 s3250 := by rw [e_s3250]; exact f_s3239.up (show 4152 ∈ [4150, 4151, 4152, 4153] from by decide)
              have q3251 : s3250 256 6 = x1004 := by rw [e_s3250, x_up_i (by decide)]; exact q3241
              have q3252 : s3250 256 56 = z3129 := by rw [e_s3250, x_up_i (by decide)]; exact q3242
              have q3253 : s3250 256 53 = z3227 := by rw [e_s3250, x_up_i (by decide)]; exact q3243
              have q3254 : s3250 256 54 = z3238 := by rw [e_s3250, x_up_i (by decide)]; exact q3244
              have q3255 : s3250 256 55 = z3249 := by rw [e_s3250]; exact x_up_same
              have q3256 : s3250 261 x5.toNat = z3125 := by rw [e_s3250, x_up_q (by omega)]; exact q3245
              refine x_iinc k207_143 (ls' := [(5, vi (x5 + 1)), (0, .ref 256), (1, vi x1), (2, vi x2), (3, vi x3), (4, vi x4)]) rfl (by decide) rfl ?_
              refine x_goto k207_146 (t := 23) rfl ?_
              refine x_ls (l := [(0, .ref 256), (1, vi x1), (2, vi x2), (3, vi x3), (4, vi x4), (5, vi (x5 + 1))]) (show ([0, 1, 2, 3, 4, 5] : List Nat).Nodup from by decide) ⟨rfl, rfl, rfl, rfl, rfl, rfl, trivial⟩ ?_
              exact ih s3250 x1 x2 x3 x4 (x5 + 1) z3227 z3238 z3249 z3129 x1004 hG_s3250 f_s3250 ⟨by omega, by omega⟩ ⟨by omega, by omega⟩ ⟨by omega, by omega⟩ ⟨by omega, by omega⟩ ⟨by omega, by omega⟩ ⟨by omega, by omega⟩ ⟨by omega, by omega⟩ ⟨by omega, by omega⟩ ⟨by omega, by omega⟩ ⟨by omega, by omega⟩ (by omega) (by omega) (by omega) (by omega) (by omega) (by omega) (by omega) (by omega) (by omega) (by have cs := ctp_s (fun p : Nat => yrR s0 d e p ∧ shR s0 (p : Int) a) (k := x5) (by omega); rw [show ((x5.toNat : Nat) : Int) = x5 by omega] at cs; have q := cs.1 (⟨yr, (sh1.resolve_right (fun q => by omega)).2⟩); omega) (by have cs := ctp_s (fun p : Nat => yrR s0 d e p ∧ shR s0 (p : Int) b) (k := x5) (by omega); rw [show ((x5.toNat : Nat) : Int) = x5 by omega] at cs; have q := cs.2 (fun q => (sh2.resolve_left (fun q => by omega)).2 q.2); omega) (by have cs := ctp_s (fun p : Nat => yrR s0 d e p ∧ shR s0 (p : Int) a ∧ shR s0 (p : Int) b) (k := x5) (by omega); rw [show ((x5.toNat : Nat) : Int) = x5 by omega] at cs; have q := cs.2 (fun q => (sh3.resolve_left (fun q => by omega)).2 q.2.1); omega) (by have cs := ctp_s (fun p : Nat => yrR s0 d e p) (k := x5) (by omega); have q := cs.1 (yr); omega) (q3253).symm (q3254).symm (q3255).symm (q3252).symm (q3251).symm  (by omega)
            · skip
              refine x_A k207_124 (fun _ => rfl) ?_
              refine x_A k207_125 (fun _ => rfl) ?_
              refine x_A k207_127 (fun _ => rfl) ?_
              refine x_callV k207_128 (y := 169) (n := 2) (w0 := 2) (w1 := 2) (as := [vi x5, vi x2]) (rest := [vi x1002, .ref 256]) (by decide +kernel) (q := 256) (nq := 62) (kq := 15) ⟨by decide, rfl⟩ rfl rfl rfl rfl (xe_mono (E_X11_shows_256 s3239 hG_s3239 x5 ⟨by omega, by omega⟩ x2 ⟨by omega, by omega⟩) ?_)
              rintro s3258 v ⟨-, t_s3258, z3257, rfl, g_z3257, xp_z3257⟩
              rw [t_s3258.nil]
              try rw [t_s3258.nil] at xp_z3257
              show xe none 207 131 [(0, .ref 256), (1, vi x1), (2, vi x2), (3, vi x3), (4, vi x4), (5, vi x5)] [vi z3257, vi x1002, .ref 256] s3239 0 0 _
              have sh4 := xp_z3257
              rw [shR.eq (funext fun i => f_s3239 282 i (show 5760 ∉ [4150, 4151, 4152, 4153] from by decide)), show x2 = b by omega] at sh4
              refine x_if_eq k207_131 (t := 138) rfl ⟨by omega, by omega⟩ (fun c3259 => ?_) (fun c3259 => ?_)
              · skip
                refine x_A k207_138 (fun _ => rfl) ?_
                refine x_iadd k207_139 ?_
                refine x_top (fun z3260 e_z3260 => ?_)
                refine x_putI k207_140 (f := 55) rfl (q := 256) (n := 62) (kd := 15) ⟨by decide, rfl⟩ rfl rfl rfl ?_
                refine x_nh (fun s3261 e_s3261 => ?_)
                have hG_s3261 : GI s3261 := by rw [e_s3261]; exact hG_s3239.up (show 0 ≤ z3260 ∧ z3260 ≤ 40 from ⟨by omega, by omega⟩)
                have f_s3261 : FL [4150, 4151, 4152, 4153] s0 s3261 := by rw [e_s3261]; exact f_s3239.up (show 4152 ∈ [4150, 4151, 4152, 4153] from by decide)
                have q3262 : s3261 256 6 = x1004 := by rw [e_s3261, x_up_i (by decide)]; exact q3241
                have q3263 : s3261 256 56 = z3129 := by rw [e_s3261, x_up_i (by decide)]; exact q3242
                have q3264 : s3261 256 53 = z3227 := by rw [e_s3261, x_up_i (by decide)]; exact q3243
                have q3265 : s3261 256 54 = z3238 := by rw [e_s3261, x_up_i (by decide)]; exact q3244
                have q3266 : s3261 256 55 = z3260 := by rw [e_s3261]; exact x_up_same
                have q3267 : s3261 261 x5.toNat = z3125 := by rw [e_s3261, x_up_q (by omega)]; exact q3245
                refine x_iinc k207_143 (ls' := [(5, vi (x5 + 1)), (0, .ref 256), (1, vi x1), (2, vi x2), (3, vi x3), (4, vi x4)]) rfl (by decide) rfl ?_
                refine x_goto k207_146 (t := 23) rfl ?_
                refine x_ls (l := [(0, .ref 256), (1, vi x1), (2, vi x2), (3, vi x3), (4, vi x4), (5, vi (x5 + 1))]) (show ([0, 1, 2, 3, 4, 5] : List Nat).Nodup from by decide) ⟨rfl, rfl, rfl, rfl, rfl, rfl, trivial⟩ ?_
                exact ih s3261 x1 x2 x3 x4 (x5 + 1) z3227 z3238 z3260 z3129 x1004 hG_s3261 f_s3261 ⟨by omega, by omega⟩ ⟨by omega, by omega⟩ ⟨by omega, by omega⟩ ⟨by omega, by omega⟩ ⟨by omega, by omega⟩ ⟨by omega, by omega⟩ ⟨by omega, by omega⟩ ⟨by omega, by omega⟩ ⟨by omega, by omega⟩ ⟨by omega, by omega⟩ (by omega) (by omega) (by omega) (by omega) (by omega) (by omega) (by omega) (by omega) (by omega) (by have cs := ctp_s (fun p : Nat => yrR s0 d e p ∧ shR s0 (p : Int) a) (k := x5) (by omega); rw [show ((x5.toNat : Nat) : Int) = x5 by omega] at cs; have q := cs.1 (⟨yr, (sh1.resolve_right (fun q => by omega)).2⟩); omega) (by have cs := ctp_s (fun p : Nat => yrR s0 d e p ∧ shR s0 (p : Int) b) (k := x5) (by omega); rw [show ((x5.toNat : Nat) : Int) = x5 by omega] at cs; have q := cs.2 (fun q => (sh2.resolve_left (fun q => by omega)).2 q.2); omega) (by have cs := ctp_s (fun p : Nat => yrR s0 d e p ∧ shR s0 (p : Int) a ∧ shR s0 (p : Int) b) (k := x5) (by omega); rw [show ((x5.toNat : Nat) : Int) = x5 by omega] at cs; have q := cs.2 (fun q => (sh4.resolve_left (fun q => by omega)).2 q.2.2); omega) (by have cs := ctp_s (fun p : Nat => yrR s0 d e p) (k := x5) (by omega); have q := cs.1 (yr); omega) (q3264).symm (q3265).symm (q3266).symm (q3263).symm (q3262).symm  (by omega)
              · skip
                refine x_A k207_134 (fun _ => rfl) ?_
                refine x_goto k207_135 (t := 139) rfl ?_
                refine x_iadd k207_139 ?_
                refine x_top (fun z3268 e_z3268 => ?_)
                refine x_putI k207_140 (f := 55) rfl (q := 256) (n := 62) (kd := 15) ⟨by decide, rfl⟩ rfl rfl rfl ?_
                refine x_nh (fun s3269 e_s3269 => ?_)
                have hG_s3269 : GI s3269 := by rw [e_s3269]; exact hG_s3239.up (show 0 ≤ z3268 ∧ z3268 ≤ 40 from ⟨by omega, by omega⟩)
                have f_s3269 : FL [4150, 4151, 4152, 4153] s0 s3269 := by rw [e_s3269]; exact f_s3239.up (show 4152 ∈ [4150, 4151, 4152, 4153] from by decide)
                have q3270 : s3269 256 6 = x1004 := by rw [e_s3269, x_up_i (by decide)]; exact q3241
                have q3271 : s3269 256 56 = z3129 := by rw [e_s3269, x_up_i (by decide)]; exact q3242
                have q3272 : s3269 256 53 = z3227 := by rw [e_s3269, x_up_i (by decide)]; exact q3243
                have q3273 : s3269 256 54 = z3238 := by rw [e_s3269, x_up_i (by decide)]; exact q3244
                have q3274 : s3269 256 55 = z3268 := by rw [e_s3269]; exact x_up_same
                have q3275 : s3269 261 x5.toNat = z3125 := by rw [e_s3269, x_up_q (by omega)]; exact q3245
                refine x_iinc k207_143 (ls' := [(5, vi (x5 + 1)), (0, .ref 256), (1, vi x1), (2, vi x2), (3, vi x3), (4, vi x4)]) rfl (by decide) rfl ?_
                refine x_goto k207_146 (t := 23) rfl ?_
                refine x_ls (l := [(0, .ref 256), (1, vi x1), (2, vi x2), (3, vi x3), (4, vi x4), (5, vi (x5 + 1))]) (show ([0, 1, 2, 3, 4, 5] : List Nat).Nodup from by decide) ⟨rfl, rfl, rfl, rfl, rfl, rfl, trivial⟩ ?_
                exact ih s3269 x1 x2 x3 x4 (x5 + 1) z3227 z3238 z3268 z3129 x1004 hG_s3269 f_s3269 ⟨by omega, by omega⟩ ⟨by omega, by omega⟩ ⟨by omega, by omega⟩ ⟨by omega, by omega⟩ ⟨by omega, by omega⟩ ⟨by omega, by omega⟩ ⟨by omega, by omega⟩ ⟨by omega, by omega⟩ ⟨by omega, by omega⟩ ⟨by omega, by omega⟩ (by omega) (by omega) (by omega) (by omega) (by omega) (by omega) (by omega) (by omega) (by omega) (by have cs := ctp_s (fun p : Nat => yrR s0 d e p ∧ shR s0 (p : Int) a) (k := x5) (by omega); rw [show ((x5.toNat : Nat) : Int) = x5 by omega] at cs; have q := cs.1 (⟨yr, (sh1.resolve_right (fun q => by omega)).2⟩); omega) (by have cs := ctp_s (fun p : Nat => yrR s0 d e p ∧ shR s0 (p : Int) b) (k := x5) (by omega); rw [show ((x5.toNat : Nat) : Int) = x5 by omega] at cs; have q := cs.2 (fun q => (sh2.resolve_left (fun q => by omega)).2 q.2); omega) (by have cs := ctp_s (fun p : Nat => yrR s0 d e p ∧ shR s0 (p : Int) a ∧ shR s0 (p : Int) b) (k := x5) (by omega); rw [show ((x5.toNat : Nat) : Int) = x5 by omega] at cs; have q := cs.1 (⟨yr, (sh3.resolve_right (fun q => by omega)).2, (sh4.resolve_right (fun q => by omega)).2⟩); omega) (by have cs := ctp_s (fun p : Nat => yrR s0 d e p) (k := x5) (by omega); have q := cs.1 (yr); omega) (q3272).symm (q3273).symm (q3274).symm (q3271).symm (q3270).symm  (by omega)
          · skip
            refine x_A k207_100 (fun _ => rfl) ?_
            refine x_goto k207_101 (t := 105) rfl ?_
            refine x_iadd k207_105 ?_
            refine x_top (fun z3276 e_z3276 => ?_)
            refine x_putI k207_106 (f := 54) rfl (q := 256) (n := 62) (kd := 15) ⟨by decide, rfl⟩ rfl rfl rfl ?_
            refine x_nh (fun s3277 e_s3277 => ?_)
            have hG_s3277 : GI s3277 := by rw [e_s3277]; exact hG_s3228.up (show 0 ≤ z3276 ∧ z3276 ≤ 40 from ⟨by omega, by omega⟩)
            have f_s3277 : FL [4150, 4151, 4152, 4153] s0 s3277 := by rw [e_s3277]; exact f_s3228.up (show 4151 ∈ [4150, 4151, 4152, 4153] from by decide)
            have q3278 : s3277 256 55 = x1002 := by rw [e_s3277, x_up_i (by decide)]; exact q3230
            have q3279 : s3277 256 6 = x1004 := by rw [e_s3277, x_up_i (by decide)]; exact q3231
            have q3280 : s3277 256 56 = z3129 := by rw [e_s3277, x_up_i (by decide)]; exact q3232
            have q3281 : s3277 256 53 = z3227 := by rw [e_s3277, x_up_i (by decide)]; exact q3233
            have q3282 : s3277 256 54 = z3276 := by rw [e_s3277]; exact x_up_same
            have q3283 : s3277 261 x5.toNat = z3125 := by rw [e_s3277, x_up_q (by omega)]; exact q3234
            refine x_A k207_109 (fun _ => rfl) ?_
            refine x_A k207_110 (fun _ => rfl) ?_
            refine x_getI k207_111 (f := 55) rfl (q := 256) (n := 62) (kd := 15) ⟨by decide, rfl⟩ (by decide) rfl ?_
            refine x_rw (q3278) ?_
            refine x_A k207_114 (fun _ => rfl) ?_
            refine x_A k207_115 (fun _ => rfl) ?_
            refine x_A k207_117 (fun _ => rfl) ?_
            refine x_callV k207_118 (y := 169) (n := 2) (w0 := 2) (w1 := 2) (as := [vi x5, vi x1]) (rest := [vi x1002, .ref 256]) (by decide +kernel) (q := 256) (nq := 62) (kq := 15) ⟨by decide, rfl⟩ rfl rfl rfl rfl (xe_mono (E_X11_shows_256 s3277 hG_s3277 x5 ⟨by omega, by omega⟩ x1 ⟨by omega, by omega⟩) ?_)
            rintro s3285 v ⟨-, t_s3285, z3284, rfl, g_z3284, xp_z3284⟩
            rw [t_s3285.nil]
            try rw [t_s3285.nil] at xp_z3284
            show xe none 207 121 [(0, .ref 256), (1, vi x1), (2, vi x2), (3, vi x3), (4, vi x4), (5, vi x5)] [vi z3284, vi x1002, .ref 256] s3277 0 0 _
            have sh3 := xp_z3284
            rw [shR.eq (funext fun i => f_s3277 282 i (show 5760 ∉ [4150, 4151, 4152, 4153] from by decide)), show x1 = a by omega] at sh3
            refine x_if_eq k207_121 (t := 138) rfl ⟨by omega, by omega⟩ (fun c3286 => ?_) (fun c3286 => ?_)
            · skip
              refine x_A k207_138 (fun _ => rfl) ?_
              refine x_iadd k207_139 ?_
              refine x_top (fun z3287 e_z3287 => ?_)
              refine x_putI k207_140 (f := 55) rfl (q := 256) (n := 62) (kd := 15) ⟨by decide, rfl⟩ rfl rfl rfl ?_
              refine x_nh (fun s3288 e_s3288 => ?_)
              have hG_s3288 : GI s3288 := by rw [e_s3288]; exact hG_s3277.up (show 0 ≤ z3287 ∧ z3287 ≤ 40 from ⟨by omega, by omega⟩)
              have f_s3288 : FL [4150, 4151, 4152, 4153] s0 s3288 := by rw [e_s3288]; exact f_s3277.up (show 4152 ∈ [4150, 4151, 4152, 4153] from by decide)
              have q3289 : s3288 256 6 = x1004 := by rw [e_s3288, x_up_i (by decide)]; exact q3279
              have q3290 : s3288 256 56 = z3129 := by rw [e_s3288, x_up_i (by decide)]; exact q3280
              have q3291 : s3288 256 53 = z3227 := by rw [e_s3288, x_up_i (by decide)]; exact q3281
              have q3292 : s3288 256 54 = z3276 := by rw [e_s3288, x_up_i (by decide)]; exact q3282
              have q3293 : s3288 256 55 = z3287 := by rw [e_s3288]; exact x_up_same
              have q3294 : s3288 261 x5.toNat = z3125 := by rw [e_s3288, x_up_q (by omega)]; exact q3283
              refine x_iinc k207_143 (ls' := [(5, vi (x5 + 1)), (0, .ref 256), (1, vi x1), (2, vi x2), (3, vi x3), (4, vi x4)]) rfl (by decide) rfl ?_
              refine x_goto k207_146 (t := 23) rfl ?_
              refine x_ls (l := [(0, .ref 256), (1, vi x1), (2, vi x2), (3, vi x3), (4, vi x4), (5, vi (x5 + 1))]) (show ([0, 1, 2, 3, 4, 5] : List Nat).Nodup from by decide) ⟨rfl, rfl, rfl, rfl, rfl, rfl, trivial⟩ ?_
              exact ih s3288 x1 x2 x3 x4 (x5 + 1) z3227 z3276 z3287 z3129 x1004 hG_s3288 f_s3288 ⟨by omega, by omega⟩ ⟨by omega, by omega⟩ ⟨by omega, by omega⟩ ⟨by omega, by omega⟩ ⟨by omega, by omega⟩ ⟨by omega, by omega⟩ ⟨by omega, by omega⟩ ⟨by omega, by omega⟩ ⟨by omega, by omega⟩ ⟨by omega, by omega⟩ (by omega) (by omega) (by omega) (by omega) (by omega) (by omega) (by omega) (by omega) (by omega) (by have cs := ctp_s (fun p : Nat => yrR s0 d e p ∧ shR s0 (p : Int) a) (k := x5) (by omega); rw [show ((x5.toNat : Nat) : Int) = x5 by omega] at cs; have q := cs.1 (⟨yr, (sh1.resolve_right (fun q => by omega)).2⟩); omega) (by have cs := ctp_s (fun p : Nat => yrR s0 d e p ∧ shR s0 (p : Int) b) (k := x5) (by omega); rw [show ((x5.toNat : Nat) : Int) = x5 by omega] at cs; have q := cs.1 (⟨yr, (sh2.resolve_right (fun q => by omega)).2⟩); omega) (by have cs := ctp_s (fun p : Nat => yrR s0 d e p ∧ shR s0 (p : Int) a ∧ shR s0 (p : Int) b) (k := x5) (by omega); rw [show ((x5.toNat : Nat) : Int) = x5 by omega] at cs; have q := cs.2 (fun q => (sh3.resolve_left (fun q => by omega)).2 q.2.1); omega) (by have cs := ctp_s (fun p : Nat => yrR s0 d e p) (k := x5) (by omega); have q := cs.1 (yr); omega) (q3291).symm (q3292).symm (q3293).symm (q3290).symm (q3289).symm  (by omega)
            · skip
              refine x_A k207_124 (fun _ => rfl) ?_
              refine x_A k207_125 (fun _ => rfl) ?_
              refine x_A k207_127 (fun _ => rfl) ?_
              refine x_callV k207_128 (y := 169) (n := 2) (w0 := 2) (w1 := 2) (as := [vi x5, vi x2]) (rest := [vi x1002, .ref 256]) (by decide +kernel) (q := 256) (nq := 62) (kq := 15) ⟨by decide, rfl⟩ rfl rfl rfl rfl (xe_mono (E_X11_shows_256 s3277 hG_s3277 x5 ⟨by omega, by omega⟩ x2 ⟨by omega, by omega⟩) ?_)
              rintro s3296 v ⟨-, t_s3296, z3295, rfl, g_z3295, xp_z3295⟩
              rw [t_s3296.nil]
              try rw [t_s3296.nil] at xp_z3295
              show xe none 207 131 [(0, .ref 256), (1, vi x1), (2, vi x2), (3, vi x3), (4, vi x4), (5, vi x5)] [vi z3295, vi x1002, .ref 256] s3277 0 0 _
              have sh4 := xp_z3295
              rw [shR.eq (funext fun i => f_s3277 282 i (show 5760 ∉ [4150, 4151, 4152, 4153] from by decide)), show x2 = b by omega] at sh4
              refine x_if_eq k207_131 (t := 138) rfl ⟨by omega, by omega⟩ (fun c3297 => ?_) (fun c3297 => ?_)
              · skip
                refine x_A k207_138 (fun _ => rfl) ?_
                refine x_iadd k207_139 ?_
                refine x_top (fun z3298 e_z3298 => ?_)
                refine x_putI k207_140 (f := 55) rfl (q := 256) (n := 62) (kd := 15) ⟨by decide, rfl⟩ rfl rfl rfl ?_
                refine x_nh (fun s3299 e_s3299 => ?_)
                have hG_s3299 : GI s3299 := by rw [e_s3299]; exact hG_s3277.up (show 0 ≤ z3298 ∧ z3298 ≤ 40 from ⟨by omega, by omega⟩)
                have f_s3299 : FL [4150, 4151, 4152, 4153] s0 s3299 := by rw [e_s3299]; exact f_s3277.up (show 4152 ∈ [4150, 4151, 4152, 4153] from by decide)
                have q3300 : s3299 256 6 = x1004 := by rw [e_s3299, x_up_i (by decide)]; exact q3279
                have q3301 : s3299 256 56 = z3129 := by rw [e_s3299, x_up_i (by decide)]; exact q3280
                have q3302 : s3299 256 53 = z3227 := by rw [e_s3299, x_up_i (by decide)]; exact q3281
                have q3303 : s3299 256 54 = z3276 := by rw [e_s3299, x_up_i (by decide)]; exact q3282
                have q3304 : s3299 256 55 = z3298 := by rw [e_s3299]; exact x_up_same
                have q3305 : s3299 261 x5.toNat = z3125 := by rw [e_s3299, x_up_q (by omega)]; exact q3283
                refine x_iinc k207_143 (ls' := [(5, vi (x5 + 1)), (0, .ref 256), (1, vi x1), (2, vi x2), (3, vi x3), (4, vi x4)]) rfl (by decide) rfl ?_
                refine x_goto k207_146 (t := 23) rfl ?_
                refine x_ls (l := [(0, .ref 256), (1, vi x1), (2, vi x2), (3, vi x3), (4, vi x4), (5, vi (x5 + 1))]) (show ([0, 1, 2, 3, 4, 5] : List Nat).Nodup from by decide) ⟨rfl, rfl, rfl, rfl, rfl, rfl, trivial⟩ ?_
                exact ih s3299 x1 x2 x3 x4 (x5 + 1) z3227 z3276 z3298 z3129 x1004 hG_s3299 f_s3299 ⟨by omega, by omega⟩ ⟨by omega, by omega⟩ ⟨by omega, by omega⟩ ⟨by omega, by omega⟩ ⟨by omega, by omega⟩ ⟨by omega, by omega⟩ ⟨by omega, by omega⟩ ⟨by omega, by omega⟩ ⟨by omega, by omega⟩ ⟨by omega, by omega⟩ (by omega) (by omega) (by omega) (by omega) (by omega) (by omega) (by omega) (by omega) (by omega) (by have cs := ctp_s (fun p : Nat => yrR s0 d e p ∧ shR s0 (p : Int) a) (k := x5) (by omega); rw [show ((x5.toNat : Nat) : Int) = x5 by omega] at cs; have q := cs.1 (⟨yr, (sh1.resolve_right (fun q => by omega)).2⟩); omega) (by have cs := ctp_s (fun p : Nat => yrR s0 d e p ∧ shR s0 (p : Int) b) (k := x5) (by omega); rw [show ((x5.toNat : Nat) : Int) = x5 by omega] at cs; have q := cs.1 (⟨yr, (sh2.resolve_right (fun q => by omega)).2⟩); omega) (by have cs := ctp_s (fun p : Nat => yrR s0 d e p ∧ shR s0 (p : Int) a ∧ shR s0 (p : Int) b) (k := x5) (by omega); rw [show ((x5.toNat : Nat) : Int) = x5 by omega] at cs; have q := cs.2 (fun q => (sh4.resolve_left (fun q => by omega)).2 q.2.2); omega) (by have cs := ctp_s (fun p : Nat => yrR s0 d e p) (k := x5) (by omega); have q := cs.1 (yr); omega) (q3302).symm (q3303).symm (q3304).symm (q3301).symm (q3300).symm  (by omega)
              · skip
                refine x_A k207_134 (fun _ => rfl) ?_
                refine x_goto k207_135 (t := 139) rfl ?_
                refine x_iadd k207_139 ?_
                refine x_top (fun z3306 e_z3306 => ?_)
                refine x_putI k207_140 (f := 55) rfl (q := 256) (n := 62) (kd := 15) ⟨by decide, rfl⟩ rfl rfl rfl ?_
                refine x_nh (fun s3307 e_s3307 => ?_)
                have hG_s3307 : GI s3307 := by rw [e_s3307]; exact hG_s3277.up (show 0 ≤ z3306 ∧ z3306 ≤ 40 from ⟨by omega, by omega⟩)
                have f_s3307 : FL [4150, 4151, 4152, 4153] s0 s3307 := by rw [e_s3307]; exact f_s3277.up (show 4152 ∈ [4150, 4151, 4152, 4153] from by decide)
                have q3308 : s3307 256 6 = x1004 := by rw [e_s3307, x_up_i (by decide)]; exact q3279
                have q3309 : s3307 256 56 = z3129 := by rw [e_s3307, x_up_i (by decide)]; exact q3280
                have q3310 : s3307 256 53 = z3227 := by rw [e_s3307, x_up_i (by decide)]; exact q3281
                have q3311 : s3307 256 54 = z3276 := by rw [e_s3307, x_up_i (by decide)]; exact q3282
                have q3312 : s3307 256 55 = z3306 := by rw [e_s3307]; exact x_up_same
                have q3313 : s3307 261 x5.toNat = z3125 := by rw [e_s3307, x_up_q (by omega)]; exact q3283
                refine x_iinc k207_143 (ls' := [(5, vi (x5 + 1)), (0, .ref 256), (1, vi x1), (2, vi x2), (3, vi x3), (4, vi x4)]) rfl (by decide) rfl ?_
                refine x_goto k207_146 (t := 23) rfl ?_
                refine x_ls (l := [(0, .ref 256), (1, vi x1), (2, vi x2), (3, vi x3), (4, vi x4), (5, vi (x5 + 1))]) (show ([0, 1, 2, 3, 4, 5] : List Nat).Nodup from by decide) ⟨rfl, rfl, rfl, rfl, rfl, rfl, trivial⟩ ?_
                exact ih s3307 x1 x2 x3 x4 (x5 + 1) z3227 z3276 z3306 z3129 x1004 hG_s3307 f_s3307 ⟨by omega, by omega⟩ ⟨by omega, by omega⟩ ⟨by omega, by omega⟩ ⟨by omega, by omega⟩ ⟨by omega, by omega⟩ ⟨by omega, by omega⟩ ⟨by omega, by omega⟩ ⟨by omega, by omega⟩ ⟨by omega, by omega⟩ ⟨by omega, by omega⟩ (by omega) (by omega) (by omega) (by omega) (by omega) (by omega) (by omega) (by omega) (by omega) (by have cs := ctp_s (fun p : Nat => yrR s0 d e p ∧ shR s0 (p : Int) a) (k := x5) (by omega); rw [show ((x5.toNat : Nat) : Int) = x5 by omega] at cs; have q := cs.1 (⟨yr, (sh1.resolve_right (fun q => by omega)).2⟩); omega) (by have cs := ctp_s (fun p : Nat => yrR s0 d e p ∧ shR s0 (p : Int) b) (k := x5) (by omega); rw [show ((x5.toNat : Nat) : Int) = x5 by omega] at cs; have q := cs.1 (⟨yr, (sh2.resolve_right (fun q => by omega)).2⟩); omega) (by have cs := ctp_s (fun p : Nat => yrR s0 d e p ∧ shR s0 (p : Int) a ∧ shR s0 (p : Int) b) (k := x5) (by omega); rw [show ((x5.toNat : Nat) : Int) = x5 by omega] at cs; have q := cs.1 (⟨yr, (sh3.resolve_right (fun q => by omega)).2, (sh4.resolve_right (fun q => by omega)).2⟩); omega) (by have cs := ctp_s (fun p : Nat => yrR s0 d e p) (k := x5) (by omega); have q := cs.1 (yr); omega) (q3310).symm (q3311).symm (q3312).symm (q3309).symm (q3308).symm  (by omega)
      · rw [e_z3126]
        show xe none 207 48 [(0, .ref 256), (1, vi x1), (2, vi x2), (3, vi x3), (4, vi x4), (5, vi x5)] [vi 0] s 0 0 _
        refine x_if_eq k207_48 (t := 143) rfl ⟨by omega, by omega⟩ (fun c3314 => ?_) (fun c3314 => by exfalso; omega)
        have f261_ := f 261 x5.toNat (show 4416 ∉ [4150, 4151, 4152, 4153] from by decide)
        have nyr : ¬ yrR s0 d e x5.toNat := fun q => by have q1 := q.1; have q2 := q.2; omega
        refine x_iinc k207_143 (ls' := [(5, vi (x5 + 1)), (0, .ref 256), (1, vi x1), (2, vi x2), (3, vi x3), (4, vi x4)]) rfl (by decide) rfl ?_
        refine x_goto k207_146 (t := 23) rfl ?_
        refine x_ls (l := [(0, .ref 256), (1, vi x1), (2, vi x2), (3, vi x3), (4, vi x4), (5, vi (x5 + 1))]) (show ([0, 1, 2, 3, 4, 5] : List Nat).Nodup from by decide) ⟨rfl, rfl, rfl, rfl, rfl, rfl, trivial⟩ ?_
        exact ih s x1 x2 x3 x4 (x5 + 1) x1000 x1001 x1002 x1003 x1004 hG f ⟨by omega, by omega⟩ ⟨by omega, by omega⟩ ⟨by omega, by omega⟩ ⟨by omega, by omega⟩ ⟨by omega, by omega⟩ ⟨by omega, by omega⟩ ⟨by omega, by omega⟩ ⟨by omega, by omega⟩ ⟨by omega, by omega⟩ ⟨by omega, by omega⟩ (by omega) (by omega) (by omega) (by omega) (by omega) (by omega) (by omega) (by omega) (by omega) (by have cs := ctp_s (fun p : Nat => yrR s0 d e p ∧ shR s0 (p : Int) a) (k := x5) (by omega); rw [show ((x5.toNat : Nat) : Int) = x5 by omega] at cs; have q := cs.2 (fun q => nyr q.1); omega) (by have cs := ctp_s (fun p : Nat => yrR s0 d e p ∧ shR s0 (p : Int) b) (k := x5) (by omega); rw [show ((x5.toNat : Nat) : Int) = x5 by omega] at cs; have q := cs.2 (fun q => nyr q.1); omega) (by have cs := ctp_s (fun p : Nat => yrR s0 d e p ∧ shR s0 (p : Int) a ∧ shR s0 (p : Int) b) (k := x5) (by omega); rw [show ((x5.toNat : Nat) : Int) = x5 by omega] at cs; have q := cs.2 (fun q => nyr q.1); omega) (by have cs := ctp_s (fun p : Nat => yrR s0 d e p) (k := x5) (by omega); have q := cs.2 (nyr); omega) (e_x1000.symm).symm (e_x1001.symm).symm (e_x1002.symm).symm (e_x1003.symm).symm (e_x1004.symm).symm  (by omega)
