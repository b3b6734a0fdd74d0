theorem L_C_X11_showing_256_10 (s0 : xS) (hJ0 : J s0)  : ∀ (n : Nat) (s : xS) (x1 : Int) (x2 : Int) (x3 : Int) (x4 : Int) (hG : GI s) (f : FL [5312, 5376, 4123, 5440, 5504, 5568, 5632, 5696, 5760] s0 s) (b_x1 : 0 ≤ x1 ∧ x1 ≤ 39) (b_x2 : 0 ≤ x2 ∧ x2 ≤ 9) (b_x3 : 0 ≤ x3 ∧ x3 ≤ 60) (b_x4 : 0 ≤ x4 ∧ x4 ≤ 40) (r_3_4 : x3 ≤ x4 + 0)  (hm : (40 - x4) < (n : Int)), xe none 170 10 [(0, .ref 256), (1, vi x1), (2, vi x2), (3, vi x3), (4, vi x4)] [] s 0 0 (fun s' v => GI s' ∧ FL [5312, 5376, 4123, 5440, 5504, 5568, 5632, 5696, 5760] s0 s' ∧ ∃ z, v = some (vi z) ∧ (0 ≤ z ∧ z ≤ 40)) := by
  intro n
  induction n with
  | zero => intro s x1 x2 x3 x4 hG f b_x1 b_x2 b_x3 b_x4 r_3_4  hm; exfalso; omega
  | succ n ih =>
    intro s x1 x2 x3 x4 hG f b_x1 b_x2 b_x3 b_x4 r_3_4  hm
    refine x_A k170_10 (fun _ => rfl) ?_
    refine x_A k170_12 (fun _ => rfl) ?_
    refine x_getI k170_13 (f := 6) rfl (q := 256) (n := 62) (kd := 15) ⟨by decide, rfl⟩ (by decide) rfl ?_
    refine x_top (fun z134 e_z134 => ?_)
    have g_z134 : (0 : Int) ≤ s 256 6 ∧ s 256 6 ≤ 40 := hG 256 6
    refine x_ic_ge k170_16 (t := 43) rfl (by first | exact x_rb b_x4 rfl rfl | exact ⟨by omega, by omega⟩) (by first | exact x_rbe e_z134 g_z134 rfl rfl | exact x_rb g_z134 rfl rfl | exact ⟨by omega, by omega⟩) (fun c135 => ?_) (fun c135 => ?_)
    · skip
      refine x_A k170_43 (fun _ => rfl) ?_
      exact x_iret k170_44 rfl ⟨hG, f, x3, rfl, (by first | exact x_rb b_x3 rfl rfl | exact ⟨by omega, by omega⟩)⟩
    · skip
      refine x_A k170_19 (fun _ => rfl) ?_
      refine x_A k170_20 (fun _ => rfl) ?_
      refine x_A k170_21 (fun _ => rfl) ?_
      refine x_A k170_23 (fun _ => rfl) ?_
      refine x_callV k170_24 (y := 169) (n := 2) (w0 := 1) (w1 := 2) (as := [vi x4, vi x1]) (rest := [vi x3]) (by decide +kernel) (q := 256) (nq := 62) (kq := 15) ⟨by decide, rfl⟩ rfl rfl rfl rfl (xe_mono (C_X11_shows_256 s hG x4 (by first | exact x_rb b_x4 rfl rfl | exact ⟨by omega, by omega⟩) x1 (by first | exact x_rb b_x1 rfl rfl | exact ⟨by omega, by omega⟩)) ?_)
      rintro s137 v ⟨-, t_s137, z136, rfl, g_z136⟩
      rw [t_s137.nil]
      show xe none 170 27 [(0, .ref 256), (1, vi x1), (2, vi x2), (3, vi x3), (4, vi x4)] [vi z136, vi x3] s 0 0 _
      refine x_if_eq k170_27 (t := 34) rfl (by first | exact x_rbe e_z136 g_z136 rfl rfl | exact x_rb g_z136 rfl rfl | exact ⟨by omega, by omega⟩) (fun c138 => ?_) (fun c138 => ?_)
      · skip
        refine x_A k170_34 (fun _ => rfl) ?_
        refine x_iadd k170_35 ?_
        refine x_top (fun z139 e_z139 => ?_)
        refine x_istore_n k170_36 (ls' := [(3, vi z139), (0, .ref 256), (1, vi x1), (2, vi x2), (4, vi x4)]) (by decide) rfl ?_
        refine x_iinc k170_37 (ls' := [(4, vi (x4 + 1)), (3, vi z139), (0, .ref 256), (1, vi x1), (2, vi x2)]) rfl (by decide) rfl ?_
        refine x_goto k170_40 (t := 10) rfl ?_
        refine x_ls (l := [(0, .ref 256), (1, vi x1), (2, vi x2), (3, vi z139), (4, vi (x4 + 1))]) (show ([0, 1, 2, 3, 4] : List Nat).Nodup from by decide +kernel) ⟨rfl, rfl, rfl, rfl, rfl, trivial⟩ ?_
        exact ih s x1 x2 z139 (x4 + 1) hG f (by first | exact x_rb b_x1 rfl rfl | exact ⟨by omega, by omega⟩) (by first | exact x_rb b_x2 rfl rfl | exact ⟨by omega, by omega⟩) (by first | exact x_rbe e_z139 g_z139 rfl rfl | exact x_rb g_z139 rfl rfl | exact ⟨by omega, by omega⟩) ⟨by omega, by omega⟩ (by omega)  (by omega)
      · skip
        refine x_A k170_30 (fun _ => rfl) ?_
        refine x_goto k170_31 (t := 35) rfl ?_
        refine x_iadd k170_35 ?_
        refine x_top (fun z140 e_z140 => ?_)
        refine x_istore_n k170_36 (ls' := [(3, vi z140), (0, .ref 256), (1, vi x1), (2, vi x2), (4, vi x4)]) (by decide) rfl ?_
        refine x_iinc k170_37 (ls' := [(4, vi (x4 + 1)), (3, vi z140), (0, .ref 256), (1, vi x1), (2, vi x2)]) rfl (by decide) rfl ?_
        refine x_goto k170_40 (t := 10) rfl ?_
        refine x_ls (l := [(0, .ref 256), (1, vi x1), (2, vi x2), (3, vi z140), (4, vi (x4 + 1))]) (show ([0, 1, 2, 3, 4] : List Nat).Nodup from by decide +kernel) ⟨rfl, rfl, rfl, rfl, rfl, trivial⟩ ?_
        exact ih s x1 x2 z140 (x4 + 1) hG f (by first | exact x_rb b_x1 rfl rfl | exact ⟨by omega, by omega⟩) (by first | exact x_rb b_x2 rfl rfl | exact ⟨by omega, by omega⟩) (by first | exact x_rbe e_z140 g_z140 rfl rfl | exact x_rb g_z140 rfl rfl | exact ⟨by omega, by omega⟩) ⟨by omega, by omega⟩ (by omega)  (by omega)
theorem C_X11_showing_256 (s0 : xS) (hG0 : GI s0) (hJ0 : J s0) (a : Int) (b_a : 0 ≤ a ∧ a ≤ 39) (b : Int) (b_b : 0 ≤ b ∧ b ≤ 9) : xe none 170 0 (lv_args 0 [.ref 256, vi a, vi b]) [] s0 0 0 (fun s' v => GI s' ∧ FL [5312, 5376, 4123, 5440, 5504, 5568, 5632, 5696, 5760] s0 s' ∧ ∃ z, v = some (vi z) ∧ (0 ≤ z ∧ z ≤ 40)) := by
  have f0 : FL [5312, 5376, 4123, 5440, 5504, 5568, 5632, 5696, 5760] s0 s0 := FL.rf
  show xe none 170 0 [(0, .ref 256), (1, vi a), (2, vi b)] [] s0 0 0 _
  refine x_A k170_0 (fun _ => rfl) ?_
  refine x_A k170_1 (fun _ => rfl) ?_
  refine x_callV k170_2 (y := 168) (n := 1) (w0 := 0) (w1 := 1) (as := [vi b]) (rest := []) (by decide +kernel) (q := 256) (nq := 62) (kq := 15) ⟨by decide, rfl⟩ rfl rfl rfl rfl (xe_mono (C_X11_find_256 s0 hG0 (hJ0.fl f0 (by decide +kernel)) b (by first | exact x_rb b_b rfl rfl | exact ⟨by omega, by omega⟩)) ?_)
  rintro s142 v ⟨hG_s142, t_s142, rfl⟩
  have f_s142 : FL [5312, 5376, 4123, 5440, 5504, 5568, 5632, 5696, 5760] s0 s142 := f0.tr t_s142 (by decide +kernel)
  show xe none 170 5 [(0, .ref 256), (1, vi a), (2, vi b)] [] s142 0 0 _
  refine x_A k170_5 (fun _ => rfl) ?_
  refine x_istore_n k170_6 (ls' := [(3, vi 0), (0, .ref 256), (1, vi a), (2, vi b)]) (by decide) rfl ?_
  refine x_A k170_7 (fun _ => rfl) ?_
  refine x_istore k170_8 (ls' := [(4, vi 0), (3, vi 0), (0, .ref 256), (1, vi a), (2, vi b)]) (by decide) rfl ?_
  refine x_ls (l := [(0, .ref 256), (1, vi a), (2, vi b), (3, vi 0), (4, vi 0)]) (show ([0, 1, 2, 3, 4] : List Nat).Nodup from by decide +kernel) ⟨rfl, rfl, rfl, rfl, rfl, trivial⟩ ?_
  exact L_C_X11_showing_256_10 s0 hJ0  (((40 - 0) + 1 : Int)).toNat s142 a b 0 0 hG_s142 f_s142 (by first | exact x_rb b_a rfl rfl | exact ⟨by omega, by omega⟩) (by first | exact x_rb b_b rfl rfl | exact ⟨by omega, by omega⟩) ⟨by decide, by decide⟩ ⟨by decide, by decide⟩ (by omega)  (by omega)
theorem L_C_X11_lacks_256_10 (s0 : xS) (hJ0 : J s0)  : ∀ (n : Nat) (s : xS) (x1 : Int) (x2 : Int) (x3 : Int) (x4 : Int) (hG : GI s) (f : FL [5312, 5376, 4123] s0 s) (b_x1 : 0 ≤ x1 ∧ x1 ≤ 119) (b_x2 : 0 ≤ x2 ∧ x2 ≤ 9) (b_x3 : 0 ≤ x3 ∧ x3 ≤ 1) (b_x4 : 0 ≤ x4 ∧ x4 ≤ 64) (r_3_4 : x3 ≤ x4 + 0)  (hm : (64 - x4) < (n : Int)), xe none 171 10 [(0, .ref 256), (1, vi x1), (2, vi x2), (3, vi x3), (4, vi x4)] [] s 0 0 (fun s' v => GI s' ∧ FL [5312, 5376, 4123] s0 s' ∧ ∃ z, v = some (vi z) ∧ (0 ≤ z ∧ z ≤ 1)) := by
  intro n
  induction n with
  | zero => intro s x1 x2 x3 x4 hG f b_x1 b_x2 b_x3 b_x4 r_3_4  hm; exfalso; omega
  | succ n ih =>
    intro s x1 x2 x3 x4 hG f b_x1 b_x2 b_x3 b_x4 r_3_4  hm
    refine x_A k171_10 (fun _ => rfl) ?_
    refine x_A k171_12 (fun _ => rfl) ?_
    refine x_getI k171_13 (f := 20) rfl (q := 256) (n := 62) (kd := 15) ⟨by decide, rfl⟩ (by decide) rfl ?_
    refine x_top (fun z333 e_z333 => ?_)
    have g_z333 : (0 : Int) ≤ s 256 20 ∧ s 256 20 ≤ 64 := hG 256 20
    refine x_ic_ge k171_16 (t := 86) rfl (by first | exact x_rb b_x4 rfl rfl | exact ⟨by omega, by omega⟩) (by first | exact x_rbe e_z333 g_z333 rfl rfl | exact x_rb g_z333 rfl rfl | exact ⟨by omega, by omega⟩) (fun c334 => ?_) (fun c334 => ?_)
    · skip
      refine x_A k171_86 (fun _ => rfl) ?_
      refine x_if_eq k171_87 (t := 103) rfl (by first | exact x_rb b_x3 rfl rfl | exact ⟨by omega, by omega⟩) (fun c335 => ?_) (fun c335 => ?_)
      · skip
        refine x_A k171_103 (fun _ => rfl) ?_
        exact x_zret k171_104 rfl ⟨by omega, by omega⟩ ⟨hG, f, 0, rfl, ⟨by decide, by decide⟩⟩
      · skip
        refine x_A k171_90 (fun _ => rfl) ?_
        refine x_getR k171_91 (f := 27) rfl (q := 256) (n := 62) (kd := 15) ⟨by decide, rfl⟩ (q2 := 277) (by decide) rfl ?_
        refine x_A k171_94 (fun _ => rfl) ?_
        refine x_iald k171_95 (q := 277) (n := 120) ⟨by decide, rfl⟩ (by decide) (by first | exact x_rbl b_x1 rfl rfl | exact ⟨by omega, by omega⟩) ?_
        refine x_top (fun z336 e_z336 => ?_)
        have g_z336 : (0 : Int) ≤ s 277 x1.toNat ∧ s 277 x1.toNat ≤ 4 := hG 277 x1.toNat
        refine x_if_ne k171_96 (t := 103) rfl (by first | exact x_rbe e_z336 g_z336 rfl rfl | exact x_rb g_z336 rfl rfl | exact ⟨by omega, by omega⟩) (fun c337 => ?_) (fun c337 => ?_)
        · skip
          refine x_A k171_103 (fun _ => rfl) ?_
          exact x_zret k171_104 rfl ⟨by omega, by omega⟩ ⟨hG, f, 0, rfl, ⟨by decide, by decide⟩⟩
        · skip
          refine x_A k171_99 (fun _ => rfl) ?_
          refine x_goto k171_100 (t := 104) rfl ?_
          exact x_zret k171_104 rfl ⟨by omega, by omega⟩ ⟨hG, f, 1, rfl, ⟨by decide, by decide⟩⟩
    · skip
      refine x_A k171_19 (fun _ => rfl) ?_
      refine x_if_ne k171_20 (t := 74) rfl (by first | exact x_rb b_x3 rfl rfl | exact ⟨by omega, by omega⟩) (fun c338 => ?_) (fun c338 => ?_)
      · skip
        refine x_A k171_74 (fun _ => rfl) ?_
        refine x_goto k171_75 (t := 79) rfl ?_
        refine x_istore_n k171_79 (ls' := [(3, vi 1), (0, .ref 256), (1, vi x1), (2, vi x2), (4, vi x4)]) (by decide) rfl ?_
        refine x_iinc k171_80 (ls' := [(4, vi (x4 + 1)), (3, vi 1), (0, .ref 256), (1, vi x1), (2, vi x2)]) rfl (by decide) rfl ?_
        refine x_goto k171_83 (t := 10) rfl ?_
        refine x_ls (l := [(0, .ref 256), (1, vi x1), (2, vi x2), (3, vi 1), (4, vi (x4 + 1))]) (show ([0, 1, 2, 3, 4] : List Nat).Nodup from by decide +kernel) ⟨rfl, rfl, rfl, rfl, rfl, trivial⟩ ?_
        exact ih s x1 x2 1 (x4 + 1) hG f (by first | exact x_rb b_x1 rfl rfl | exact ⟨by omega, by omega⟩) (by first | exact x_rb b_x2 rfl rfl | exact ⟨by omega, by omega⟩) ⟨by decide, by decide⟩ ⟨by omega, by omega⟩ (by omega)  (by omega)
      · skip
        refine x_A k171_23 (fun _ => rfl) ?_
        refine x_A k171_24 (fun _ => rfl) ?_
        refine x_A k171_26 (fun _ => rfl) ?_
        refine x_callV k171_27 (y := 162) (n := 2) (w0 := 0) (w1 := 2) (as := [vi x4, vi 3]) (rest := []) (by decide +kernel) (q := 256) (nq := 62) (kq := 15) ⟨by decide, rfl⟩ rfl rfl rfl rfl (xe_mono (C_X11_holds_256 s hG (hJ0.fl f (by decide +kernel)) x4 (by first | exact x_rb b_x4 rfl rfl | exact ⟨by omega, by omega⟩) 3 ⟨by decide, by decide⟩ (by omega)) ?_)
        rintro s340 v ⟨-, t_s340, z339, rfl, g_z339⟩
        rw [t_s340.nil]
        show xe none 171 30 [(0, .ref 256), (1, vi x1), (2, vi x2), (3, vi x3), (4, vi x4)] [vi z339] s 0 0 _
        refine x_if_eq k171_30 (t := 78) rfl (by first | exact x_rbe e_z339 g_z339 rfl rfl | exact x_rb g_z339 rfl rfl | exact ⟨by omega, by omega⟩) (fun c341 => ?_) (fun c341 => ?_)
        · skip
          refine x_A k171_78 (fun _ => rfl) ?_
          refine x_istore_n k171_79 (ls' := [(3, vi 0), (0, .ref 256), (1, vi x1), (2, vi x2), (4, vi x4)]) (by decide) rfl ?_
          refine x_iinc k171_80 (ls' := [(4, vi (x4 + 1)), (3, vi 0), (0, .ref 256), (1, vi x1), (2, vi x2)]) rfl (by decide) rfl ?_
          refine x_goto k171_83 (t := 10) rfl ?_
          refine x_ls (l := [(0, .ref 256), (1, vi x1), (2, vi x2), (3, vi 0), (4, vi (x4 + 1))]) (show ([0, 1, 2, 3, 4] : List Nat).Nodup from by decide +kernel) ⟨rfl, rfl, rfl, rfl, rfl, trivial⟩ ?_
          exact ih s x1 x2 0 (x4 + 1) hG f (by first | exact x_rb b_x1 rfl rfl | exact ⟨by omega, by omega⟩) (by first | exact x_rb b_x2 rfl rfl | exact ⟨by omega, by omega⟩) ⟨by decide, by decide⟩ ⟨by omega, by omega⟩ (by omega)  (by omega)
        · skip
          refine x_A k171_33 (fun _ => rfl) ?_
          refine x_A k171_34 (fun _ => rfl) ?_
          refine x_getR k171_35 (f := 12) rfl (q := 256) (n := 62) (kd := 15) ⟨by decide, rfl⟩ (q2 := 265) (by decide) rfl ?_
          refine x_A k171_38 (fun _ => rfl) ?_
          refine x_iald k171_39 (q := 265) (n := 120) ⟨by decide, rfl⟩ (by decide) (by first | exact x_rbl b_x1 rfl rfl | exact ⟨by omega, by omega⟩) ?_
          refine x_top (fun z342 e_z342 => ?_)
          have g_z342 : (0 : Int) ≤ s 265 x1.toNat ∧ s 265 x1.toNat ≤ 39 := hG 265 x1.toNat
          refine x_A k171_40 (fun _ => rfl) ?_
          refine x_getR k171_41 (f := 22) rfl (q := 256) (n := 62) (kd := 15) ⟨by decide, rfl⟩ (q2 := 273) (by decide) rfl ?_
          refine x_A k171_44 (fun _ => rfl) ?_
          refine x_iald k171_46 (q := 273) (n := 72) ⟨by decide, rfl⟩ (by decide) (by first | exact x_rbl b_x4 rfl rfl | exact ⟨by omega, by omega⟩) ?_
          refine x_top (fun z343 e_z343 => ?_)
          have g_z343 : (-2147483648) ≤ s 273 x4.toNat ∧ s 273 x4.toNat ≤ 2147483647 := hG 273 x4.toNat
          refine x_A k171_47 (fun _ => rfl) ?_
          refine x_callV k171_48 (y := 143) (n := 3) (w0 := 0) (w1 := 3) (as := [vi z342, vi z343, vi x2]) (rest := []) (by decide +kernel) (q := 256) (nq := 62) (kq := 15) ⟨by decide, rfl⟩ rfl rfl rfl rfl (xe_mono (C_X11_isBelow_256 s hG (hJ0.fl f (by decide +kernel)) z342 (by first | exact x_rbe e_z342 g_z342 rfl rfl | exact x_rb g_z342 rfl rfl | exact ⟨by omega, by omega⟩) z343 (by first | exact x_rbe e_z343 g_z343 rfl rfl | exact x_rb g_z343 rfl rfl | exact ⟨by omega, by omega⟩) x2 (by first | exact x_rb b_x2 rfl rfl | exact ⟨by omega, by omega⟩)) ?_)
          rintro s345 v ⟨-, t_s345, z344, rfl, g_z344⟩
          rw [t_s345.nil]
          show xe none 171 51 [(0, .ref 256), (1, vi x1), (2, vi x2), (3, vi x3), (4, vi x4)] [vi z344] s 0 0 _
          refine x_if_eq k171_51 (t := 78) rfl (by first | exact x_rbe e_z344 g_z344 rfl rfl | exact x_rb g_z344 rfl rfl | exact ⟨by omega, by omega⟩) (fun c346 => ?_) (fun c346 => ?_)
          · skip
            refine x_A k171_78 (fun _ => rfl) ?_
            refine x_istore_n k171_79 (ls' := [(3, vi 0), (0, .ref 256), (1, vi x1), (2, vi x2), (4, vi x4)]) (by decide) rfl ?_
            refine x_iinc k171_80 (ls' := [(4, vi (x4 + 1)), (3, vi 0), (0, .ref 256), (1, vi x1), (2, vi x2)]) rfl (by decide) rfl ?_
            refine x_goto k171_83 (t := 10) rfl ?_
            refine x_ls (l := [(0, .ref 256), (1, vi x1), (2, vi x2), (3, vi 0), (4, vi (x4 + 1))]) (show ([0, 1, 2, 3, 4] : List Nat).Nodup from by decide +kernel) ⟨rfl, rfl, rfl, rfl, rfl, trivial⟩ ?_
            exact ih s x1 x2 0 (x4 + 1) hG f (by first | exact x_rb b_x1 rfl rfl | exact ⟨by omega, by omega⟩) (by first | exact x_rb b_x2 rfl rfl | exact ⟨by omega, by omega⟩) ⟨by decide, by decide⟩ ⟨by omega, by omega⟩ (by omega)  (by omega)
          · skip
            refine x_A k171_54 (fun _ => rfl) ?_
            refine x_A k171_55 (fun _ => rfl) ?_
            refine x_getR k171_56 (f := 11) rfl (q := 256) (n := 62) (kd := 15) ⟨by decide, rfl⟩ (q2 := 264) (by decide) rfl ?_
            refine x_A k171_59 (fun _ => rfl) ?_
            refine x_iald k171_60 (q := 264) (n := 120) ⟨by decide, rfl⟩ (by decide) (by first | exact x_rbl b_x1 rfl rfl | exact ⟨by omega, by omega⟩) ?_
            refine x_top (fun z347 e_z347 => ?_)
            have g_z347 : (0 : Int) ≤ s 264 x1.toNat ∧ s 264 x1.toNat ≤ 39 := hG 264 x1.toNat
            refine x_A k171_61 (fun _ => rfl) ?_
            refine x_getR k171_62 (f := 23) rfl (q := 256) (n := 62) (kd := 15) ⟨by decide, rfl⟩ (q2 := 274) (by decide) rfl ?_
            refine x_A k171_65 (fun _ => rfl) ?_
            refine x_iald k171_67 (q := 274) (n := 72) ⟨by decide, rfl⟩ (by decide) (by first | exact x_rbl b_x4 rfl rfl | exact ⟨by omega, by omega⟩) ?_
            refine x_top (fun z348 e_z348 => ?_)
            have g_z348 : (-2147483648) ≤ s 274 x4.toNat ∧ s 274 x4.toNat ≤ 2147483647 := hG 274 x4.toNat
            refine x_callV k171_68 (y := 169) (n := 2) (w0 := 0) (w1 := 2) (as := [vi z347, vi z348]) (rest := []) (by decide +kernel) (q := 256) (nq := 62) (kq := 15) ⟨by decide, rfl⟩ rfl rfl rfl rfl (xe_mono (C_X11_shows_256 s hG z347 (by first | exact x_rbe e_z347 g_z347 rfl rfl | exact x_rb g_z347 rfl rfl | exact ⟨by omega, by omega⟩) z348 (by first | exact x_rbe e_z348 g_z348 rfl rfl | exact x_rb g_z348 rfl rfl | exact ⟨by omega, by omega⟩)) ?_)
            rintro s350 v ⟨-, t_s350, z349, rfl, g_z349⟩
            rw [t_s350.nil]
            show xe none 171 71 [(0, .ref 256), (1, vi x1), (2, vi x2), (3, vi x3), (4, vi x4)] [vi z349] s 0 0 _
            refine x_if_ne k171_71 (t := 78) rfl (by first | exact x_rbe e_z349 g_z349 rfl rfl | exact x_rb g_z349 rfl rfl | exact ⟨by omega, by omega⟩) (fun c351 => ?_) (fun c351 => ?_)
            · skip
              refine x_A k171_78 (fun _ => rfl) ?_
              refine x_istore_n k171_79 (ls' := [(3, vi 0), (0, .ref 256), (1, vi x1), (2, vi x2), (4, vi x4)]) (by decide) rfl ?_
              refine x_iinc k171_80 (ls' := [(4, vi (x4 + 1)), (3, vi 0), (0, .ref 256), (1, vi x1), (2, vi x2)]) rfl (by decide) rfl ?_
              refine x_goto k171_83 (t := 10) rfl ?_
              refine x_ls (l := [(0, .ref 256), (1, vi x1), (2, vi x2), (3, vi 0), (4, vi (x4 + 1))]) (show ([0, 1, 2, 3, 4] : List Nat).Nodup from by decide +kernel) ⟨rfl, rfl, rfl, rfl, rfl, trivial⟩ ?_
              exact ih s x1 x2 0 (x4 + 1) hG f (by first | exact x_rb b_x1 rfl rfl | exact ⟨by omega, by omega⟩) (by first | exact x_rb b_x2 rfl rfl | exact ⟨by omega, by omega⟩) ⟨by decide, by decide⟩ ⟨by omega, by omega⟩ (by omega)  (by omega)
            · skip
              refine x_A k171_74 (fun _ => rfl) ?_
              refine x_goto k171_75 (t := 79) rfl ?_
              refine x_istore_n k171_79 (ls' := [(3, vi 1), (0, .ref 256), (1, vi x1), (2, vi x2), (4, vi x4)]) (by decide) rfl ?_
              refine x_iinc k171_80 (ls' := [(4, vi (x4 + 1)), (3, vi 1), (0, .ref 256), (1, vi x1), (2, vi x2)]) rfl (by decide) rfl ?_
              refine x_goto k171_83 (t := 10) rfl ?_
              refine x_ls (l := [(0, .ref 256), (1, vi x1), (2, vi x2), (3, vi 1), (4, vi (x4 + 1))]) (show ([0, 1, 2, 3, 4] : List Nat).Nodup from by decide +kernel) ⟨rfl, rfl, rfl, rfl, rfl, trivial⟩ ?_
              exact ih s x1 x2 1 (x4 + 1) hG f (by first | exact x_rb b_x1 rfl rfl | exact ⟨by omega, by omega⟩) (by first | exact x_rb b_x2 rfl rfl | exact ⟨by omega, by omega⟩) ⟨by decide, by decide⟩ ⟨by omega, by omega⟩ (by omega)  (by omega)
theorem C_X11_lacks_256 (s0 : xS) (hG0 : GI s0) (hJ0 : J s0) (a : Int) (b_a : 0 ≤ a ∧ a ≤ 119) (b : Int) (b_b : 0 ≤ b ∧ b ≤ 9) : xe none 171 0 (lv_args 0 [.ref 256, vi a, vi b]) [] s0 0 0 (fun s' v => GI s' ∧ FL [5312, 5376, 4123] s0 s' ∧ ∃ z, v = some (vi z) ∧ (0 ≤ z ∧ z ≤ 1)) := by
  have f0 : FL [5312, 5376, 4123] s0 s0 := FL.rf
  show xe none 171 0 [(0, .ref 256), (1, vi a), (2, vi b)] [] s0 0 0 _
  refine x_A k171_0 (fun _ => rfl) ?_
  refine x_istore_n k171_1 (ls' := [(3, vi 0), (0, .ref 256), (1, vi a), (2, vi b)]) (by decide) rfl ?_
  refine x_A k171_2 (fun _ => rfl) ?_
  refine x_A k171_3 (fun _ => rfl) ?_
  refine x_callV k171_4 (y := 160) (n := 1) (w0 := 0) (w1 := 1) (as := [vi b]) (rest := []) (by decide +kernel) (q := 256) (nq := 62) (kq := 15) ⟨by decide, rfl⟩ rfl rfl rfl rfl (xe_mono (C_X11_findRules_256 s0 hG0 (hJ0.fl f0 (by decide +kernel)) b (by first | exact x_rb b_b rfl rfl | exact ⟨by omega, by omega⟩)) ?_)
  rintro s353 v ⟨hG_s353, t_s353, rfl⟩
  have f_s353 : FL [5312, 5376, 4123] s0 s353 := f0.tr t_s353 (by decide +kernel)
  show xe none 171 7 [(3, vi 0), (0, .ref 256), (1, vi a), (2, vi b)] [] s353 0 0 _
  refine x_A k171_7 (fun _ => rfl) ?_
  refine x_istore k171_8 (ls' := [(4, vi 0), (3, vi 0), (0, .ref 256), (1, vi a), (2, vi b)]) (by decide) rfl ?_
  refine x_ls (l := [(0, .ref 256), (1, vi a), (2, vi b), (3, vi 0), (4, vi 0)]) (show ([0, 1, 2, 3, 4] : List Nat).Nodup from by decide +kernel) ⟨rfl, rfl, rfl, rfl, rfl, trivial⟩ ?_
  exact L_C_X11_lacks_256_10 s0 hJ0  (((64 - 0) + 1 : Int)).toNat s353 a b 0 0 hG_s353 f_s353 (by first | exact x_rb b_a rfl rfl | exact ⟨by omega, by omega⟩) (by first | exact x_rb b_b rfl rfl | exact ⟨by omega, by omega⟩) ⟨by decide, by decide⟩ ⟨by decide, by decide⟩ (by omega)  (by omega)
theorem C_X11_told_256 (s0 : xS) (hG0 : GI s0) (hJ0 : J s0) (a : Int) (b_a : (-2147483648) ≤ a ∧ a ≤ 2147483647) (b : Int) (b_b : (-2147483648) ≤ b ∧ b ≤ 2147483647) : xe none 158 0 (lv_args 0 [.ref 256, vi a, vi b]) [] s0 0 0 (fun s' v => GI s' ∧ FL [5312, 5376, 4123, 5440, 5504, 5568] s0 s' ∧ ∃ z, v = some (vi z) ∧ ((-1004) ≤ z ∧ z ≤ 120)) := by
  have f0 : FL [5312, 5376, 4123, 5440, 5504, 5568] s0 s0 := FL.rf
  show xe none 158 0 [(0, .ref 256), (1, vi a), (2, vi b)] [] s0 0 0 _
  refine x_A k158_0 (fun _ => rfl) ?_
  refine x_A k158_1 (fun _ => rfl) ?_
  obtain ⟨z1, e_z1⟩ : ∃ z, z = s0 256 10 := ⟨_, rfl⟩
  have g_z1 : (0 : Int) ≤ s0 256 10 ∧ s0 256 10 ≤ 120 := hG0 256 10
  refine x_callV k158_2 (y := 152) (n := 1) (w0 := 0) (w1 := 1) (as := [vi a]) (rest := []) (by decide +kernel) (q := 256) (nq := 62) (kq := 15) ⟨by decide, rfl⟩ rfl rfl rfl rfl (xe_mono (C_X11_isGiving_256 s0 hG0 a (by first | exact x_rb b_a rfl rfl | exact ⟨by omega, by omega⟩)) ?_)
  rintro s3 v ⟨h_s3, z2, rfl, hz_z2⟩
  rw [h_s3]
  rcases hz_z2 with ⟨c_z2, e_z2⟩ | ⟨c_z2, e_z2⟩
  · rw [e_z2]
    show xe none 158 5 [(0, .ref 256), (1, vi a), (2, vi b)] [vi 1] s0 0 0 _
    refine x_if_ne k158_5 (t := 12) rfl ⟨by decide, by decide⟩ (fun c4 => ?_) (fun c4 => by exfalso; omega)
    refine x_A k158_12 (fun _ => rfl) ?_
    refine x_callV k158_13 (y := 166) (n := 0) (w0 := 0) (w1 := 0) (as := []) (rest := []) (by decide +kernel) (q := 256) (nq := 62) (kq := 15) ⟨by decide, rfl⟩ rfl rfl rfl rfl (xe_mono (C_X11_findWrong_256 s0 hG0 (hJ0.fl f0 (by decide +kernel))) ?_)
    rintro s6 v ⟨hG_s6, t_s6, rfl⟩
    have f_s6 : FL [5312, 5376, 4123, 5440, 5504, 5568] s0 s6 := f0.tr t_s6 (by decide +kernel)
    have q7 : s6 256 10 = z1 := (t_s6 256 10 (show 4107 ∉ [5312, 5376, 4123, 5440, 5504, 5568] from by decide +kernel)).trans e_z1.symm
    show xe none 158 16 [(0, .ref 256), (1, vi a), (2, vi b)] [] s6 0 0 _
    refine x_A k158_16 (fun _ => rfl) ?_
    have c8 : b = 0 ∨ b = 1 ∨ b = 2 ∨ b = 3 ∨ b = 4 ∨ b = 5 ∨ b = 6 ∨ ¬ (0 ≤ b ∧ b ≤ 6) := by omega
    rcases c8 with c8 | c8 | c8 | c8 | c8 | c8 | c8 | c8
    · rw [c8]
      refine x_B k158_17 rfl (fun _ => rfl) (fun _ => rfl) (fun _ _ => rfl) ?_
      show xe none 158 60 [(0, .ref 256), (1, vi a), (2, vi 0)] [] s6 0 0 _
      refine x_A k158_60 (fun _ => rfl) ?_
      refine x_getR k158_61 (f := 11) rfl (q := 256) (n := 62) (kd := 15) ⟨by decide, rfl⟩ (q2 := 264) (by decide) rfl ?_
      refine x_A k158_64 (fun _ => rfl) ?_
      refine x_iald k158_65 (q := 264) (n := 120) ⟨by decide, rfl⟩ (by decide) (by first | exact x_rbl b_a rfl rfl | exact ⟨by omega, by omega⟩) ?_
      refine x_top (fun z9 e_z9 => ?_)
      have g_z9 : (0 : Int) ≤ s6 264 a.toNat ∧ s6 264 a.toNat ≤ 39 := hG_s6 264 a.toNat
      exact x_iret k158_66 rfl ⟨hG_s6, f_s6, z9, rfl, (by first | exact x_rbe e_z9 g_z9 rfl rfl | exact x_rb g_z9 rfl rfl | exact ⟨by omega, by omega⟩)⟩
    · rw [c8]
      refine x_B k158_17 rfl (fun _ => rfl) (fun _ => rfl) (fun _ _ => rfl) ?_
      show xe none 158 67 [(0, .ref 256), (1, vi a), (2, vi 1)] [] s6 0 0 _
      refine x_A k158_67 (fun _ => rfl) ?_
      refine x_getR k158_68 (f := 12) rfl (q := 256) (n := 62) (kd := 15) ⟨by decide, rfl⟩ (q2 := 265) (by decide) rfl ?_
      refine x_A k158_71 (fun _ => rfl) ?_
      refine x_iald k158_72 (q := 265) (n := 120) ⟨by decide, rfl⟩ (by decide) (by first | exact x_rbl b_a rfl rfl | exact ⟨by omega, by omega⟩) ?_
      refine x_top (fun z10 e_z10 => ?_)
      have g_z10 : (0 : Int) ≤ s6 265 a.toNat ∧ s6 265 a.toNat ≤ 39 := hG_s6 265 a.toNat
      exact x_iret k158_73 rfl ⟨hG_s6, f_s6, z10, rfl, (by first | exact x_rbe e_z10 g_z10 rfl rfl | exact x_rb g_z10 rfl rfl | exact ⟨by omega, by omega⟩)⟩
    · rw [c8]
      refine x_B k158_17 rfl (fun _ => rfl) (fun _ => rfl) (fun _ _ => rfl) ?_
      show xe none 158 74 [(0, .ref 256), (1, vi a), (2, vi 2)] [] s6 0 0 _
      refine x_A k158_74 (fun _ => rfl) ?_
      refine x_getR k158_75 (f := 13) rfl (q := 256) (n := 62) (kd := 15) ⟨by decide, rfl⟩ (q2 := 266) (by decide) rfl ?_
      refine x_A k158_78 (fun _ => rfl) ?_
      refine x_iald k158_79 (q := 266) (n := 120) ⟨by decide, rfl⟩ (by decide) (by first | exact x_rbl b_a rfl rfl | exact ⟨by omega, by omega⟩) ?_
      refine x_top (fun z11 e_z11 => ?_)
      have g_z11 : (0 : Int) ≤ s6 266 a.toNat ∧ s6 266 a.toNat ≤ 7 := hG_s6 266 a.toNat
      exact x_iret k158_80 rfl ⟨hG_s6, f_s6, z11, rfl, (by first | exact x_rbe e_z11 g_z11 rfl rfl | exact x_rb g_z11 rfl rfl | exact ⟨by omega, by omega⟩)⟩
    · rw [c8]
      refine x_B k158_17 rfl (fun _ => rfl) (fun _ => rfl) (fun _ _ => rfl) ?_
      show xe none 158 81 [(0, .ref 256), (1, vi a), (2, vi 3)] [] s6 0 0 _
      refine x_A k158_81 (fun _ => rfl) ?_
      refine x_getR k158_82 (f := 14) rfl (q := 256) (n := 62) (kd := 15) ⟨by decide, rfl⟩ (q2 := 267) (by decide) rfl ?_
      refine x_A k158_85 (fun _ => rfl) ?_
      refine x_iald k158_86 (q := 267) (n := 120) ⟨by decide, rfl⟩ (by decide) (by first | exact x_rbl b_a rfl rfl | exact ⟨by omega, by omega⟩) ?_
      refine x_top (fun z12 e_z12 => ?_)
      have g_z12 : (0 : Int) ≤ s6 267 a.toNat ∧ s6 267 a.toNat ≤ 63 := hG_s6 267 a.toNat
      exact x_iret k158_87 rfl ⟨hG_s6, f_s6, z12, rfl, (by first | exact x_rbe e_z12 g_z12 rfl rfl | exact x_rb g_z12 rfl rfl | exact ⟨by omega, by omega⟩)⟩
    · rw [c8]
      refine x_B k158_17 rfl (fun _ => rfl) (fun _ => rfl) (fun _ _ => rfl) ?_
      show xe none 158 88 [(0, .ref 256), (1, vi a), (2, vi 4)] [] s6 0 0 _
      refine x_A k158_88 (fun _ => rfl) ?_
      refine x_getR k158_89 (f := 15) rfl (q := 256) (n := 62) (kd := 15) ⟨by decide, rfl⟩ (q2 := 268) (by decide) rfl ?_
      refine x_A k158_92 (fun _ => rfl) ?_
      refine x_iald k158_93 (q := 268) (n := 120) ⟨by decide, rfl⟩ (by decide) (by first | exact x_rbl b_a rfl rfl | exact ⟨by omega, by omega⟩) ?_
      refine x_top (fun z13 e_z13 => ?_)
      have g_z13 : (0 : Int) ≤ s6 268 a.toNat ∧ s6 268 a.toNat ≤ 9 := hG_s6 268 a.toNat
      exact x_iret k158_94 rfl ⟨hG_s6, f_s6, z13, rfl, (by first | exact x_rbe e_z13 g_z13 rfl rfl | exact x_rb g_z13 rfl rfl | exact ⟨by omega, by omega⟩)⟩
    · rw [c8]
      refine x_B k158_17 rfl (fun _ => rfl) (fun _ => rfl) (fun _ _ => rfl) ?_
      show xe none 158 95 [(0, .ref 256), (1, vi a), (2, vi 5)] [] s6 0 0 _
      refine x_A k158_95 (fun _ => rfl) ?_
      refine x_getR k158_96 (f := 27) rfl (q := 256) (n := 62) (kd := 15) ⟨by decide, rfl⟩ (q2 := 277) (by decide) rfl ?_
      refine x_A k158_99 (fun _ => rfl) ?_
      refine x_iald k158_100 (q := 277) (n := 120) ⟨by decide, rfl⟩ (by decide) (by first | exact x_rbl b_a rfl rfl | exact ⟨by omega, by omega⟩) ?_
      refine x_top (fun z14 e_z14 => ?_)
      have g_z14 : (0 : Int) ≤ s6 277 a.toNat ∧ s6 277 a.toNat ≤ 4 := hG_s6 277 a.toNat
      exact x_iret k158_101 rfl ⟨hG_s6, f_s6, z14, rfl, (by first | exact x_rbe e_z14 g_z14 rfl rfl | exact x_rb g_z14 rfl rfl | exact ⟨by omega, by omega⟩)⟩
    · rw [c8]
      refine x_B k158_17 rfl (fun _ => rfl) (fun _ => rfl) (fun _ _ => rfl) ?_
      show xe none 158 102 [(0, .ref 256), (1, vi a), (2, vi 6)] [] s6 0 0 _
      refine x_A k158_102 (fun _ => rfl) ?_
      refine x_A k158_103 (fun _ => rfl) ?_
      refine x_A k158_104 (fun _ => rfl) ?_
      refine x_getI k158_105 (f := 0) rfl (q := 256) (n := 62) (kd := 15) ⟨by decide, rfl⟩ (by decide) rfl ?_
      refine x_top (fun z15 e_z15 => ?_)
      have g_z15 : (0 : Int) ≤ s6 256 0 ∧ s6 256 0 ≤ 9 := hG_s6 256 0
      refine x_callV k158_108 (y := 156) (n := 2) (w0 := 0) (w1 := 2) (as := [vi a, vi z15]) (rest := []) (by decide +kernel) (q := 256) (nq := 62) (kq := 15) ⟨by decide, rfl⟩ rfl rfl rfl rfl (xe_mono (C_X11_doubts_256 s6 hG_s6 a (by first | exact x_rb b_a rfl rfl | exact ⟨by omega, by omega⟩) z15 (by first | exact x_rbe e_z15 g_z15 rfl rfl | exact x_rb g_z15 rfl rfl | exact ⟨by omega, by omega⟩)) ?_)
      rintro s17 v ⟨-, t_s17, z16, rfl, g_z16⟩
      rw [t_s17.nil]
      show xe none 158 111 [(0, .ref 256), (1, vi a), (2, vi 6)] [vi z16] s6 0 0 _
      exact x_iret k158_111 rfl ⟨hG_s6, f_s6, z16, rfl, (by first | exact x_rbe e_z16 g_z16 rfl rfl | exact x_rb g_z16 rfl rfl | exact ⟨by omega, by omega⟩)⟩
    · refine x_tabD k158_17 ⟨by omega, by omega⟩ c8 (t0 := 112) rfl ?_
      refine x_sipush k158_112 (by decide +kernel) ?_
      exact x_iret k158_115 rfl ⟨hG_s6, f_s6, (-1002), rfl, ⟨by decide, by decide⟩⟩
  · rw [e_z2]
    show xe none 158 5 [(0, .ref 256), (1, vi a), (2, vi b)] [vi 0] s0 0 0 _
    refine x_if_ne k158_5 (t := 12) rfl ⟨by decide, by decide⟩ (fun c18 => by exfalso; omega) (fun c18 => ?_)
    refine x_sipush k158_8 (by decide +kernel) ?_
    exact x_iret k158_11 rfl ⟨hG0, f0, (-1001), rfl, ⟨by decide, by decide⟩⟩
theorem C_X11_tree_256 (s0 : xS) (hG0 : GI s0) (hJ0 : J s0) (a : Int) (b_a : (-2147483648) ≤ a ∧ a ≤ 2147483647) (b : Int) (b_b : (-2147483648) ≤ b ∧ b ≤ 2147483647) (d : Int) (b_d : (-2147483648) ≤ d ∧ d ≤ 2147483647) : xe none 149 0 (lv_args 0 [.ref 256, vi a, vi b, vi d]) [] s0 0 0 (fun s' v => GI s' ∧ FL [5312, 5376, 4123, 5440, 5504, 5568, 5632, 5696, 5760] s0 s' ∧ ∃ z, v = some (vi z) ∧ ((-1004) ≤ z ∧ z ≤ 120)) := by
  have f0 : FL [5312, 5376, 4123, 5440, 5504, 5568, 5632, 5696, 5760] s0 s0 := FL.rf
  show xe none 149 0 [(0, .ref 256), (1, vi a), (2, vi b), (3, vi d)] [] s0 0 0 _
  refine x_A k149_0 (fun _ => rfl) ?_
  refine x_A k149_1 (fun _ => rfl) ?_
  obtain ⟨z1, e_z1⟩ : ∃ z, z = s0 256 1 := ⟨_, rfl⟩
  have g_z1 : (1 : Int) ≤ s0 256 1 ∧ s0 256 1 ≤ 40 := hG0 256 1
  refine x_callV k149_2 (y := 137) (n := 1) (w0 := 0) (w1 := 1) (as := [vi a]) (rest := []) (by decide +kernel) (q := 256) (nq := 62) (kq := 15) ⟨by decide, rfl⟩ rfl rfl rfl rfl (xe_mono (C_X11_isMark_256 s0 hG0 a (by first | exact x_rb b_a rfl rfl | exact ⟨by omega, by omega⟩)) ?_)
  rintro s3 v ⟨h_s3, z2, rfl, hz_z2⟩
  rw [h_s3]
  rcases hz_z2 with ⟨c_z2, e_z2⟩ | ⟨c_z2, e_z2⟩
  · rw [e_z2]
    show xe none 149 5 [(0, .ref 256), (1, vi a), (2, vi b), (3, vi d)] [vi 1] s0 0 0 _
    refine x_if_ne k149_5 (t := 12) rfl ⟨by decide, by decide⟩ (fun c4 => ?_) (fun c4 => by exfalso; omega)
    refine x_A k149_12 (fun _ => rfl) ?_
    refine x_A k149_13 (fun _ => rfl) ?_
    obtain ⟨z5, e_z5⟩ : ∃ z, z = s0 256 0 := ⟨_, rfl⟩
    have g_z5 : (0 : Int) ≤ s0 256 0 ∧ s0 256 0 ≤ 9 := hG0 256 0
    refine x_callV k149_14 (y := 138) (n := 1) (w0 := 0) (w1 := 1) (as := [vi b]) (rest := []) (by decide +kernel) (q := 256) (nq := 62) (kq := 15) ⟨by decide, rfl⟩ rfl rfl rfl rfl (xe_mono (C_X11_isEdition_256 s0 hG0 b (by first | exact x_rb b_b rfl rfl | exact ⟨by omega, by omega⟩)) ?_)
    rintro s7 v ⟨h_s7, z6, rfl, hz_z6⟩
    rw [h_s7]
    rcases hz_z6 with ⟨c_z6, e_z6⟩ | ⟨c_z6, e_z6⟩
    · rw [e_z6]
      show xe none 149 17 [(0, .ref 256), (1, vi a), (2, vi b), (3, vi d)] [vi 1] s0 0 0 _
      refine x_if_eq k149_17 (t := 32) rfl ⟨by decide, by decide⟩ (fun c8 => by exfalso; omega) (fun c8 => ?_)
      refine x_A k149_20 (fun _ => rfl) ?_
      refine x_i2l k149_21 (by first | exact x_rb b_d rfl rfl | exact ⟨by omega, by omega⟩) ?_
      refine x_lconst k149_22 (z := 0) (by decide +kernel) ?_
      refine x_ldc2 k149_23 (z := 6) rfl (by decide +kernel) ?_
      refine x_callS k149_26 (y := 136) (n := 3) (w0 := 0) (w1 := 6) (as := [vj d, vj 0, vj 6]) (rest := []) (by decide +kernel) rfl rfl rfl rfl (xe_mono (C_X11_in s0 hG0 d ⟨by omega, by omega⟩ 0 ⟨by omega, by omega⟩ 6 ⟨by omega, by omega⟩) ?_)
      rintro s10 v ⟨h_s10, z9, rfl, hz_z9⟩
      rw [h_s10]
      rcases hz_z9 with ⟨c_z9, e_z9⟩ | ⟨c_z9, e_z9⟩
      · rw [e_z9]
        show xe none 149 29 [(0, .ref 256), (1, vi a), (2, vi b), (3, vi d)] [vi 1] s0 0 0 _
        refine x_if_ne k149_29 (t := 36) rfl ⟨by decide, by decide⟩ (fun c11 => ?_) (fun c11 => by exfalso; omega)
        refine x_A k149_36 (fun _ => rfl) ?_
        have c12 : d = 0 ∨ d = 1 ∨ d = 2 ∨ d = 3 ∨ d = 4 ∨ d = 5 ∨ ¬ (0 ≤ d ∧ d ≤ 5) := by omega
        rcases c12 with c12 | c12 | c12 | c12 | c12 | c12 | c12
        · rw [c12]
          refine x_B k149_37 rfl (fun _ => rfl) (fun _ => rfl) (fun _ _ => rfl) ?_
          show xe none 149 76 [(0, .ref 256), (1, vi a), (2, vi b), (3, vi 0)] [] s0 0 0 _
          refine x_A k149_76 (fun _ => rfl) ?_
          refine x_A k149_77 (fun _ => rfl) ?_
          refine x_A k149_78 (fun _ => rfl) ?_
          refine x_callV k149_79 (y := 142) (n := 2) (w0 := 0) (w1 := 2) (as := [vi a, vi b]) (rest := []) (by decide +kernel) (q := 256) (nq := 62) (kq := 15) ⟨by decide, rfl⟩ rfl rfl rfl rfl (xe_mono (C_X11_isThere_256 s0 hG0 a (by first | exact x_rb b_a rfl rfl | exact ⟨by omega, by omega⟩) b (by first | exact x_rb b_b rfl rfl | exact ⟨by omega, by omega⟩)) ?_)
          rintro s14 v ⟨h_s14, z13, rfl, hz_z13⟩
          rw [h_s14]
          rcases hz_z13 with ⟨c_z13, e_z13, m_z13⟩ | ⟨e_z13, m_z13⟩
          · rw [e_z13]
            show xe none 149 82 [(0, .ref 256), (1, vi a), (2, vi b), (3, vi 0)] [vi 1] s0 0 0 _
            refine x_if_eq k149_82 (t := 89) rfl ⟨by decide, by decide⟩ (fun c15 => by exfalso; omega) (fun c15 => ?_)
            refine x_A k149_85 (fun _ => rfl) ?_
            refine x_goto k149_86 (t := 90) rfl ?_
            exact x_iret k149_90 rfl ⟨hG0, f0, 1, rfl, ⟨by decide, by decide⟩⟩
          · rw [e_z13]
            show xe none 149 82 [(0, .ref 256), (1, vi a), (2, vi b), (3, vi 0)] [vi 0] s0 0 0 _
            refine x_if_eq k149_82 (t := 89) rfl ⟨by decide, by decide⟩ (fun c16 => ?_) (fun c16 => by exfalso; omega)
            refine x_A k149_89 (fun _ => rfl) ?_
            exact x_iret k149_90 rfl ⟨hG0, f0, 0, rfl, ⟨by decide, by decide⟩⟩
        · rw [c12]
          refine x_B k149_37 rfl (fun _ => rfl) (fun _ => rfl) (fun _ _ => rfl) ?_
          show xe none 149 91 [(0, .ref 256), (1, vi a), (2, vi b), (3, vi 1)] [] s0 0 0 _
          refine x_A k149_91 (fun _ => rfl) ?_
          refine x_A k149_92 (fun _ => rfl) ?_
          refine x_A k149_93 (fun _ => rfl) ?_
          refine x_callV k149_94 (y := 141) (n := 2) (w0 := 0) (w1 := 2) (as := [vi a, vi b]) (rest := []) (by decide +kernel) (q := 256) (nq := 62) (kq := 15) ⟨by decide, rfl⟩ rfl rfl rfl rfl (xe_mono (C_X11_isTold_256 s0 hG0 a (by first | exact x_rb b_a rfl rfl | exact ⟨by omega, by omega⟩) b (by first | exact x_rb b_b rfl rfl | exact ⟨by omega, by omega⟩)) ?_)
          rintro s18 v ⟨h_s18, z17, rfl, hz_z17⟩
          rw [h_s18]
          rcases hz_z17 with ⟨c_z17, e_z17, m_z17⟩ | ⟨e_z17, m_z17⟩
          · rw [e_z17]
            show xe none 149 97 [(0, .ref 256), (1, vi a), (2, vi b), (3, vi 1)] [vi 1] s0 0 0 _
            refine x_if_eq k149_97 (t := 114) rfl ⟨by decide, by decide⟩ (fun c19 => by exfalso; omega) (fun c19 => ?_)
            refine x_A k149_100 (fun _ => rfl) ?_
            refine x_getR k149_101 (f := 5) rfl (q := 256) (n := 62) (kd := 15) ⟨by decide, rfl⟩ (q2 := 260) (by decide) rfl ?_
            refine x_bipush k149_104 (by decide +kernel) ?_
            refine x_A k149_106 (fun _ => rfl) ?_
            refine x_imul k149_107 ?_
            refine x_top (fun z20 e_z20 => ?_)
            refine x_A k149_108 (fun _ => rfl) ?_
            refine x_iadd k149_109 ?_
            refine x_top (fun z21 e_z21 => ?_)
            refine x_iald k149_110 (q := 260) (n := 400) ⟨by decide, rfl⟩ (by decide) (by first | exact x_rbel e_z21 g_z21 rfl rfl | exact x_rbl g_z21 rfl rfl | exact ⟨by omega, by omega⟩) ?_
            refine x_top (fun z22 e_z22 => ?_)
            have g_z22 : (-1) ≤ s0 260 z21.toNat ∧ s0 260 z21.toNat ≤ 39 := hG0 260 z21.toNat
            refine x_goto k149_111 (t := 115) rfl ?_
            exact x_iret k149_115 rfl ⟨hG0, f0, z22, rfl, (by first | exact x_rbe e_z22 g_z22 rfl rfl | exact x_rb g_z22 rfl rfl | exact ⟨by omega, by omega⟩)⟩
          · rw [e_z17]
            show xe none 149 97 [(0, .ref 256), (1, vi a), (2, vi b), (3, vi 1)] [vi 0] s0 0 0 _
            refine x_if_eq k149_97 (t := 114) rfl ⟨by decide, by decide⟩ (fun c23 => ?_) (fun c23 => by exfalso; omega)
            refine x_A k149_114 (fun _ => rfl) ?_
            exact x_iret k149_115 rfl ⟨hG0, f0, (-1), rfl, ⟨by decide, by decide⟩⟩
        · rw [c12]
          refine x_B k149_37 rfl (fun _ => rfl) (fun _ => rfl) (fun _ _ => rfl) ?_
          show xe none 149 116 [(0, .ref 256), (1, vi a), (2, vi b), (3, vi 2)] [] s0 0 0 _
          refine x_A k149_116 (fun _ => rfl) ?_
          refine x_A k149_117 (fun _ => rfl) ?_
          refine x_A k149_118 (fun _ => rfl) ?_
          refine x_callV k149_119 (y := 144) (n := 2) (w0 := 0) (w1 := 2) (as := [vi a, vi b]) (rest := []) (by decide +kernel) (q := 256) (nq := 62) (kq := 15) ⟨by decide, rfl⟩ rfl rfl rfl rfl (xe_mono (C_X11_belowMany_256 s0 hG0 (hJ0.fl f0 (by decide +kernel)) a (by first | exact x_rb b_a rfl rfl | exact ⟨by omega, by omega⟩) b (by first | exact x_rb b_b rfl rfl | exact ⟨by omega, by omega⟩)) ?_)
          rintro s25 v ⟨-, t_s25, z24, rfl, g_z24⟩
          rw [t_s25.nil]
          show xe none 149 122 [(0, .ref 256), (1, vi a), (2, vi b), (3, vi 2)] [vi z24] s0 0 0 _
          exact x_iret k149_122 rfl ⟨hG0, f0, z24, rfl, (by first | exact x_rbe e_z24 g_z24 rfl rfl | exact x_rb g_z24 rfl rfl | exact ⟨by omega, by omega⟩)⟩
        · rw [c12]
          refine x_B k149_37 rfl (fun _ => rfl) (fun _ => rfl) (fun _ _ => rfl) ?_
          show xe none 149 123 [(0, .ref 256), (1, vi a), (2, vi b), (3, vi 3)] [] s0 0 0 _
          refine x_A k149_123 (fun _ => rfl) ?_
          refine x_getR k149_124 (f := 4) rfl (q := 256) (n := 62) (kd := 15) ⟨by decide, rfl⟩ (q2 := 259) (by decide) rfl ?_
          refine x_A k149_127 (fun _ => rfl) ?_
          refine x_iald k149_128 (q := 259) (n := 40) ⟨by decide, rfl⟩ (by decide) (by first | exact x_rbl b_a rfl rfl | exact ⟨by omega, by omega⟩) ?_
          refine x_top (fun z26 e_z26 => ?_)
          have g_z26 : (-1) ≤ s0 259 a.toNat ∧ s0 259 a.toNat ≤ 39 := hG0 259 a.toNat
          exact x_iret k149_129 rfl ⟨hG0, f0, z26, rfl, (by first | exact x_rbe e_z26 g_z26 rfl rfl | exact x_rb g_z26 rfl rfl | exact ⟨by omega, by omega⟩)⟩
        · rw [c12]
          refine x_B k149_37 rfl (fun _ => rfl) (fun _ => rfl) (fun _ _ => rfl) ?_
          show xe none 149 130 [(0, .ref 256), (1, vi a), (2, vi b), (3, vi 4)] [] s0 0 0 _
          refine x_A k149_130 (fun _ => rfl) ?_
          refine x_getR k149_131 (f := 2) rfl (q := 256) (n := 62) (kd := 15) ⟨by decide, rfl⟩ (q2 := 257) (by decide) rfl ?_
          refine x_A k149_134 (fun _ => rfl) ?_
          refine x_iald k149_135 (q := 257) (n := 40) ⟨by decide, rfl⟩ (by decide) (by first | exact x_rbl b_a rfl rfl | exact ⟨by omega, by omega⟩) ?_
          refine x_top (fun z27 e_z27 => ?_)
          have g_z27 : (0 : Int) ≤ s0 257 a.toNat ∧ s0 257 a.toNat ≤ 9 := hG0 257 a.toNat
          exact x_iret k149_136 rfl ⟨hG0, f0, z27, rfl, (by first | exact x_rbe e_z27 g_z27 rfl rfl | exact x_rb g_z27 rfl rfl | exact ⟨by omega, by omega⟩)⟩
        · rw [c12]
          refine x_B k149_37 rfl (fun _ => rfl) (fun _ => rfl) (fun _ _ => rfl) ?_
          show xe none 149 137 [(0, .ref 256), (1, vi a), (2, vi b), (3, vi 5)] [] s0 0 0 _
          refine x_A k149_137 (fun _ => rfl) ?_
          refine x_getR k149_138 (f := 3) rfl (q := 256) (n := 62) (kd := 15) ⟨by decide, rfl⟩ (q2 := 258) (by decide) rfl ?_
          refine x_A k149_141 (fun _ => rfl) ?_
          refine x_iald k149_142 (q := 258) (n := 40) ⟨by decide, rfl⟩ (by decide) (by first | exact x_rbl b_a rfl rfl | exact ⟨by omega, by omega⟩) ?_
          refine x_top (fun z28 e_z28 => ?_)
          have g_z28 : (-1) ≤ s0 258 a.toNat ∧ s0 258 a.toNat ≤ 9 := hG0 258 a.toNat
          exact x_iret k149_143 rfl ⟨hG0, f0, z28, rfl, (by first | exact x_rbe e_z28 g_z28 rfl rfl | exact x_rb g_z28 rfl rfl | exact ⟨by omega, by omega⟩)⟩
        · refine x_tabD k149_37 ⟨by omega, by omega⟩ c12 (t0 := 144) rfl ?_
          refine x_A k149_144 (fun _ => rfl) ?_
          refine x_A k149_145 (fun _ => rfl) ?_
          refine x_A k149_146 (fun _ => rfl) ?_
          refine x_callV k149_147 (y := 170) (n := 2) (w0 := 0) (w1 := 2) (as := [vi a, vi b]) (rest := []) (by decide +kernel) (q := 256) (nq := 62) (kq := 15) ⟨by decide, rfl⟩ rfl rfl rfl rfl (xe_mono (C_X11_showing_256 s0 hG0 (hJ0.fl f0 (by decide +kernel)) a (by first | exact x_rb b_a rfl rfl | exact ⟨by omega, by omega⟩) b (by first | exact x_rb b_b rfl rfl | exact ⟨by omega, by omega⟩)) ?_)
          rintro s30 v ⟨hG_s30, t_s30, z29, rfl, g_z29⟩
          have f_s30 : FL [5312, 5376, 4123, 5440, 5504, 5568, 5632, 5696, 5760] s0 s30 := f0.tr t_s30 (by decide +kernel)
          have q31 : s30 256 1 = z1 := (t_s30 256 1 (show 4098 ∉ [5312, 5376, 4123, 5440, 5504, 5568, 5632, 5696, 5760] from by decide +kernel)).trans e_z1.symm
          have q32 : s30 256 0 = z5 := (t_s30 256 0 (show 4097 ∉ [5312, 5376, 4123, 5440, 5504, 5568, 5632, 5696, 5760] from by decide +kernel)).trans e_z5.symm
          show xe none 149 150 [(0, .ref 256), (1, vi a), (2, vi b), (3, vi d)] [vi z29] s30 0 0 _
          exact x_iret k149_150 rfl ⟨hG_s30, f_s30, z29, rfl, (by first | exact x_rbe e_z29 g_z29 rfl rfl | exact x_rb g_z29 rfl rfl | exact ⟨by omega, by omega⟩)⟩
      · rw [e_z9]
        show xe none 149 29 [(0, .ref 256), (1, vi a), (2, vi b), (3, vi d)] [vi 0] s0 0 0 _
        refine x_if_ne k149_29 (t := 36) rfl ⟨by decide, by decide⟩ (fun c33 => by exfalso; omega) (fun c33 => ?_)
        refine x_sipush k149_32 (by decide +kernel) ?_
        exact x_iret k149_35 rfl ⟨hG0, f0, (-1002), rfl, ⟨by decide, by decide⟩⟩
    · rw [e_z6]
      show xe none 149 17 [(0, .ref 256), (1, vi a), (2, vi b), (3, vi d)] [vi 0] s0 0 0 _
      refine x_if_eq k149_17 (t := 32) rfl ⟨by decide, by decide⟩ (fun c34 => ?_) (fun c34 => by exfalso; omega)
      refine x_sipush k149_32 (by decide +kernel) ?_
      exact x_iret k149_35 rfl ⟨hG0, f0, (-1002), rfl, ⟨by decide, by decide⟩⟩
  · rw [e_z2]
    show xe none 149 5 [(0, .ref 256), (1, vi a), (2, vi b), (3, vi d)] [vi 0] s0 0 0 _
    refine x_if_ne k149_5 (t := 12) rfl ⟨by decide, by decide⟩ (fun c35 => by exfalso; omega) (fun c35 => ?_)
    refine x_sipush k149_8 (by decide +kernel) ?_
    exact x_iret k149_11 rfl ⟨hG0, f0, (-1001), rfl, ⟨by decide, by decide⟩⟩
theorem C_X11_below_256 (s0 : xS) (hG0 : GI s0) (hJ0 : J s0) (a : Int) (b_a : (-2147483648) ≤ a ∧ a ≤ 2147483647) (b : Int) (b_b : (-2147483648) ≤ b ∧ b ≤ 2147483647) (d : Int) (b_d : (-2147483648) ≤ d ∧ d ≤ 2147483647) : xe none 150 0 (lv_args 0 [.ref 256, vi a, vi b, vi d]) [] s0 0 0 (fun s' v => GI s' ∧ FL [] s0 s' ∧ ∃ z, v = some (vi z) ∧ ((-1004) ≤ z ∧ z ≤ 120)) := by
  have f0 : FL [] s0 s0 := FL.rf
  show xe none 150 0 [(0, .ref 256), (1, vi a), (2, vi b), (3, vi d)] [] s0 0 0 _
  refine x_A k150_0 (fun _ => rfl) ?_
  refine x_A k150_1 (fun _ => rfl) ?_
  obtain ⟨z1, e_z1⟩ : ∃ z, z = s0 256 1 := ⟨_, rfl⟩
  have g_z1 : (1 : Int) ≤ s0 256 1 ∧ s0 256 1 ≤ 40 := hG0 256 1
  refine x_callV k150_2 (y := 137) (n := 1) (w0 := 0) (w1 := 1) (as := [vi a]) (rest := []) (by decide +kernel) (q := 256) (nq := 62) (kq := 15) ⟨by decide, rfl⟩ rfl rfl rfl rfl (xe_mono (C_X11_isMark_256 s0 hG0 a (by first | exact x_rb b_a rfl rfl | exact ⟨by omega, by omega⟩)) ?_)
  rintro s3 v ⟨h_s3, z2, rfl, hz_z2⟩
  rw [h_s3]
  rcases hz_z2 with ⟨c_z2, e_z2⟩ | ⟨c_z2, e_z2⟩
  · rw [e_z2]
    show xe none 150 5 [(0, .ref 256), (1, vi a), (2, vi b), (3, vi d)] [vi 1] s0 0 0 _
    refine x_if_eq k150_5 (t := 16) rfl ⟨by decide, by decide⟩ (fun c4 => by exfalso; omega) (fun c4 => ?_)
    refine x_A k150_8 (fun _ => rfl) ?_
    refine x_A k150_9 (fun _ => rfl) ?_
    refine x_callV k150_10 (y := 137) (n := 1) (w0 := 0) (w1 := 1) (as := [vi b]) (rest := []) (by decide +kernel) (q := 256) (nq := 62) (kq := 15) ⟨by decide, rfl⟩ rfl rfl rfl rfl (xe_mono (C_X11_isMark_256 s0 hG0 b (by first | exact x_rb b_b rfl rfl | exact ⟨by omega, by omega⟩)) ?_)
    rintro s6 v ⟨h_s6, z5, rfl, hz_z5⟩
    rw [h_s6]
    rcases hz_z5 with ⟨c_z5, e_z5⟩ | ⟨c_z5, e_z5⟩
    · rw [e_z5]
      show xe none 150 13 [(0, .ref 256), (1, vi a), (2, vi b), (3, vi d)] [vi 1] s0 0 0 _
      refine x_if_ne k150_13 (t := 20) rfl ⟨by decide, by decide⟩ (fun c7 => ?_) (fun c7 => by exfalso; omega)
      refine x_A k150_20 (fun _ => rfl) ?_
      refine x_A k150_21 (fun _ => rfl) ?_
      obtain ⟨z8, e_z8⟩ : ∃ z, z = s0 256 0 := ⟨_, rfl⟩
      have g_z8 : (0 : Int) ≤ s0 256 0 ∧ s0 256 0 ≤ 9 := hG0 256 0
      refine x_callV k150_22 (y := 138) (n := 1) (w0 := 0) (w1 := 1) (as := [vi d]) (rest := []) (by decide +kernel) (q := 256) (nq := 62) (kq := 15) ⟨by decide, rfl⟩ rfl rfl rfl rfl (xe_mono (C_X11_isEdition_256 s0 hG0 d (by first | exact x_rb b_d rfl rfl | exact ⟨by omega, by omega⟩)) ?_)
      rintro s10 v ⟨h_s10, z9, rfl, hz_z9⟩
      rw [h_s10]
      rcases hz_z9 with ⟨c_z9, e_z9⟩ | ⟨c_z9, e_z9⟩
      · rw [e_z9]
        show xe none 150 25 [(0, .ref 256), (1, vi a), (2, vi b), (3, vi d)] [vi 1] s0 0 0 _
        refine x_if_ne k150_25 (t := 32) rfl ⟨by decide, by decide⟩ (fun c11 => ?_) (fun c11 => by exfalso; omega)
        refine x_A k150_32 (fun _ => rfl) ?_
        refine x_A k150_33 (fun _ => rfl) ?_
        refine x_A k150_34 (fun _ => rfl) ?_
        refine x_A k150_35 (fun _ => rfl) ?_
        refine x_callV k150_36 (y := 143) (n := 3) (w0 := 0) (w1 := 3) (as := [vi a, vi b, vi d]) (rest := []) (by decide +kernel) (q := 256) (nq := 62) (kq := 15) ⟨by decide, rfl⟩ rfl rfl rfl rfl (xe_mono (C_X11_isBelow_256 s0 hG0 (hJ0.fl f0 (by decide +kernel)) a (by first | exact x_rb b_a rfl rfl | exact ⟨by omega, by omega⟩) b (by first | exact x_rb b_b rfl rfl | exact ⟨by omega, by omega⟩) d (by first | exact x_rb b_d rfl rfl | exact ⟨by omega, by omega⟩)) ?_)
        rintro s13 v ⟨-, t_s13, z12, rfl, g_z12⟩
        rw [t_s13.nil]
        show xe none 150 39 [(0, .ref 256), (1, vi a), (2, vi b), (3, vi d)] [vi z12] s0 0 0 _
        refine x_if_eq k150_39 (t := 46) rfl (by first | exact x_rbe e_z12 g_z12 rfl rfl | exact x_rb g_z12 rfl rfl | exact ⟨by omega, by omega⟩) (fun c14 => ?_) (fun c14 => ?_)
        · skip
          refine x_A k150_46 (fun _ => rfl) ?_
          exact x_iret k150_47 rfl ⟨hG0, f0, 0, rfl, ⟨by decide, by decide⟩⟩
        · skip
          refine x_A k150_42 (fun _ => rfl) ?_
          refine x_goto k150_43 (t := 47) rfl ?_
          exact x_iret k150_47 rfl ⟨hG0, f0, 1, rfl, ⟨by decide, by decide⟩⟩
      · rw [e_z9]
        show xe none 150 25 [(0, .ref 256), (1, vi a), (2, vi b), (3, vi d)] [vi 0] s0 0 0 _
        refine x_if_ne k150_25 (t := 32) rfl ⟨by decide, by decide⟩ (fun c15 => by exfalso; omega) (fun c15 => ?_)
        refine x_sipush k150_28 (by decide +kernel) ?_
        exact x_iret k150_31 rfl ⟨hG0, f0, (-1002), rfl, ⟨by decide, by decide⟩⟩
    · rw [e_z5]
      show xe none 150 13 [(0, .ref 256), (1, vi a), (2, vi b), (3, vi d)] [vi 0] s0 0 0 _
      refine x_if_ne k150_13 (t := 20) rfl ⟨by decide, by decide⟩ (fun c16 => by exfalso; omega) (fun c16 => ?_)
      refine x_sipush k150_16 (by decide +kernel) ?_
      exact x_iret k150_19 rfl ⟨hG0, f0, (-1001), rfl, ⟨by decide, by decide⟩⟩
  · rw [e_z2]
    show xe none 150 5 [(0, .ref 256), (1, vi a), (2, vi b), (3, vi d)] [vi 0] s0 0 0 _
    refine x_if_eq k150_5 (t := 16) rfl ⟨by decide, by decide⟩ (fun c17 => ?_) (fun c17 => by exfalso; omega)
    refine x_sipush k150_16 (by decide +kernel) ?_
    exact x_iret k150_19 rfl ⟨hG0, f0, (-1001), rfl, ⟨by decide, by decide⟩⟩
theorem C_X11_means_256 (s0 : xS) (hG0 : GI s0) (hJ0 : J s0) (a : Int) (b_a : (-2147483648) ≤ a ∧ a ≤ 2147483647) (b : Int) (b_b : (-2147483648) ≤ b ∧ b ≤ 2147483647) (d : Int) (b_d : (-2147483648) ≤ d ∧ d ≤ 2147483647) : xe none 172 0 (lv_args 0 [.ref 256, vi a, vi b, vi d]) [] s0 0 0 (fun s' v => GI s' ∧ FL [5312, 5376, 4123, 5440, 5504, 5568, 5632, 5696, 5760] s0 s' ∧ ∃ z, v = some (vi z) ∧ ((-1004) ≤ z ∧ z ≤ 120)) := by
  have f0 : FL [5312, 5376, 4123, 5440, 5504, 5568, 5632, 5696, 5760] s0 s0 := FL.rf
  show xe none 172 0 [(0, .ref 256), (1, vi a), (2, vi b), (3, vi d)] [] s0 0 0 _
  refine x_A k172_0 (fun _ => rfl) ?_
  refine x_A k172_1 (fun _ => rfl) ?_
  obtain ⟨z1, e_z1⟩ : ∃ z, z = s0 256 10 := ⟨_, rfl⟩
  have g_z1 : (0 : Int) ≤ s0 256 10 ∧ s0 256 10 ≤ 120 := hG0 256 10
  refine x_callV k172_2 (y := 152) (n := 1) (w0 := 0) (w1 := 1) (as := [vi a]) (rest := []) (by decide +kernel) (q := 256) (nq := 62) (kq := 15) ⟨by decide, rfl⟩ rfl rfl rfl rfl (xe_mono (C_X11_isGiving_256 s0 hG0 a (by first | exact x_rb b_a rfl rfl | exact ⟨by omega, by omega⟩)) ?_)
  rintro s3 v ⟨h_s3, z2, rfl, hz_z2⟩
  rw [h_s3]
  rcases hz_z2 with ⟨c_z2, e_z2⟩ | ⟨c_z2, e_z2⟩
  · rw [e_z2]
    show xe none 172 5 [(0, .ref 256), (1, vi a), (2, vi b), (3, vi d)] [vi 1] s0 0 0 _
    refine x_if_ne k172_5 (t := 12) rfl ⟨by decide, by decide⟩ (fun c4 => ?_) (fun c4 => by exfalso; omega)
    refine x_A k172_12 (fun _ => rfl) ?_
    refine x_A k172_13 (fun _ => rfl) ?_
    obtain ⟨z5, e_z5⟩ : ∃ z, z = s0 256 0 := ⟨_, rfl⟩
    have g_z5 : (0 : Int) ≤ s0 256 0 ∧ s0 256 0 ≤ 9 := hG0 256 0
    refine x_callV k172_14 (y := 138) (n := 1) (w0 := 0) (w1 := 1) (as := [vi b]) (rest := []) (by decide +kernel) (q := 256) (nq := 62) (kq := 15) ⟨by decide, rfl⟩ rfl rfl rfl rfl (xe_mono (C_X11_isEdition_256 s0 hG0 b (by first | exact x_rb b_b rfl rfl | exact ⟨by omega, by omega⟩)) ?_)
    rintro s7 v ⟨h_s7, z6, rfl, hz_z6⟩
    rw [h_s7]
    rcases hz_z6 with ⟨c_z6, e_z6⟩ | ⟨c_z6, e_z6⟩
    · rw [e_z6]
      show xe none 172 17 [(0, .ref 256), (1, vi a), (2, vi b), (3, vi d)] [vi 1] s0 0 0 _
      refine x_if_eq k172_17 (t := 32) rfl ⟨by decide, by decide⟩ (fun c8 => by exfalso; omega) (fun c8 => ?_)
      refine x_A k172_20 (fun _ => rfl) ?_
      refine x_i2l k172_21 (by first | exact x_rb b_d rfl rfl | exact ⟨by omega, by omega⟩) ?_
      refine x_lconst k172_22 (z := 0) (by decide +kernel) ?_
      refine x_ldc2 k172_23 (z := 2) rfl (by decide +kernel) ?_
      refine x_callS k172_26 (y := 136) (n := 3) (w0 := 0) (w1 := 6) (as := [vj d, vj 0, vj 2]) (rest := []) (by decide +kernel) rfl rfl rfl rfl (xe_mono (C_X11_in s0 hG0 d ⟨by omega, by omega⟩ 0 ⟨by omega, by omega⟩ 2 ⟨by omega, by omega⟩) ?_)
      rintro s10 v ⟨h_s10, z9, rfl, hz_z9⟩
      rw [h_s10]
      rcases hz_z9 with ⟨c_z9, e_z9⟩ | ⟨c_z9, e_z9⟩
      · rw [e_z9]
        show xe none 172 29 [(0, .ref 256), (1, vi a), (2, vi b), (3, vi d)] [vi 1] s0 0 0 _
        refine x_if_ne k172_29 (t := 36) rfl ⟨by decide, by decide⟩ (fun c11 => ?_) (fun c11 => by exfalso; omega)
        refine x_A k172_36 (fun _ => rfl) ?_
        refine x_getR k172_37 (f := 15) rfl (q := 256) (n := 62) (kd := 15) ⟨by decide, rfl⟩ (q2 := 268) (by decide) rfl ?_
        refine x_A k172_40 (fun _ => rfl) ?_
        refine x_iald k172_41 (q := 268) (n := 120) ⟨by decide, rfl⟩ (by decide) (by first | exact x_rbl b_a rfl rfl | exact ⟨by omega, by omega⟩) ?_
        refine x_top (fun z12 e_z12 => ?_)
        have g_z12 : (0 : Int) ≤ s0 268 a.toNat ∧ s0 268 a.toNat ≤ 9 := hG0 268 a.toNat
        refine x_A k172_42 (fun _ => rfl) ?_
        refine x_ic_le k172_43 (t := 50) rfl (by first | exact x_rbe e_z12 g_z12 rfl rfl | exact x_rb g_z12 rfl rfl | exact ⟨by omega, by omega⟩) (by first | exact x_rb b_b rfl rfl | exact ⟨by omega, by omega⟩) (fun c13 => ?_) (fun c13 => ?_)
        · skip
          refine x_A k172_50 (fun _ => rfl) ?_
          refine x_A k172_51 (fun _ => rfl) ?_
          refine x_callV k172_52 (y := 168) (n := 1) (w0 := 0) (w1 := 1) (as := [vi b]) (rest := []) (by decide +kernel) (q := 256) (nq := 62) (kq := 15) ⟨by decide, rfl⟩ rfl rfl rfl rfl (xe_mono (C_X11_find_256 s0 hG0 (hJ0.fl f0 (by decide +kernel)) b (by first | exact x_rb b_b rfl rfl | exact ⟨by omega, by omega⟩)) ?_)
          rintro s15 v ⟨hG_s15, t_s15, rfl⟩
          have f_s15 : FL [5312, 5376, 4123, 5440, 5504, 5568, 5632, 5696, 5760] s0 s15 := f0.tr t_s15 (by decide +kernel)
          have q16 : s15 256 10 = z1 := (t_s15 256 10 (show 4107 ∉ [5312, 5376, 4123, 5440, 5504, 5568, 5632, 5696, 5760] from by decide +kernel)).trans e_z1.symm
          have q17 : s15 256 0 = z5 := (t_s15 256 0 (show 4097 ∉ [5312, 5376, 4123, 5440, 5504, 5568, 5632, 5696, 5760] from by decide +kernel)).trans e_z5.symm
          have q18 : s15 268 a.toNat = z12 := (t_s15 268 a.toNat (show 4864 ∉ [5312, 5376, 4123, 5440, 5504, 5568, 5632, 5696, 5760] from by decide +kernel)).trans e_z12.symm
          show xe none 172 55 [(0, .ref 256), (1, vi a), (2, vi b), (3, vi d)] [] s15 0 0 _
          refine x_A k172_55 (fun _ => rfl) ?_
          refine x_if_ne k172_56 (t := 68) rfl (by first | exact x_rb b_d rfl rfl | exact ⟨by omega, by omega⟩) (fun c19 => ?_) (fun c19 => ?_)
          · skip
            refine x_A k172_68 (fun _ => rfl) ?_
            refine x_A k172_69 (fun _ => rfl) ?_
            refine x_ic_ne k172_70 (t := 85) rfl (by first | exact x_rb b_d rfl rfl | exact ⟨by omega, by omega⟩) ⟨by decide, by decide⟩ (fun c20 => ?_) (fun c20 => ?_)
            · skip
              refine x_A k172_85 (fun _ => rfl) ?_
              refine x_A k172_86 (fun _ => rfl) ?_
              refine x_A k172_87 (fun _ => rfl) ?_
              refine x_callV k172_88 (y := 171) (n := 2) (w0 := 0) (w1 := 2) (as := [vi a, vi b]) (rest := []) (by decide +kernel) (q := 256) (nq := 62) (kq := 15) ⟨by decide, rfl⟩ rfl rfl rfl rfl (xe_mono (C_X11_lacks_256 s15 hG_s15 (hJ0.fl f_s15 (by decide +kernel)) a (by first | exact x_rb b_a rfl rfl | exact ⟨by omega, by omega⟩) b (by first | exact x_rb b_b rfl rfl | exact ⟨by omega, by omega⟩)) ?_)
              rintro s22 v ⟨hG_s22, t_s22, z21, rfl, g_z21⟩
              have f_s22 : FL [5312, 5376, 4123, 5440, 5504, 5568, 5632, 5696, 5760] s0 s22 := f_s15.tr t_s22 (by decide +kernel)
              have q23 : s22 256 10 = z1 := (t_s22 256 10 (show 4107 ∉ [5312, 5376, 4123] from by decide +kernel)).trans q16
              have q24 : s22 256 0 = z5 := (t_s22 256 0 (show 4097 ∉ [5312, 5376, 4123] from by decide +kernel)).trans q17
              have q25 : s22 268 a.toNat = z12 := (t_s22 268 a.toNat (show 4864 ∉ [5312, 5376, 4123] from by decide +kernel)).trans q18
              show xe none 172 91 [(0, .ref 256), (1, vi a), (2, vi b), (3, vi d)] [vi z21] s22 0 0 _
              refine x_if_eq k172_91 (t := 98) rfl (by first | exact x_rbe e_z21 g_z21 rfl rfl | exact x_rb g_z21 rfl rfl | exact ⟨by omega, by omega⟩) (fun c26 => ?_) (fun c26 => ?_)
              · skip
                refine x_A k172_98 (fun _ => rfl) ?_
                exact x_iret k172_99 rfl ⟨hG_s22, f_s22, 0, rfl, ⟨by decide, by decide⟩⟩
              · skip
                refine x_A k172_94 (fun _ => rfl) ?_
                refine x_goto k172_95 (t := 99) rfl ?_
                exact x_iret k172_99 rfl ⟨hG_s22, f_s22, 1, rfl, ⟨by decide, by decide⟩⟩
            · skip
              refine x_A k172_73 (fun _ => rfl) ?_
              refine x_getR k172_74 (f := 31) rfl (q := 256) (n := 62) (kd := 15) ⟨by decide, rfl⟩ (q2 := 281) (by decide) rfl ?_
              refine x_A k172_77 (fun _ => rfl) ?_
              refine x_bald k172_78 (q := 281) (n := 120) ⟨by decide, rfl⟩ (by decide) (by first | exact x_rbl b_a rfl rfl | exact ⟨by omega, by omega⟩) ?_
              refine x_top (fun z27 e_z27 => ?_)
              have g_z27 : (0 : Int) ≤ s15 281 a.toNat ∧ s15 281 a.toNat ≤ 1 := hG_s15 281 a.toNat
              refine x_if_eq k172_79 (t := 98) rfl (by first | exact x_rbe e_z27 g_z27 rfl rfl | exact x_rb g_z27 rfl rfl | exact ⟨by omega, by omega⟩) (fun c28 => ?_) (fun c28 => ?_)
              · skip
                refine x_A k172_98 (fun _ => rfl) ?_
                exact x_iret k172_99 rfl ⟨hG_s15, f_s15, 0, rfl, ⟨by decide, by decide⟩⟩
              · skip
                refine x_goto k172_82 (t := 94) rfl ?_
                refine x_A k172_94 (fun _ => rfl) ?_
                refine x_goto k172_95 (t := 99) rfl ?_
                exact x_iret k172_99 rfl ⟨hG_s15, f_s15, 1, rfl, ⟨by decide, by decide⟩⟩
          · skip
            refine x_A k172_59 (fun _ => rfl) ?_
            refine x_getR k172_60 (f := 30) rfl (q := 256) (n := 62) (kd := 15) ⟨by decide, rfl⟩ (q2 := 280) (by decide) rfl ?_
            refine x_A k172_63 (fun _ => rfl) ?_
            refine x_iald k172_64 (q := 280) (n := 120) ⟨by decide, rfl⟩ (by decide) (by first | exact x_rbl b_a rfl rfl | exact ⟨by omega, by omega⟩) ?_
            refine x_top (fun z29 e_z29 => ?_)
            have g_z29 : (-1) ≤ s15 280 a.toNat ∧ s15 280 a.toNat ≤ 39 := hG_s15 280 a.toNat
            refine x_goto k172_65 (t := 99) rfl ?_
            exact x_iret k172_99 rfl ⟨hG_s15, f_s15, z29, rfl, (by first | exact x_rbe e_z29 g_z29 rfl rfl | exact x_rb g_z29 rfl rfl | exact ⟨by omega, by omega⟩)⟩
        · skip
          refine x_sipush k172_46 (by decide +kernel) ?_
          exact x_iret k172_49 rfl ⟨hG0, f0, (-1003), rfl, ⟨by decide, by decide⟩⟩
      · rw [e_z9]
        show xe none 172 29 [(0, .ref 256), (1, vi a), (2, vi b), (3, vi d)] [vi 0] s0 0 0 _
        refine x_if_ne k172_29 (t := 36) rfl ⟨by decide, by decide⟩ (fun c30 => by exfalso; omega) (fun c30 => ?_)
        refine x_sipush k172_32 (by decide +kernel) ?_
        exact x_iret k172_35 rfl ⟨hG0, f0, (-1002), rfl, ⟨by decide, by decide⟩⟩
    · rw [e_z6]
      show xe none 172 17 [(0, .ref 256), (1, vi a), (2, vi b), (3, vi d)] [vi 0] s0 0 0 _
      refine x_if_eq k172_17 (t := 32) rfl ⟨by decide, by decide⟩ (fun c31 => ?_) (fun c31 => by exfalso; omega)
      refine x_sipush k172_32 (by decide +kernel) ?_
      exact x_iret k172_35 rfl ⟨hG0, f0, (-1002), rfl, ⟨by decide, by decide⟩⟩
  · rw [e_z2]
    show xe none 172 5 [(0, .ref 256), (1, vi a), (2, vi b), (3, vi d)] [vi 0] s0 0 0 _
    refine x_if_ne k172_5 (t := 12) rfl ⟨by decide, by decide⟩ (fun c32 => by exfalso; omega) (fun c32 => ?_)
    refine x_sipush k172_8 (by decide +kernel) ?_
    exact x_iret k172_11 rfl ⟨hG0, f0, (-1001), rfl, ⟨by decide, by decide⟩⟩
theorem L_C_X11_led_256_40 (s0 : xS) (hJ0 : J s0)  : ∀ (n : Nat) (s : xS) (x1 : Int) (x2 : Int) (x3 : Int) (x4 : Int) (hG : GI s) (f : FL [5312, 5376, 4123, 5440, 5504, 5568, 5632, 5696, 5760] s0 s) (b_x1 : 0 ≤ x1 ∧ x1 ≤ 39) (b_x2 : 0 ≤ x2 ∧ x2 ≤ 39) (b_x3 : 0 ≤ x3 ∧ x3 ≤ 9) (b_x4 : 0 ≤ x4 ∧ x4 ≤ 120)  (hm : (120 - x4) < (n : Int)), xe none 173 40 [(0, .ref 256), (1, vi x1), (2, vi x2), (3, vi x3), (4, vi x4)] [] s 0 0 (fun s' v => GI s' ∧ FL [5312, 5376, 4123, 5440, 5504, 5568, 5632, 5696, 5760] s0 s' ∧ ∃ z, v = some (vi z) ∧ ((-1004) ≤ z ∧ z ≤ 120)) := by
  intro n
  induction n with
  | zero => intro s x1 x2 x3 x4 hG f b_x1 b_x2 b_x3 b_x4  hm; exfalso; omega
  | succ n ih =>
    intro s x1 x2 x3 x4 hG f b_x1 b_x2 b_x3 b_x4  hm
    refine x_A k173_40 (fun _ => rfl) ?_
    refine x_A k173_42 (fun _ => rfl) ?_
    refine x_getI k173_43 (f := 10) rfl (q := 256) (n := 62) (kd := 15) ⟨by decide, rfl⟩ (by decide) rfl ?_
    refine x_top (fun z561 e_z561 => ?_)
    have g_z561 : (0 : Int) ≤ s 256 10 ∧ s 256 10 ≤ 120 := hG 256 10
    refine x_ic_ge k173_46 (t := 95) rfl (by first | exact x_rb b_x4 rfl rfl | exact ⟨by omega, by omega⟩) (by first | exact x_rbe e_z561 g_z561 rfl rfl | exact x_rb g_z561 rfl rfl | exact ⟨by omega, by omega⟩) (fun c562 => ?_) (fun c562 => ?_)
    · skip
      refine x_A k173_95 (fun _ => rfl) ?_
      exact x_iret k173_96 rfl ⟨hG, f, (-1), rfl, ⟨by decide, by decide⟩⟩
    · skip
      refine x_A k173_49 (fun _ => rfl) ?_
      refine x_getR k173_50 (f := 11) rfl (q := 256) (n := 62) (kd := 15) ⟨by decide, rfl⟩ (q2 := 264) (by decide) rfl ?_
      refine x_A k173_53 (fun _ => rfl) ?_
      refine x_iald k173_55 (q := 264) (n := 120) ⟨by decide, rfl⟩ (by decide) (by first | exact x_rbl b_x4 rfl rfl | exact ⟨by omega, by omega⟩) ?_
      refine x_top (fun z563 e_z563 => ?_)
      have g_z563 : (0 : Int) ≤ s 264 x4.toNat ∧ s 264 x4.toNat ≤ 39 := hG 264 x4.toNat
      refine x_A k173_56 (fun _ => rfl) ?_
      refine x_ic_ne k173_57 (t := 89) rfl (by first | exact x_rbe e_z563 g_z563 rfl rfl | exact x_rb g_z563 rfl rfl | exact ⟨by omega, by omega⟩) (by first | exact x_rb b_x1 rfl rfl | exact ⟨by omega, by omega⟩) (fun c564 => ?_) (fun c564 => ?_)
      · skip
        refine x_iinc k173_89 (ls' := [(4, vi (x4 + 1)), (0, .ref 256), (1, vi x1), (2, vi x2), (3, vi x3)]) rfl (by decide) rfl ?_
        refine x_goto k173_92 (t := 40) rfl ?_
        refine x_ls (l := [(0, .ref 256), (1, vi x1), (2, vi x2), (3, vi x3), (4, vi (x4 + 1))]) (show ([0, 1, 2, 3, 4] : List Nat).Nodup from by decide +kernel) ⟨rfl, rfl, rfl, rfl, rfl, trivial⟩ ?_
        exact ih s x1 x2 x3 (x4 + 1) hG f (by first | exact x_rb b_x1 rfl rfl | exact ⟨by omega, by omega⟩) (by first | exact x_rb b_x2 rfl rfl | exact ⟨by omega, by omega⟩) (by first | exact x_rb b_x3 rfl rfl | exact ⟨by omega, by omega⟩) ⟨by omega, by omega⟩  (by omega)
      · skip
        refine x_A k173_60 (fun _ => rfl) ?_
        refine x_getR k173_61 (f := 30) rfl (q := 256) (n := 62) (kd := 15) ⟨by decide, rfl⟩ (q2 := 280) (by decide) rfl ?_
        refine x_A k173_64 (fun _ => rfl) ?_
        refine x_iald k173_66 (q := 280) (n := 120) ⟨by decide, rfl⟩ (by decide) (by first | exact x_rbl b_x4 rfl rfl | exact ⟨by omega, by omega⟩) ?_
        refine x_top (fun z565 e_z565 => ?_)
        have g_z565 : (-1) ≤ s 280 x4.toNat ∧ s 280 x4.toNat ≤ 39 := hG 280 x4.toNat
        refine x_if_lt k173_67 (t := 89) rfl (by first | exact x_rbe e_z565 g_z565 rfl rfl | exact x_rb g_z565 rfl rfl | exact ⟨by omega, by omega⟩) (fun c566 => ?_) (fun c566 => ?_)
        · skip
          refine x_iinc k173_89 (ls' := [(4, vi (x4 + 1)), (0, .ref 256), (1, vi x1), (2, vi x2), (3, vi x3)]) rfl (by decide) rfl ?_
          refine x_goto k173_92 (t := 40) rfl ?_
          refine x_ls (l := [(0, .ref 256), (1, vi x1), (2, vi x2), (3, vi x3), (4, vi (x4 + 1))]) (show ([0, 1, 2, 3, 4] : List Nat).Nodup from by decide +kernel) ⟨rfl, rfl, rfl, rfl, rfl, trivial⟩ ?_
          exact ih s x1 x2 x3 (x4 + 1) hG f (by first | exact x_rb b_x1 rfl rfl | exact ⟨by omega, by omega⟩) (by first | exact x_rb b_x2 rfl rfl | exact ⟨by omega, by omega⟩) (by first | exact x_rb b_x3 rfl rfl | exact ⟨by omega, by omega⟩) ⟨by omega, by omega⟩  (by omega)
        · skip
          refine x_A k173_70 (fun _ => rfl) ?_
          refine x_A k173_71 (fun _ => rfl) ?_
          refine x_getR k173_72 (f := 30) rfl (q := 256) (n := 62) (kd := 15) ⟨by decide, rfl⟩ (q2 := 280) (by decide) rfl ?_
          refine x_A k173_75 (fun _ => rfl) ?_
          refine x_iald k173_77 (q := 280) (n := 120) ⟨by decide, rfl⟩ (by decide) (by first | exact x_rbl b_x4 rfl rfl | exact ⟨by omega, by omega⟩) ?_
          rw [e_z565.symm]
          refine x_A k173_78 (fun _ => rfl) ?_
          refine x_A k173_79 (fun _ => rfl) ?_
          refine x_callV k173_80 (y := 143) (n := 3) (w0 := 0) (w1 := 3) (as := [vi z565, vi x2, vi x3]) (rest := []) (by decide +kernel) (q := 256) (nq := 62) (kq := 15) ⟨by decide, rfl⟩ rfl rfl rfl rfl (xe_mono (C_X11_isBelow_256 s hG (hJ0.fl f (by decide +kernel)) z565 (by first | exact x_rbe e_z565 g_z565 rfl rfl | exact x_rb g_z565 rfl rfl | exact ⟨by omega, by omega⟩) x2 (by first | exact x_rb b_x2 rfl rfl | exact ⟨by omega, by omega⟩) x3 (by first | exact x_rb b_x3 rfl rfl | exact ⟨by omega, by omega⟩)) ?_)
          rintro s568 v ⟨-, t_s568, z567, rfl, g_z567⟩
          rw [t_s568.nil]
          show xe none 173 83 [(0, .ref 256), (1, vi x1), (2, vi x2), (3, vi x3), (4, vi x4)] [vi z567] s 0 0 _
          refine x_if_eq k173_83 (t := 89) rfl (by first | exact x_rbe e_z567 g_z567 rfl rfl | exact x_rb g_z567 rfl rfl | exact ⟨by omega, by omega⟩) (fun c569 => ?_) (fun c569 => ?_)
          · skip
            refine x_iinc k173_89 (ls' := [(4, vi (x4 + 1)), (0, .ref 256), (1, vi x1), (2, vi x2), (3, vi x3)]) rfl (by decide) rfl ?_
            refine x_goto k173_92 (t := 40) rfl ?_
            refine x_ls (l := [(0, .ref 256), (1, vi x1), (2, vi x2), (3, vi x3), (4, vi (x4 + 1))]) (show ([0, 1, 2, 3, 4] : List Nat).Nodup from by decide +kernel) ⟨rfl, rfl, rfl, rfl, rfl, trivial⟩ ?_
            exact ih s x1 x2 x3 (x4 + 1) hG f (by first | exact x_rb b_x1 rfl rfl | exact ⟨by omega, by omega⟩) (by first | exact x_rb b_x2 rfl rfl | exact ⟨by omega, by omega⟩) (by first | exact x_rb b_x3 rfl rfl | exact ⟨by omega, by omega⟩) ⟨by omega, by omega⟩  (by omega)
          · skip
            refine x_A k173_86 (fun _ => rfl) ?_
            exact x_iret k173_88 rfl ⟨hG, f, x4, rfl, (by first | exact x_rb b_x4 rfl rfl | exact ⟨by omega, by omega⟩)⟩
theorem C_X11_led_256 (s0 : xS) (hG0 : GI s0) (hJ0 : J s0) (a : Int) (b_a : (-2147483648) ≤ a ∧ a ≤ 2147483647) (b : Int) (b_b : (-2147483648) ≤ b ∧ b ≤ 2147483647) (d : Int) (b_d : (-2147483648) ≤ d ∧ d ≤ 2147483647) : xe none 173 0 (lv_args 0 [.ref 256, vi a, vi b, vi d]) [] s0 0 0 (fun s' v => GI s' ∧ FL [5312, 5376, 4123, 5440, 5504, 5568, 5632, 5696, 5760] s0 s' ∧ ∃ z, v = some (vi z) ∧ ((-1004) ≤ z ∧ z ≤ 120)) := by
  have f0 : FL [5312, 5376, 4123, 5440, 5504, 5568, 5632, 5696, 5760] s0 s0 := FL.rf
  show xe none 173 0 [(0, .ref 256), (1, vi a), (2, vi b), (3, vi d)] [] s0 0 0 _
  refine x_A k173_0 (fun _ => rfl) ?_
  refine x_A k173_1 (fun _ => rfl) ?_
  obtain ⟨z570, e_z570⟩ : ∃ z, z = s0 256 6 := ⟨_, rfl⟩
  have g_z570 : (0 : Int) ≤ s0 256 6 ∧ s0 256 6 ≤ 40 := hG0 256 6
  refine x_callV k173_2 (y := 151) (n := 1) (w0 := 0) (w1 := 1) (as := [vi a]) (rest := []) (by decide +kernel) (q := 256) (nq := 62) (kq := 15) ⟨by decide, rfl⟩ rfl rfl rfl rfl (xe_mono (C_X11_isPicture_256 s0 hG0 a (by first | exact x_rb b_a rfl rfl | exact ⟨by omega, by omega⟩)) ?_)
  rintro s572 v ⟨h_s572, z571, rfl, hz_z571⟩
  rw [h_s572]
  rcases hz_z571 with ⟨c_z571, e_z571⟩ | ⟨c_z571, e_z571⟩
  · rw [e_z571]
    show xe none 173 5 [(0, .ref 256), (1, vi a), (2, vi b), (3, vi d)] [vi 1] s0 0 0 _
    refine x_if_eq k173_5 (t := 16) rfl ⟨by decide, by decide⟩ (fun c573 => by exfalso; omega) (fun c573 => ?_)
    refine x_A k173_8 (fun _ => rfl) ?_
    refine x_A k173_9 (fun _ => rfl) ?_
    obtain ⟨z574, e_z574⟩ : ∃ z, z = s0 256 1 := ⟨_, rfl⟩
    have g_z574 : (1 : Int) ≤ s0 256 1 ∧ s0 256 1 ≤ 40 := hG0 256 1
    refine x_callV k173_10 (y := 137) (n := 1) (w0 := 0) (w1 := 1) (as := [vi b]) (rest := []) (by decide +kernel) (q := 256) (nq := 62) (kq := 15) ⟨by decide, rfl⟩ rfl rfl rfl rfl (xe_mono (C_X11_isMark_256 s0 hG0 b (by first | exact x_rb b_b rfl rfl | exact ⟨by omega, by omega⟩)) ?_)
    rintro s576 v ⟨h_s576, z575, rfl, hz_z575⟩
    rw [h_s576]
    rcases hz_z575 with ⟨c_z575, e_z575⟩ | ⟨c_z575, e_z575⟩
    · rw [e_z575]
      show xe none 173 13 [(0, .ref 256), (1, vi a), (2, vi b), (3, vi d)] [vi 1] s0 0 0 _
      refine x_if_ne k173_13 (t := 20) rfl ⟨by decide, by decide⟩ (fun c577 => ?_) (fun c577 => by exfalso; omega)
      refine x_A k173_20 (fun _ => rfl) ?_
      refine x_A k173_21 (fun _ => rfl) ?_
      obtain ⟨z578, e_z578⟩ : ∃ z, z = s0 256 0 := ⟨_, rfl⟩
      have g_z578 : (0 : Int) ≤ s0 256 0 ∧ s0 256 0 ≤ 9 := hG0 256 0
      refine x_callV k173_22 (y := 138) (n := 1) (w0 := 0) (w1 := 1) (as := [vi d]) (rest := []) (by decide +kernel) (q := 256) (nq := 62) (kq := 15) ⟨by decide, rfl⟩ rfl rfl rfl rfl (xe_mono (C_X11_isEdition_256 s0 hG0 d (by first | exact x_rb b_d rfl rfl | exact ⟨by omega, by omega⟩)) ?_)
      rintro s580 v ⟨h_s580, z579, rfl, hz_z579⟩
      rw [h_s580]
      rcases hz_z579 with ⟨c_z579, e_z579⟩ | ⟨c_z579, e_z579⟩
      · rw [e_z579]
        show xe none 173 25 [(0, .ref 256), (1, vi a), (2, vi b), (3, vi d)] [vi 1] s0 0 0 _
        refine x_if_ne k173_25 (t := 32) rfl ⟨by decide, by decide⟩ (fun c581 => ?_) (fun c581 => by exfalso; omega)
        refine x_A k173_32 (fun _ => rfl) ?_
        refine x_A k173_33 (fun _ => rfl) ?_
        refine x_callV k173_34 (y := 168) (n := 1) (w0 := 0) (w1 := 1) (as := [vi d]) (rest := []) (by decide +kernel) (q := 256) (nq := 62) (kq := 15) ⟨by decide, rfl⟩ rfl rfl rfl rfl (xe_mono (C_X11_find_256 s0 hG0 (hJ0.fl f0 (by decide +kernel)) d (by first | exact x_rb b_d rfl rfl | exact ⟨by omega, by omega⟩)) ?_)
        rintro s583 v ⟨hG_s583, t_s583, rfl⟩
        have f_s583 : FL [5312, 5376, 4123, 5440, 5504, 5568, 5632, 5696, 5760] s0 s583 := f0.tr t_s583 (by decide +kernel)
        have q584 : s583 256 6 = z570 := (t_s583 256 6 (show 4103 ∉ [5312, 5376, 4123, 5440, 5504, 5568, 5632, 5696, 5760] from by decide +kernel)).trans e_z570.symm
        have q585 : s583 256 1 = z574 := (t_s583 256 1 (show 4098 ∉ [5312, 5376, 4123, 5440, 5504, 5568, 5632, 5696, 5760] from by decide +kernel)).trans e_z574.symm
        have q586 : s583 256 0 = z578 := (t_s583 256 0 (show 4097 ∉ [5312, 5376, 4123, 5440, 5504, 5568, 5632, 5696, 5760] from by decide +kernel)).trans e_z578.symm
        show xe none 173 37 [(0, .ref 256), (1, vi a), (2, vi b), (3, vi d)] [] s583 0 0 _
        refine x_A k173_37 (fun _ => rfl) ?_
        refine x_istore k173_38 (ls' := [(4, vi 0), (0, .ref 256), (1, vi a), (2, vi b), (3, vi d)]) (by decide) rfl ?_
        refine x_ls (l := [(0, .ref 256), (1, vi a), (2, vi b), (3, vi d), (4, vi 0)]) (show ([0, 1, 2, 3, 4] : List Nat).Nodup from by decide +kernel) ⟨rfl, rfl, rfl, rfl, rfl, trivial⟩ ?_
        exact L_C_X11_led_256_40 s0 hJ0  (((120 - 0) + 1 : Int)).toNat s583 a b d 0 hG_s583 f_s583 (by first | exact x_rb b_a rfl rfl | exact ⟨by omega, by omega⟩) (by first | exact x_rb b_b rfl rfl | exact ⟨by omega, by omega⟩) (by first | exact x_rb b_d rfl rfl | exact ⟨by omega, by omega⟩) ⟨by decide, by decide⟩  (by omega)
      · rw [e_z579]
        show xe none 173 25 [(0, .ref 256), (1, vi a), (2, vi b), (3, vi d)] [vi 0] s0 0 0 _
        refine x_if_ne k173_25 (t := 32) rfl ⟨by decide, by decide⟩ (fun c587 => by exfalso; omega) (fun c587 => ?_)
        refine x_sipush k173_28 (by decide +kernel) ?_
        exact x_iret k173_31 rfl ⟨hG0, f0, (-1002), rfl, ⟨by decide, by decide⟩⟩
    · rw [e_z575]
      show xe none 173 13 [(0, .ref 256), (1, vi a), (2, vi b), (3, vi d)] [vi 0] s0 0 0 _
      refine x_if_ne k173_13 (t := 20) rfl ⟨by decide, by decide⟩ (fun c588 => by exfalso; omega) (fun c588 => ?_)
      refine x_sipush k173_16 (by decide +kernel) ?_
      exact x_iret k173_19 rfl ⟨hG0, f0, (-1001), rfl, ⟨by decide, by decide⟩⟩
  · rw [e_z571]
    show xe none 173 5 [(0, .ref 256), (1, vi a), (2, vi b), (3, vi d)] [vi 0] s0 0 0 _
    refine x_if_eq k173_5 (t := 16) rfl ⟨by decide, by decide⟩ (fun c589 => ?_) (fun c589 => by exfalso; omega)
    refine x_sipush k173_16 (by decide +kernel) ?_
    exact x_iret k173_19 rfl ⟨hG0, f0, (-1001), rfl, ⟨by decide, by decide⟩⟩
theorem L_C_X11_count_256_57 (s0 : xS) (hJ0 : J s0)  : ∀ (n : Nat) (s : xS) (x1 : Int) (x2 : Int) (x3 : Int) (x4 : Int) (x5 : Int) (x6 : Int) (hG : GI s) (f : FL [5312, 5376, 4123, 5440, 5504, 5568, 5632, 5696, 5760] s0 s) (b_x1 : (-2147483648) ≤ x1 ∧ x1 ≤ 2147483647) (b_x2 : 0 ≤ x2 ∧ x2 ≤ 40) (b_x3 : 0 ≤ x3 ∧ x3 ≤ 127) (b_x4 : 0 ≤ x4 ∧ x4 ≤ 127) (b_x5 : 0 ≤ x5 ∧ x5 ≤ 127) (b_x6 : 0 ≤ x6 ∧ x6 ≤ 120) (r_5_6 : x5 ≤ x6 + 0) (r_4_6 : x4 ≤ x6 + 0) (r_3_6 : x3 ≤ x6 + 0)  (hm : (120 - x6) < (n : Int)), xe none 174 57 [(0, .ref 256), (1, vi x1), (2, vi x2), (3, vi x3), (4, vi x4), (5, vi x5), (6, vi x6)] [] s 0 0 (fun s' v => GI s' ∧ FL [5312, 5376, 4123, 5440, 5504, 5568, 5632, 5696, 5760] s0 s' ∧ ∃ z, v = some (vi z) ∧ ((-2147483648) ≤ z ∧ z ≤ 2147483647)) := by
  intro n
  induction n with
  | zero => intro s x1 x2 x3 x4 x5 x6 hG f b_x1 b_x2 b_x3 b_x4 b_x5 b_x6 r_5_6 r_4_6 r_3_6  hm; exfalso; omega
  | succ n ih =>
    intro s x1 x2 x3 x4 x5 x6 hG f b_x1 b_x2 b_x3 b_x4 b_x5 b_x6 r_5_6 r_4_6 r_3_6  hm
    refine x_A k174_57 (fun _ => rfl) ?_
    refine x_A k174_59 (fun _ => rfl) ?_
    refine x_getI k174_60 (f := 10) rfl (q := 256) (n := 62) (kd := 15) ⟨by decide, rfl⟩ (by decide) rfl ?_
    refine x_top (fun z1787 e_z1787 => ?_)
    have g_z1787 : (0 : Int) ≤ s 256 10 ∧ s 256 10 ≤ 120 := hG 256 10
    refine x_ic_ge k174_63 (t := 139) rfl (by first | exact x_rb b_x6 rfl rfl | exact ⟨by omega, by omega⟩) (by first | exact x_rbe e_z1787 g_z1787 rfl rfl | exact x_rb g_z1787 rfl rfl | exact ⟨by omega, by omega⟩) (fun c1788 => ?_) (fun c1788 => ?_)
    · skip
      refine x_A k174_139 (fun _ => rfl) ?_
      have c1789 : x1 = 0 ∨ x1 = 1 ∨ x1 = 2 ∨ x1 = 3 ∨ x1 = 4 ∨ x1 = 5 ∨ x1 = 6 ∨ x1 = 7 ∨ x1 = 8 ∨ x1 = 9 ∨ x1 = 10 ∨ x1 = 11 ∨ x1 = 12 ∨ ¬ (0 ≤ x1 ∧ x1 ≤ 12) := by omega
      rcases c1789 with c1789 | c1789 | c1789 | c1789 | c1789 | c1789 | c1789 | c1789 | c1789 | c1789 | c1789 | c1789 | c1789 | c1789
      · rw [c1789]
        refine x_B k174_140 rfl (fun _ => rfl) (fun _ => rfl) (fun _ _ => rfl) ?_
        show xe none 174 208 [(0, .ref 256), (1, vi 0), (2, vi x2), (3, vi x3), (4, vi x4), (5, vi x5), (6, vi x6)] [] s 0 0 _
        refine x_A k174_208 (fun _ => rfl) ?_
        refine x_getI k174_209 (f := 0) rfl (q := 256) (n := 62) (kd := 15) ⟨by decide, rfl⟩ (by decide) rfl ?_
        refine x_top (fun z1790 e_z1790 => ?_)
        have g_z1790 : (0 : Int) ≤ s 256 0 ∧ s 256 0 ≤ 9 := hG 256 0
        exact x_iret k174_212 rfl ⟨hG, f, z1790, rfl, (by first | exact x_rbe e_z1790 g_z1790 rfl rfl | exact x_rb g_z1790 rfl rfl | exact ⟨by omega, by omega⟩)⟩
      · rw [c1789]
        refine x_B k174_140 rfl (fun _ => rfl) (fun _ => rfl) (fun _ _ => rfl) ?_
        show xe none 174 213 [(0, .ref 256), (1, vi 1), (2, vi x2), (3, vi x3), (4, vi x4), (5, vi x5), (6, vi x6)] [] s 0 0 _
        refine x_A k174_213 (fun _ => rfl) ?_
        refine x_getI k174_214 (f := 1) rfl (q := 256) (n := 62) (kd := 15) ⟨by decide, rfl⟩ (by decide) rfl ?_
        refine x_top (fun z1791 e_z1791 => ?_)
        have g_z1791 : (1 : Int) ≤ s 256 1 ∧ s 256 1 ≤ 40 := hG 256 1
        exact x_iret k174_217 rfl ⟨hG, f, z1791, rfl, (by first | exact x_rbe e_z1791 g_z1791 rfl rfl | exact x_rb g_z1791 rfl rfl | exact ⟨by omega, by omega⟩)⟩
      · rw [c1789]
        refine x_B k174_140 rfl (fun _ => rfl) (fun _ => rfl) (fun _ _ => rfl) ?_
        show xe none 174 218 [(0, .ref 256), (1, vi 2), (2, vi x2), (3, vi x3), (4, vi x4), (5, vi x5), (6, vi x6)] [] s 0 0 _
        refine x_A k174_218 (fun _ => rfl) ?_
        exact x_iret k174_219 rfl ⟨hG, f, x2, rfl, (by first | exact x_rb b_x2 rfl rfl | exact ⟨by omega, by omega⟩)⟩
      · rw [c1789]
        refine x_B k174_140 rfl (fun _ => rfl) (fun _ => rfl) (fun _ _ => rfl) ?_
        show xe none 174 220 [(0, .ref 256), (1, vi 3), (2, vi x2), (3, vi x3), (4, vi x4), (5, vi x5), (6, vi x6)] [] s 0 0 _
        refine x_A k174_220 (fun _ => rfl) ?_
        refine x_getI k174_221 (f := 6) rfl (q := 256) (n := 62) (kd := 15) ⟨by decide, rfl⟩ (by decide) rfl ?_
        refine x_top (fun z1792 e_z1792 => ?_)
        have g_z1792 : (0 : Int) ≤ s 256 6 ∧ s 256 6 ≤ 40 := hG 256 6
        exact x_iret k174_224 rfl ⟨hG, f, z1792, rfl, (by first | exact x_rbe e_z1792 g_z1792 rfl rfl | exact x_rb g_z1792 rfl rfl | exact ⟨by omega, by omega⟩)⟩
      · rw [c1789]
        refine x_B k174_140 rfl (fun _ => rfl) (fun _ => rfl) (fun _ _ => rfl) ?_
        show xe none 174 225 [(0, .ref 256), (1, vi 4), (2, vi x2), (3, vi x3), (4, vi x4), (5, vi x5), (6, vi x6)] [] s 0 0 _
        refine x_A k174_225 (fun _ => rfl) ?_
        refine x_getI k174_226 (f := 10) rfl (q := 256) (n := 62) (kd := 15) ⟨by decide, rfl⟩ (by decide) rfl ?_
        rw [e_z1787.symm]
        exact x_iret k174_229 rfl ⟨hG, f, z1787, rfl, (by first | exact x_rbe e_z1787 g_z1787 rfl rfl | exact x_rb g_z1787 rfl rfl | exact ⟨by omega, by omega⟩)⟩
      · rw [c1789]
        refine x_B k174_140 rfl (fun _ => rfl) (fun _ => rfl) (fun _ _ => rfl) ?_
        show xe none 174 230 [(0, .ref 256), (1, vi 5), (2, vi x2), (3, vi x3), (4, vi x4), (5, vi x5), (6, vi x6)] [] s 0 0 _
        refine x_A k174_230 (fun _ => rfl) ?_
        exact x_iret k174_231 rfl ⟨hG, f, x3, rfl, (by first | exact x_rb b_x3 rfl rfl | exact ⟨by omega, by omega⟩)⟩
      · rw [c1789]
        refine x_B k174_140 rfl (fun _ => rfl) (fun _ => rfl) (fun _ _ => rfl) ?_
        show xe none 174 232 [(0, .ref 256), (1, vi 6), (2, vi x2), (3, vi x3), (4, vi x4), (5, vi x5), (6, vi x6)] [] s 0 0 _
        refine x_A k174_232 (fun _ => rfl) ?_
        exact x_iret k174_234 rfl ⟨hG, f, x4, rfl, (by first | exact x_rb b_x4 rfl rfl | exact ⟨by omega, by omega⟩)⟩
      · rw [c1789]
        refine x_B k174_140 rfl (fun _ => rfl) (fun _ => rfl) (fun _ _ => rfl) ?_
        show xe none 174 235 [(0, .ref 256), (1, vi 7), (2, vi x2), (3, vi x3), (4, vi x4), (5, vi x5), (6, vi x6)] [] s 0 0 _
        refine x_A k174_235 (fun _ => rfl) ?_
        exact x_iret k174_237 rfl ⟨hG, f, x5, rfl, (by first | exact x_rb b_x5 rfl rfl | exact ⟨by omega, by omega⟩)⟩
      · rw [c1789]
        refine x_B k174_140 rfl (fun _ => rfl) (fun _ => rfl) (fun _ _ => rfl) ?_
        show xe none 174 238 [(0, .ref 256), (1, vi 8), (2, vi x2), (3, vi x3), (4, vi x4), (5, vi x5), (6, vi x6)] [] s 0 0 _
        refine x_A k174_238 (fun _ => rfl) ?_
        refine x_getI k174_239 (f := 17) rfl (q := 256) (n := 62) (kd := 15) ⟨by decide, rfl⟩ (by decide) rfl ?_
        refine x_top (fun z1793 e_z1793 => ?_)
        have g_z1793 : (0 : Int) ≤ s 256 17 ∧ s 256 17 ≤ 8 := hG 256 17
        exact x_iret k174_242 rfl ⟨hG, f, z1793, rfl, (by first | exact x_rbe e_z1793 g_z1793 rfl rfl | exact x_rb g_z1793 rfl rfl | exact ⟨by omega, by omega⟩)⟩
      · rw [c1789]
        refine x_B k174_140 rfl (fun _ => rfl) (fun _ => rfl) (fun _ _ => rfl) ?_
        show xe none 174 243 [(0, .ref 256), (1, vi 9), (2, vi x2), (3, vi x3), (4, vi x4), (5, vi x5), (6, vi x6)] [] s 0 0 _
        refine x_A k174_243 (fun _ => rfl) ?_
        refine x_getI k174_244 (f := 34) rfl (q := 256) (n := 62) (kd := 15) ⟨by decide, rfl⟩ (by decide) rfl ?_
        refine x_top (fun z1794 e_z1794 => ?_)
        have g_z1794 : (0 : Int) ≤ s 256 34 ∧ s 256 34 ≤ 160 := hG 256 34
        exact x_iret k174_247 rfl ⟨hG, f, z1794, rfl, (by first | exact x_rbe e_z1794 g_z1794 rfl rfl | exact x_rb g_z1794 rfl rfl | exact ⟨by omega, by omega⟩)⟩
      · rw [c1789]
        refine x_B k174_140 rfl (fun _ => rfl) (fun _ => rfl) (fun _ _ => rfl) ?_
        show xe none 174 248 [(0, .ref 256), (1, vi 10), (2, vi x2), (3, vi x3), (4, vi x4), (5, vi x5), (6, vi x6)] [] s 0 0 _
        refine x_A k174_248 (fun _ => rfl) ?_
        refine x_getI k174_249 (f := 40) rfl (q := 256) (n := 62) (kd := 15) ⟨by decide, rfl⟩ (by decide) rfl ?_
        refine x_top (fun z1795 e_z1795 => ?_)
        have g_z1795 : (0 : Int) ≤ s 256 40 ∧ s 256 40 ≤ 60 := hG 256 40
        exact x_iret k174_252 rfl ⟨hG, f, z1795, rfl, (by first | exact x_rbe e_z1795 g_z1795 rfl rfl | exact x_rb g_z1795 rfl rfl | exact ⟨by omega, by omega⟩)⟩
      · rw [c1789]
        refine x_B k174_140 rfl (fun _ => rfl) (fun _ => rfl) (fun _ _ => rfl) ?_
        show xe none 174 253 [(0, .ref 256), (1, vi 11), (2, vi x2), (3, vi x3), (4, vi x4), (5, vi x5), (6, vi x6)] [] s 0 0 _
        refine x_A k174_253 (fun _ => rfl) ?_
        refine x_getI k174_254 (f := 43) rfl (q := 256) (n := 62) (kd := 15) ⟨by decide, rfl⟩ (by decide) rfl ?_
        refine x_top (fun z1796 e_z1796 => ?_)
        have g_z1796 : (0 : Int) ≤ s 256 43 ∧ s 256 43 ≤ 8 := hG 256 43
        exact x_iret k174_257 rfl ⟨hG, f, z1796, rfl, (by first | exact x_rbe e_z1796 g_z1796 rfl rfl | exact x_rb g_z1796 rfl rfl | exact ⟨by omega, by omega⟩)⟩
      · rw [c1789]
        refine x_B k174_140 rfl (fun _ => rfl) (fun _ => rfl) (fun _ _ => rfl) ?_
        show xe none 174 258 [(0, .ref 256), (1, vi 12), (2, vi x2), (3, vi x3), (4, vi x4), (5, vi x5), (6, vi x6)] [] s 0 0 _
        refine x_A k174_258 (fun _ => rfl) ?_
        refine x_getI k174_259 (f := 58) rfl (q := 256) (n := 62) (kd := 15) ⟨by decide, rfl⟩ (by decide) rfl ?_
        refine x_top (fun z1797 e_z1797 => ?_)
        have g_z1797 : (0 : Int) ≤ s 256 58 ∧ s 256 58 ≤ 4 := hG 256 58
        exact x_iret k174_262 rfl ⟨hG, f, z1797, rfl, (by first | exact x_rbe e_z1797 g_z1797 rfl rfl | exact x_rb g_z1797 rfl rfl | exact ⟨by omega, by omega⟩)⟩
      · refine x_tabD k174_140 ⟨by omega, by omega⟩ c1789 (t0 := 263) rfl ?_
        refine x_sipush k174_263 (by decide +kernel) ?_
        exact x_iret k174_266 rfl ⟨hG, f, (-1002), rfl, ⟨by decide, by decide⟩⟩
    · skip
      refine x_A k174_66 (fun _ => rfl) ?_
      refine x_A k174_67 (fun _ => rfl) ?_
      refine x_getR k174_68 (f := 27) rfl (q := 256) (n := 62) (kd := 15) ⟨by decide, rfl⟩ (q2 := 277) (by decide) rfl ?_
      refine x_A k174_71 (fun _ => rfl) ?_
      refine x_iald k174_73 (q := 277) (n := 120) ⟨by decide, rfl⟩ (by decide) (by first | exact x_rbl b_x6 rfl rfl | exact ⟨by omega, by omega⟩) ?_
      refine x_top (fun z1798 e_z1798 => ?_)
      have g_z1798 : (0 : Int) ≤ s 277 x6.toNat ∧ s 277 x6.toNat ≤ 4 := hG 277 x6.toNat
      refine x_if_le k174_74 (t := 81) rfl (by first | exact x_rbe e_z1798 g_z1798 rfl rfl | exact x_rb g_z1798 rfl rfl | exact ⟨by omega, by omega⟩) (fun c1799 => ?_) (fun c1799 => ?_)
      · skip
        refine x_A k174_81 (fun _ => rfl) ?_
        refine x_iadd k174_82 ?_
        refine x_top (fun z1800 e_z1800 => ?_)
        refine x_istore_n k174_83 (ls' := [(3, vi z1800), (0, .ref 256), (1, vi x1), (2, vi x2), (4, vi x4), (5, vi x5), (6, vi x6)]) (by decide) rfl ?_
        refine x_A k174_84 (fun _ => rfl) ?_
        refine x_A k174_86 (fun _ => rfl) ?_
        refine x_getR k174_87 (f := 31) rfl (q := 256) (n := 62) (kd := 15) ⟨by decide, rfl⟩ (q2 := 281) (by decide) rfl ?_
        refine x_A k174_90 (fun _ => rfl) ?_
        refine x_bald k174_92 (q := 281) (n := 120) ⟨by decide, rfl⟩ (by decide) (by first | exact x_rbl b_x6 rfl rfl | exact ⟨by omega, by omega⟩) ?_
        refine x_top (fun z1801 e_z1801 => ?_)
        have g_z1801 : (0 : Int) ≤ s 281 x6.toNat ∧ s 281 x6.toNat ≤ 1 := hG 281 x6.toNat
        refine x_if_eq k174_93 (t := 100) rfl (by first | exact x_rbe e_z1801 g_z1801 rfl rfl | exact x_rb g_z1801 rfl rfl | exact ⟨by omega, by omega⟩) (fun c1802 => ?_) (fun c1802 => ?_)
        · skip
          refine x_A k174_100 (fun _ => rfl) ?_
          refine x_iadd k174_101 ?_
          refine x_top (fun z1803 e_z1803 => ?_)
          refine x_istore k174_102 (ls' := [(4, vi z1803), (3, vi z1800), (0, .ref 256), (1, vi x1), (2, vi x2), (5, vi x5), (6, vi x6)]) (by decide) rfl ?_
          refine x_A k174_104 (fun _ => rfl) ?_
          refine x_A k174_106 (fun _ => rfl) ?_
          refine x_bipush k174_107 (by decide +kernel) ?_
          refine x_ic_ne k174_109 (t := 129) rfl (by first | exact x_rb b_x1 rfl rfl | exact ⟨by omega, by omega⟩) ⟨by decide, by decide⟩ (fun c1804 => ?_) (fun c1804 => ?_)
          · skip
            refine x_A k174_129 (fun _ => rfl) ?_
            refine x_iadd k174_130 ?_
            refine x_top (fun z1805 e_z1805 => ?_)
            refine x_istore k174_131 (ls' := [(5, vi z1805), (4, vi z1803), (3, vi z1800), (0, .ref 256), (1, vi x1), (2, vi x2), (6, vi x6)]) (by decide) rfl ?_
            refine x_iinc k174_133 (ls' := [(6, vi (x6 + 1)), (5, vi z1805), (4, vi z1803), (3, vi z1800), (0, .ref 256), (1, vi x1), (2, vi x2)]) rfl (by decide) rfl ?_
            refine x_goto k174_136 (t := 57) rfl ?_
            refine x_ls (l := [(0, .ref 256), (1, vi x1), (2, vi x2), (3, vi z1800), (4, vi z1803), (5, vi z1805), (6, vi (x6 + 1))]) (show ([0, 1, 2, 3, 4, 5, 6] : List Nat).Nodup from by decide +kernel) ⟨rfl, rfl, rfl, rfl, rfl, rfl, rfl, trivial⟩ ?_
            exact ih s x1 x2 z1800 z1803 z1805 (x6 + 1) hG f (by first | exact x_rb b_x1 rfl rfl | exact ⟨by omega, by omega⟩) (by first | exact x_rb b_x2 rfl rfl | exact ⟨by omega, by omega⟩) (by first | exact x_rbe e_z1800 g_z1800 rfl rfl | exact x_rb g_z1800 rfl rfl | exact ⟨by omega, by omega⟩) (by first | exact x_rbe e_z1803 g_z1803 rfl rfl | exact x_rb g_z1803 rfl rfl | exact ⟨by omega, by omega⟩) (by first | exact x_rbe e_z1805 g_z1805 rfl rfl | exact x_rb g_z1805 rfl rfl | exact ⟨by omega, by omega⟩) ⟨by omega, by omega⟩ (by omega) (by omega) (by omega)  (by omega)
          · skip
            refine x_A k174_112 (fun _ => rfl) ?_
            refine x_A k174_113 (fun _ => rfl) ?_
            refine x_A k174_115 (fun _ => rfl) ?_
            refine x_getI k174_116 (f := 0) rfl (q := 256) (n := 62) (kd := 15) ⟨by decide, rfl⟩ (by decide) rfl ?_
            refine x_top (fun z1806 e_z1806 => ?_)
            have g_z1806 : (0 : Int) ≤ s 256 0 ∧ s 256 0 ≤ 9 := hG 256 0
            refine x_callV k174_119 (y := 171) (n := 2) (w0 := 1) (w1 := 2) (as := [vi x6, vi z1806]) (rest := [vi x5]) (by decide +kernel) (q := 256) (nq := 62) (kq := 15) ⟨by decide, rfl⟩ rfl rfl rfl rfl (xe_mono (C_X11_lacks_256 s hG (hJ0.fl f (by decide +kernel)) x6 (by first | exact x_rb b_x6 rfl rfl | exact ⟨by omega, by omega⟩) z1806 (by first | exact x_rbe e_z1806 g_z1806 rfl rfl | exact x_rb g_z1806 rfl rfl | exact ⟨by omega, by omega⟩)) ?_)
            rintro s1808 v ⟨hG_s1808, t_s1808, z1807, rfl, g_z1807⟩
            have f_s1808 : FL [5312, 5376, 4123, 5440, 5504, 5568, 5632, 5696, 5760] s0 s1808 := f.tr t_s1808 (by decide +kernel)
            have q1809 : s1808 256 10 = z1787 := (t_s1808 256 10 (show 4107 ∉ [5312, 5376, 4123] from by decide +kernel)).trans e_z1787.symm
            have q1810 : s1808 256 0 = z1806 := (t_s1808 256 0 (show 4097 ∉ [5312, 5376, 4123] from by decide +kernel)).trans e_z1806.symm
            have q1811 : s1808 277 x6.toNat = z1798 := (t_s1808 277 x6.toNat (show 5440 ∉ [5312, 5376, 4123] from by decide +kernel)).trans e_z1798.symm
            have q1812 : s1808 281 x6.toNat = z1801 := (t_s1808 281 x6.toNat (show 5696 ∉ [5312, 5376, 4123] from by decide +kernel)).trans e_z1801.symm
            show xe none 174 122 [(4, vi z1803), (3, vi z1800), (0, .ref 256), (1, vi x1), (2, vi x2), (5, vi x5), (6, vi x6)] [vi z1807, vi x5] s1808 0 0 _
            refine x_if_eq k174_122 (t := 129) rfl (by first | exact x_rbe e_z1807 g_z1807 rfl rfl | exact x_rb g_z1807 rfl rfl | exact ⟨by omega, by omega⟩) (fun c1813 => ?_) (fun c1813 => ?_)
            · skip
              refine x_A k174_129 (fun _ => rfl) ?_
              refine x_iadd k174_130 ?_
              refine x_top (fun z1814 e_z1814 => ?_)
              refine x_istore k174_131 (ls' := [(5, vi z1814), (4, vi z1803), (3, vi z1800), (0, .ref 256), (1, vi x1), (2, vi x2), (6, vi x6)]) (by decide) rfl ?_
              refine x_iinc k174_133 (ls' := [(6, vi (x6 + 1)), (5, vi z1814), (4, vi z1803), (3, vi z1800), (0, .ref 256), (1, vi x1), (2, vi x2)]) rfl (by decide) rfl ?_
              refine x_goto k174_136 (t := 57) rfl ?_
              refine x_ls (l := [(0, .ref 256), (1, vi x1), (2, vi x2), (3, vi z1800), (4, vi z1803), (5, vi z1814), (6, vi (x6 + 1))]) (show ([0, 1, 2, 3, 4, 5, 6] : List Nat).Nodup from by decide +kernel) ⟨rfl, rfl, rfl, rfl, rfl, rfl, rfl, trivial⟩ ?_
              exact ih s1808 x1 x2 z1800 z1803 z1814 (x6 + 1) hG_s1808 f_s1808 (by first | exact x_rb b_x1 rfl rfl | exact ⟨by omega, by omega⟩) (by first | exact x_rb b_x2 rfl rfl | exact ⟨by omega, by omega⟩) (by first | exact x_rbe e_z1800 g_z1800 rfl rfl | exact x_rb g_z1800 rfl rfl | exact ⟨by omega, by omega⟩) (by first | exact x_rbe e_z1803 g_z1803 rfl rfl | exact x_rb g_z1803 rfl rfl | exact ⟨by omega, by omega⟩) (by first | exact x_rbe e_z1814 g_z1814 rfl rfl | exact x_rb g_z1814 rfl rfl | exact ⟨by omega, by omega⟩) ⟨by omega, by omega⟩ (by omega) (by omega) (by omega)  (by omega)
            · skip
              refine x_A k174_125 (fun _ => rfl) ?_
              refine x_goto k174_126 (t := 130) rfl ?_
              refine x_iadd k174_130 ?_
              refine x_top (fun z1815 e_z1815 => ?_)
              refine x_istore k174_131 (ls' := [(5, vi z1815), (4, vi z1803), (3, vi z1800), (0, .ref 256), (1, vi x1), (2, vi x2), (6, vi x6)]) (by decide) rfl ?_
              refine x_iinc k174_133 (ls' := [(6, vi (x6 + 1)), (5, vi z1815), (4, vi z1803), (3, vi z1800), (0, .ref 256), (1, vi x1), (2, vi x2)]) rfl (by decide) rfl ?_
              refine x_goto k174_136 (t := 57) rfl ?_
              refine x_ls (l := [(0, .ref 256), (1, vi x1), (2, vi x2), (3, vi z1800), (4, vi z1803), (5, vi z1815), (6, vi (x6 + 1))]) (show ([0, 1, 2, 3, 4, 5, 6] : List Nat).Nodup from by decide +kernel) ⟨rfl, rfl, rfl, rfl, rfl, rfl, rfl, trivial⟩ ?_
              exact ih s1808 x1 x2 z1800 z1803 z1815 (x6 + 1) hG_s1808 f_s1808 (by first | exact x_rb b_x1 rfl rfl | exact ⟨by omega, by omega⟩) (by first | exact x_rb b_x2 rfl rfl | exact ⟨by omega, by omega⟩) (by first | exact x_rbe e_z1800 g_z1800 rfl rfl | exact x_rb g_z1800 rfl rfl | exact ⟨by omega, by omega⟩) (by first | exact x_rbe e_z1803 g_z1803 rfl rfl | exact x_rb g_z1803 rfl rfl | exact ⟨by omega, by omega⟩) (by first | exact x_rbe e_z1815 g_z1815 rfl rfl | exact x_rb g_z1815 rfl rfl | exact ⟨by omega, by omega⟩) ⟨by omega, by omega⟩ (by omega) (by omega) (by omega)  (by omega)
        · skip
          refine x_A k174_96 (fun _ => rfl) ?_
          refine x_goto k174_97 (t := 101) rfl ?_
          refine x_iadd k174_101 ?_
          refine x_top (fun z1816 e_z1816 => ?_)
          refine x_istore k174_102 (ls' := [(4, vi z1816), (3, vi z1800), (0, .ref 256), (1, vi x1), (2, vi x2), (5, vi x5), (6, vi x6)]) (by decide) rfl ?_
          refine x_A k174_104 (fun _ => rfl) ?_
          refine x_A k174_106 (fun _ => rfl) ?_
          refine x_bipush k174_107 (by decide +kernel) ?_
          refine x_ic_ne k174_109 (t := 129) rfl (by first | exact x_rb b_x1 rfl rfl | exact ⟨by omega, by omega⟩) ⟨by decide, by decide⟩ (fun c1817 => ?_) (fun c1817 => ?_)
          · skip
            refine x_A k174_129 (fun _ => rfl) ?_
            refine x_iadd k174_130 ?_
            refine x_top (fun z1818 e_z1818 => ?_)
            refine x_istore k174_131 (ls' := [(5, vi z1818), (4, vi z1816), (3, vi z1800), (0, .ref 256), (1, vi x1), (2, vi x2), (6, vi x6)]) (by decide) rfl ?_
            refine x_iinc k174_133 (ls' := [(6, vi (x6 + 1)), (5, vi z1818), (4, vi z1816), (3, vi z1800), (0, .ref 256), (1, vi x1), (2, vi x2)]) rfl (by decide) rfl ?_
            refine x_goto k174_136 (t := 57) rfl ?_
            refine x_ls (l := [(0, .ref 256), (1, vi x1), (2, vi x2), (3, vi z1800), (4, vi z1816), (5, vi z1818), (6, vi (x6 + 1))]) (show ([0, 1, 2, 3, 4, 5, 6] : List Nat).Nodup from by decide +kernel) ⟨rfl, rfl, rfl, rfl, rfl, rfl, rfl, trivial⟩ ?_
            exact ih s x1 x2 z1800 z1816 z1818 (x6 + 1) hG f (by first | exact x_rb b_x1 rfl rfl | exact ⟨by omega, by omega⟩) (by first | exact x_rb b_x2 rfl rfl | exact ⟨by omega, by omega⟩) (by first | exact x_rbe e_z1800 g_z1800 rfl rfl | exact x_rb g_z1800 rfl rfl | exact ⟨by omega, by omega⟩) (by first | exact x_rbe e_z1816 g_z1816 rfl rfl | exact x_rb g_z1816 rfl rfl | exact ⟨by omega, by omega⟩) (by first | exact x_rbe e_z1818 g_z1818 rfl rfl | exact x_rb g_z1818 rfl rfl | exact ⟨by omega, by omega⟩) ⟨by omega, by omega⟩ (by omega) (by omega) (by omega)  (by omega)
          · skip
            refine x_A k174_112 (fun _ => rfl) ?_
            refine x_A k174_113 (fun _ => rfl) ?_
            refine x_A k174_115 (fun _ => rfl) ?_
            refine x_getI k174_116 (f := 0) rfl (q := 256) (n := 62) (kd := 15) ⟨by decide, rfl⟩ (by decide) rfl ?_
            refine x_top (fun z1819 e_z1819 => ?_)
            have g_z1819 : (0 : Int) ≤ s 256 0 ∧ s 256 0 ≤ 9 := hG 256 0
            refine x_callV k174_119 (y := 171) (n := 2) (w0 := 1) (w1 := 2) (as := [vi x6, vi z1819]) (rest := [vi x5]) (by decide +kernel) (q := 256) (nq := 62) (kq := 15) ⟨by decide, rfl⟩ rfl rfl rfl rfl (xe_mono (C_X11_lacks_256 s hG (hJ0.fl f (by decide +kernel)) x6 (by first | exact x_rb b_x6 rfl rfl | exact ⟨by omega, by omega⟩) z1819 (by first | exact x_rbe e_z1819 g_z1819 rfl rfl | exact x_rb g_z1819 rfl rfl | exact ⟨by omega, by omega⟩)) ?_)
            rintro s1821 v ⟨hG_s1821, t_s1821, z1820, rfl, g_z1820⟩
            have f_s1821 : FL [5312, 5376, 4123, 5440, 5504, 5568, 5632, 5696, 5760] s0 s1821 := f.tr t_s1821 (by decide +kernel)
            have q1822 : s1821 256 10 = z1787 := (t_s1821 256 10 (show 4107 ∉ [5312, 5376, 4123] from by decide +kernel)).trans e_z1787.symm
            have q1823 : s1821 256 0 = z1819 := (t_s1821 256 0 (show 4097 ∉ [5312, 5376, 4123] from by decide +kernel)).trans e_z1819.symm
            have q1824 : s1821 277 x6.toNat = z1798 := (t_s1821 277 x6.toNat (show 5440 ∉ [5312, 5376, 4123] from by decide +kernel)).trans e_z1798.symm
            have q1825 : s1821 281 x6.toNat = z1801 := (t_s1821 281 x6.toNat (show 5696 ∉ [5312, 5376, 4123] from by decide +kernel)).trans e_z1801.symm
            show xe none 174 122 [(4, vi z1816), (3, vi z1800), (0, .ref 256), (1, vi x1), (2, vi x2), (5, vi x5), (6, vi x6)] [vi z1820, vi x5] s1821 0 0 _
            refine x_if_eq k174_122 (t := 129) rfl (by first | exact x_rbe e_z1820 g_z1820 rfl rfl | exact x_rb g_z1820 rfl rfl | exact ⟨by omega, by omega⟩) (fun c1826 => ?_) (fun c1826 => ?_)
            · skip
              refine x_A k174_129 (fun _ => rfl) ?_
              refine x_iadd k174_130 ?_
              refine x_top (fun z1827 e_z1827 => ?_)
              refine x_istore k174_131 (ls' := [(5, vi z1827), (4, vi z1816), (3, vi z1800), (0, .ref 256), (1, vi x1), (2, vi x2), (6, vi x6)]) (by decide) rfl ?_
              refine x_iinc k174_133 (ls' := [(6, vi (x6 + 1)), (5, vi z1827), (4, vi z1816), (3, vi z1800), (0, .ref 256), (1, vi x1), (2, vi x2)]) rfl (by decide) rfl ?_
              refine x_goto k174_136 (t := 57) rfl ?_
              refine x_ls (l := [(0, .ref 256), (1, vi x1), (2, vi x2), (3, vi z1800), (4, vi z1816), (5, vi z1827), (6, vi (x6 + 1))]) (show ([0, 1, 2, 3, 4, 5, 6] : List Nat).Nodup from by decide +kernel) ⟨rfl, rfl, rfl, rfl, rfl, rfl, rfl, trivial⟩ ?_
              exact ih s1821 x1 x2 z1800 z1816 z1827 (x6 + 1) hG_s1821 f_s1821 (by first | exact x_rb b_x1 rfl rfl | exact ⟨by omega, by omega⟩) (by first | exact x_rb b_x2 rfl rfl | exact ⟨by omega, by omega⟩) (by first | exact x_rbe e_z1800 g_z1800 rfl rfl | exact x_rb g_z1800 rfl rfl | exact ⟨by omega, by omega⟩) (by first | exact x_rbe e_z1816 g_z1816 rfl rfl | exact x_rb g_z1816 rfl rfl | exact ⟨by omega, by omega⟩) (by first | exact x_rbe e_z1827 g_z1827 rfl rfl | exact x_rb g_z1827 rfl rfl | exact ⟨by omega, by omega⟩) ⟨by omega, by omega⟩ (by omega) (by omega) (by omega)  (by omega)
            · skip
              refine x_A k174_125 (fun _ => rfl) ?_
              refine x_goto k174_126 (t := 130) rfl ?_
              refine x_iadd k174_130 ?_
              refine x_top (fun z1828 e_z1828 => ?_)
              refine x_istore k174_131 (ls' := [(5, vi z1828), (4, vi z1816), (3, vi z1800), (0, .ref 256), (1, vi x1), (2, vi x2), (6, vi x6)]) (by decide) rfl ?_
              refine x_iinc k174_133 (ls' := [(6, vi (x6 + 1)), (5, vi z1828), (4, vi z1816), (3, vi z1800), (0, .ref 256), (1, vi x1), (2, vi x2)]) rfl (by decide) rfl ?_
              refine x_goto k174_136 (t := 57) rfl ?_
              refine x_ls (l := [(0, .ref 256), (1, vi x1), (2, vi x2), (3, vi z1800), (4, vi z1816), (5, vi z1828), (6, vi (x6 + 1))]) (show ([0, 1, 2, 3, 4, 5, 6] : List Nat).Nodup from by decide +kernel) ⟨rfl, rfl, rfl, rfl, rfl, rfl, rfl, trivial⟩ ?_
              exact ih s1821 x1 x2 z1800 z1816 z1828 (x6 + 1) hG_s1821 f_s1821 (by first | exact x_rb b_x1 rfl rfl | exact ⟨by omega, by omega⟩) (by first | exact x_rb b_x2 rfl rfl | exact ⟨by omega, by omega⟩) (by first | exact x_rbe e_z1800 g_z1800 rfl rfl | exact x_rb g_z1800 rfl rfl | exact ⟨by omega, by omega⟩) (by first | exact x_rbe e_z1816 g_z1816 rfl rfl | exact x_rb g_z1816 rfl rfl | exact ⟨by omega, by omega⟩) (by first | exact x_rbe e_z1828 g_z1828 rfl rfl | exact x_rb g_z1828 rfl rfl | exact ⟨by omega, by omega⟩) ⟨by omega, by omega⟩ (by omega) (by omega) (by omega)  (by omega)
      · skip
        refine x_A k174_77 (fun _ => rfl) ?_
        refine x_goto k174_78 (t := 82) rfl ?_
        refine x_iadd k174_82 ?_
        refine x_top (fun z1829 e_z1829 => ?_)
        refine x_istore_n k174_83 (ls' := [(3, vi z1829), (0, .ref 256), (1, vi x1), (2, vi x2), (4, vi x4), (5, vi x5), (6, vi x6)]) (by decide) rfl ?_
        refine x_A k174_84 (fun _ => rfl) ?_
        refine x_A k174_86 (fun _ => rfl) ?_
        refine x_getR k174_87 (f := 31) rfl (q := 256) (n := 62) (kd := 15) ⟨by decide, rfl⟩ (q2 := 281) (by decide) rfl ?_
        refine x_A k174_90 (fun _ => rfl) ?_
        refine x_bald k174_92 (q := 281) (n := 120) ⟨by decide, rfl⟩ (by decide) (by first | exact x_rbl b_x6 rfl rfl | exact ⟨by omega, by omega⟩) ?_
        refine x_top (fun z1830 e_z1830 => ?_)
        have g_z1830 : (0 : Int) ≤ s 281 x6.toNat ∧ s 281 x6.toNat ≤ 1 := hG 281 x6.toNat
        refine x_if_eq k174_93 (t := 100) rfl (by first | exact x_rbe e_z1830 g_z1830 rfl rfl | exact x_rb g_z1830 rfl rfl | exact ⟨by omega, by omega⟩) (fun c1831 => ?_) (fun c1831 => ?_)
        · skip
          refine x_A k174_100 (fun _ => rfl) ?_
          refine x_iadd k174_101 ?_
          refine x_top (fun z1832 e_z1832 => ?_)
          refine x_istore k174_102 (ls' := [(4, vi z1832), (3, vi z1829), (0, .ref 256), (1, vi x1), (2, vi x2), (5, vi x5), (6, vi x6)]) (by decide) rfl ?_
          refine x_A k174_104 (fun _ => rfl) ?_
          refine x_A k174_106 (fun _ => rfl) ?_
          refine x_bipush k174_107 (by decide +kernel) ?_
          refine x_ic_ne k174_109 (t := 129) rfl (by first | exact x_rb b_x1 rfl rfl | exact ⟨by omega, by omega⟩) ⟨by decide, by decide⟩ (fun c1833 => ?_) (fun c1833 => ?_)
          · skip
            refine x_A k174_129 (fun _ => rfl) ?_
            refine x_iadd k174_130 ?_
            refine x_top (fun z1834 e_z1834 => ?_)
            refine x_istore k174_131 (ls' := [(5, vi z1834), (4, vi z1832), (3, vi z1829), (0, .ref 256), (1, vi x1), (2, vi x2), (6, vi x6)]) (by decide) rfl ?_
            refine x_iinc k174_133 (ls' := [(6, vi (x6 + 1)), (5, vi z1834), (4, vi z1832), (3, vi z1829), (0, .ref 256), (1, vi x1), (2, vi x2)]) rfl (by decide) rfl ?_
            refine x_goto k174_136 (t := 57) rfl ?_
            refine x_ls (l := [(0, .ref 256), (1, vi x1), (2, vi x2), (3, vi z1829), (4, vi z1832), (5, vi z1834), (6, vi (x6 + 1))]) (show ([0, 1, 2, 3, 4, 5, 6] : List Nat).Nodup from by decide +kernel) ⟨rfl, rfl, rfl, rfl, rfl, rfl, rfl, trivial⟩ ?_
            exact ih s x1 x2 z1829 z1832 z1834 (x6 + 1) hG f (by first | exact x_rb b_x1 rfl rfl | exact ⟨by omega, by omega⟩) (by first | exact x_rb b_x2 rfl rfl | exact ⟨by omega, by omega⟩) (by first | exact x_rbe e_z1829 g_z1829 rfl rfl | exact x_rb g_z1829 rfl rfl | exact ⟨by omega, by omega⟩) (by first | exact x_rbe e_z1832 g_z1832 rfl rfl | exact x_rb g_z1832 rfl rfl | exact ⟨by omega, by omega⟩) (by first | exact x_rbe e_z1834 g_z1834 rfl rfl | exact x_rb g_z1834 rfl rfl | exact ⟨by omega, by omega⟩) ⟨by omega, by omega⟩ (by omega) (by omega) (by omega)  (by omega)
          · skip
            refine x_A k174_112 (fun _ => rfl) ?_
            refine x_A k174_113 (fun _ => rfl) ?_
            refine x_A k174_115 (fun _ => rfl) ?_
            refine x_getI k174_116 (f := 0) rfl (q := 256) (n := 62) (kd := 15) ⟨by decide, rfl⟩ (by decide) rfl ?_
            refine x_top (fun z1835 e_z1835 => ?_)
            have g_z1835 : (0 : Int) ≤ s 256 0 ∧ s 256 0 ≤ 9 := hG 256 0
            refine x_callV k174_119 (y := 171) (n := 2) (w0 := 1) (w1 := 2) (as := [vi x6, vi z1835]) (rest := [vi x5]) (by decide +kernel) (q := 256) (nq := 62) (kq := 15) ⟨by decide, rfl⟩ rfl rfl rfl rfl (xe_mono (C_X11_lacks_256 s hG (hJ0.fl f (by decide +kernel)) x6 (by first | exact x_rb b_x6 rfl rfl | exact ⟨by omega, by omega⟩) z1835 (by first | exact x_rbe e_z1835 g_z1835 rfl rfl | exact x_rb g_z1835 rfl rfl | exact ⟨by omega, by omega⟩)) ?_)
            rintro s1837 v ⟨hG_s1837, t_s1837, z1836, rfl, g_z1836⟩
            have f_s1837 : FL [5312, 5376, 4123, 5440, 5504, 5568, 5632, 5696, 5760] s0 s1837 := f.tr t_s1837 (by decide +kernel)
            have q1838 : s1837 256 10 = z1787 := (t_s1837 256 10 (show 4107 ∉ [5312, 5376, 4123] from by decide +kernel)).trans e_z1787.symm
            have q1839 : s1837 256 0 = z1835 := (t_s1837 256 0 (show 4097 ∉ [5312, 5376, 4123] from by decide +kernel)).trans e_z1835.symm
            have q1840 : s1837 277 x6.toNat = z1798 := (t_s1837 277 x6.toNat (show 5440 ∉ [5312, 5376, 4123] from by decide +kernel)).trans e_z1798.symm
            have q1841 : s1837 281 x6.toNat = z1830 := (t_s1837 281 x6.toNat (show 5696 ∉ [5312, 5376, 4123] from by decide +kernel)).trans e_z1830.symm
            show xe none 174 122 [(4, vi z1832), (3, vi z1829), (0, .ref 256), (1, vi x1), (2, vi x2), (5, vi x5), (6, vi x6)] [vi z1836, vi x5] s1837 0 0 _
            refine x_if_eq k174_122 (t := 129) rfl (by first | exact x_rbe e_z1836 g_z1836 rfl rfl | exact x_rb g_z1836 rfl rfl | exact ⟨by omega, by omega⟩) (fun c1842 => ?_) (fun c1842 => ?_)
            · skip
              refine x_A k174_129 (fun _ => rfl) ?_
              refine x_iadd k174_130 ?_
              refine x_top (fun z1843 e_z1843 => ?_)
              refine x_istore k174_131 (ls' := [(5, vi z1843), (4, vi z1832), (3, vi z1829), (0, .ref 256), (1, vi x1), (2, vi x2), (6, vi x6)]) (by decide) rfl ?_
              refine x_iinc k174_133 (ls' := [(6, vi (x6 + 1)), (5, vi z1843), (4, vi z1832), (3, vi z1829), (0, .ref 256), (1, vi x1), (2, vi x2)]) rfl (by decide) rfl ?_
              refine x_goto k174_136 (t := 57) rfl ?_
              refine x_ls (l := [(0, .ref 256), (1, vi x1), (2, vi x2), (3, vi z1829), (4, vi z1832), (5, vi z1843), (6, vi (x6 + 1))]) (show ([0, 1, 2, 3, 4, 5, 6] : List Nat).Nodup from by decide +kernel) ⟨rfl, rfl, rfl, rfl, rfl, rfl, rfl, trivial⟩ ?_
              exact ih s1837 x1 x2 z1829 z1832 z1843 (x6 + 1) hG_s1837 f_s1837 (by first | exact x_rb b_x1 rfl rfl | exact ⟨by omega, by omega⟩) (by first | exact x_rb b_x2 rfl rfl | exact ⟨by omega, by omega⟩) (by first | exact x_rbe e_z1829 g_z1829 rfl rfl | exact x_rb g_z1829 rfl rfl | exact ⟨by omega, by omega⟩) (by first | exact x_rbe e_z1832 g_z1832 rfl rfl | exact x_rb g_z1832 rfl rfl | exact ⟨by omega, by omega⟩) (by first | exact x_rbe e_z1843 g_z1843 rfl rfl | exact x_rb g_z1843 rfl rfl | exact ⟨by omega, by omega⟩) ⟨by omega, by omega⟩ (by omega) (by omega) (by omega)  (by omega)
            · skip
              refine x_A k174_125 (fun _ => rfl) ?_
              refine x_goto k174_126 (t := 130) rfl ?_
              refine x_iadd k174_130 ?_
              refine x_top (fun z1844 e_z1844 => ?_)
              refine x_istore k174_131 (ls' := [(5, vi z1844), (4, vi z1832), (3, vi z1829), (0, .ref 256), (1, vi x1), (2, vi x2), (6, vi x6)]) (by decide) rfl ?_
              refine x_iinc k174_133 (ls' := [(6, vi (x6 + 1)), (5, vi z1844), (4, vi z1832), (3, vi z1829), (0, .ref 256), (1, vi x1), (2, vi x2)]) rfl (by decide) rfl ?_
              refine x_goto k174_136 (t := 57) rfl ?_
              refine x_ls (l := [(0, .ref 256), (1, vi x1), (2, vi x2), (3, vi z1829), (4, vi z1832), (5, vi z1844), (6, vi (x6 + 1))]) (show ([0, 1, 2, 3, 4, 5, 6] : List Nat).Nodup from by decide +kernel) ⟨rfl, rfl, rfl, rfl, rfl, rfl, rfl, trivial⟩ ?_
              exact ih s1837 x1 x2 z1829 z1832 z1844 (x6 + 1) hG_s1837 f_s1837 (by first | exact x_rb b_x1 rfl rfl | exact ⟨by omega, by omega⟩) (by first | exact x_rb b_x2 rfl rfl | exact ⟨by omega, by omega⟩) (by first | exact x_rbe e_z1829 g_z1829 rfl rfl | exact x_rb g_z1829 rfl rfl | exact ⟨by omega, by omega⟩) (by first | exact x_rbe e_z1832 g_z1832 rfl rfl | exact x_rb g_z1832 rfl rfl | exact ⟨by omega, by omega⟩) (by first | exact x_rbe e_z1844 g_z1844 rfl rfl | exact x_rb g_z1844 rfl rfl | exact ⟨by omega, by omega⟩) ⟨by omega, by omega⟩ (by omega) (by omega) (by omega)  (by omega)
        · skip
          refine x_A k174_96 (fun _ => rfl) ?_
          refine x_goto k174_97 (t := 101) rfl ?_
          refine x_iadd k174_101 ?_
          refine x_top (fun z1845 e_z1845 => ?_)
          refine x_istore k174_102 (ls' := [(4, vi z1845), (3, vi z1829), (0, .ref 256), (1, vi x1), (2, vi x2), (5, vi x5), (6, vi x6)]) (by decide) rfl ?_
          refine x_A k174_104 (fun _ => rfl) ?_
          refine x_A k174_106 (fun _ => rfl) ?_
          refine x_bipush k174_107 (by decide +kernel) ?_
          refine x_ic_ne k174_109 (t := 129) rfl (by first | exact x_rb b_x1 rfl rfl | exact ⟨by omega, by omega⟩) ⟨by decide, by decide⟩ (fun c1846 => ?_) (fun c1846 => ?_)
          · skip
            refine x_A k174_129 (fun _ => rfl) ?_
            refine x_iadd k174_130 ?_
            refine x_top (fun z1847 e_z1847 => ?_)
            refine x_istore k174_131 (ls' := [(5, vi z1847), (4, vi z1845), (3, vi z1829), (0, .ref 256), (1, vi x1), (2, vi x2), (6, vi x6)]) (by decide) rfl ?_
            refine x_iinc k174_133 (ls' := [(6, vi (x6 + 1)), (5, vi z1847), (4, vi z1845), (3, vi z1829), (0, .ref 256), (1, vi x1), (2, vi x2)]) rfl (by decide) rfl ?_
            refine x_goto k174_136 (t := 57) rfl ?_
            refine x_ls (l := [(0, .ref 256), (1, vi x1), (2, vi x2), (3, vi z1829), (4, vi z1845), (5, vi z1847), (6, vi (x6 + 1))]) (show ([0, 1, 2, 3, 4, 5, 6] : List Nat).Nodup from by decide +kernel) ⟨rfl, rfl, rfl, rfl, rfl, rfl, rfl, trivial⟩ ?_
            exact ih s x1 x2 z1829 z1845 z1847 (x6 + 1) hG f (by first | exact x_rb b_x1 rfl rfl | exact ⟨by omega, by omega⟩) (by first | exact x_rb b_x2 rfl rfl | exact ⟨by omega, by omega⟩) (by first | exact x_rbe e_z1829 g_z1829 rfl rfl | exact x_rb g_z1829 rfl rfl | exact ⟨by omega, by omega⟩) (by first | exact x_rbe e_z1845 g_z1845 rfl rfl | exact x_rb g_z1845 rfl rfl | exact ⟨by omega, by omega⟩) (by first | exact x_rbe e_z1847 g_z1847 rfl rfl | exact x_rb g_z1847 rfl rfl | exact ⟨by omega, by omega⟩) ⟨by omega, by omega⟩ (by omega) (by omega) (by omega)  (by omega)
          · skip
            refine x_A k174_112 (fun _ => rfl) ?_
            refine x_A k174_113 (fun _ => rfl) ?_
            refine x_A k174_115 (fun _ => rfl) ?_
            refine x_getI k174_116 (f := 0) rfl (q := 256) (n := 62) (kd := 15) ⟨by decide, rfl⟩ (by decide) rfl ?_
            refine x_top (fun z1848 e_z1848 => ?_)
            have g_z1848 : (0 : Int) ≤ s 256 0 ∧ s 256 0 ≤ 9 := hG 256 0
            refine x_callV k174_119 (y := 171) (n := 2) (w0 := 1) (w1 := 2) (as := [vi x6, vi z1848]) (rest := [vi x5]) (by decide +kernel) (q := 256) (nq := 62) (kq := 15) ⟨by decide, rfl⟩ rfl rfl rfl rfl (xe_mono (C_X11_lacks_256 s hG (hJ0.fl f (by decide +kernel)) x6 (by first | exact x_rb b_x6 rfl rfl | exact ⟨by omega, by omega⟩) z1848 (by first | exact x_rbe e_z1848 g_z1848 rfl rfl | exact x_rb g_z1848 rfl rfl | exact ⟨by omega, by omega⟩)) ?_)
            rintro s1850 v ⟨hG_s1850, t_s1850, z1849, rfl, g_z1849⟩
            have f_s1850 : FL [5312, 5376, 4123, 5440, 5504, 5568, 5632, 5696, 5760] s0 s1850 := f.tr t_s1850 (by decide +kernel)
            have q1851 : s1850 256 10 = z1787 := (t_s1850 256 10 (show 4107 ∉ [5312, 5376, 4123] from by decide +kernel)).trans e_z1787.symm
            have q1852 : s1850 256 0 = z1848 := (t_s1850 256 0 (show 4097 ∉ [5312, 5376, 4123] from by decide +kernel)).trans e_z1848.symm
            have q1853 : s1850 277 x6.toNat = z1798 := (t_s1850 277 x6.toNat (show 5440 ∉ [5312, 5376, 4123] from by decide +kernel)).trans e_z1798.symm
            have q1854 : s1850 281 x6.toNat = z1830 := (t_s1850 281 x6.toNat (show 5696 ∉ [5312, 5376, 4123] from by decide +kernel)).trans e_z1830.symm
            show xe none 174 122 [(4, vi z1845), (3, vi z1829), (0, .ref 256), (1, vi x1), (2, vi x2), (5, vi x5), (6, vi x6)] [vi z1849, vi x5] s1850 0 0 _
            refine x_if_eq k174_122 (t := 129) rfl (by first | exact x_rbe e_z1849 g_z1849 rfl rfl | exact x_rb g_z1849 rfl rfl | exact ⟨by omega, by omega⟩) (fun c1855 => ?_) (fun c1855 => ?_)
            · skip
              refine x_A k174_129 (fun _ => rfl) ?_
              refine x_iadd k174_130 ?_
              refine x_top (fun z1856 e_z1856 => ?_)
              refine x_istore k174_131 (ls' := [(5, vi z1856), (4, vi z1845), (3, vi z1829), (0, .ref 256), (1, vi x1), (2, vi x2), (6, vi x6)]) (by decide) rfl ?_
              refine x_iinc k174_133 (ls' := [(6, vi (x6 + 1)), (5, vi z1856), (4, vi z1845), (3, vi z1829), (0, .ref 256), (1, vi x1), (2, vi x2)]) rfl (by decide) rfl ?_
              refine x_goto k174_136 (t := 57) rfl ?_
              refine x_ls (l := [(0, .ref 256), (1, vi x1), (2, vi x2), (3, vi z1829), (4, vi z1845), (5, vi z1856), (6, vi (x6 + 1))]) (show ([0, 1, 2, 3, 4, 5, 6] : List Nat).Nodup from by decide +kernel) ⟨rfl, rfl, rfl, rfl, rfl, rfl, rfl, trivial⟩ ?_
              exact ih s1850 x1 x2 z1829 z1845 z1856 (x6 + 1) hG_s1850 f_s1850 (by first | exact x_rb b_x1 rfl rfl | exact ⟨by omega, by omega⟩) (by first | exact x_rb b_x2 rfl rfl | exact ⟨by omega, by omega⟩) (by first | exact x_rbe e_z1829 g_z1829 rfl rfl | exact x_rb g_z1829 rfl rfl | exact ⟨by omega, by omega⟩) (by first | exact x_rbe e_z1845 g_z1845 rfl rfl | exact x_rb g_z1845 rfl rfl | exact ⟨by omega, by omega⟩) (by first | exact x_rbe e_z1856 g_z1856 rfl rfl | exact x_rb g_z1856 rfl rfl | exact ⟨by omega, by omega⟩) ⟨by omega, by omega⟩ (by omega) (by omega) (by omega)  (by omega)
            · skip
              refine x_A k174_125 (fun _ => rfl) ?_
              refine x_goto k174_126 (t := 130) rfl ?_
              refine x_iadd k174_130 ?_
              refine x_top (fun z1857 e_z1857 => ?_)
              refine x_istore k174_131 (ls' := [(5, vi z1857), (4, vi z1845), (3, vi z1829), (0, .ref 256), (1, vi x1), (2, vi x2), (6, vi x6)]) (by decide) rfl ?_
              refine x_iinc k174_133 (ls' := [(6, vi (x6 + 1)), (5, vi z1857), (4, vi z1845), (3, vi z1829), (0, .ref 256), (1, vi x1), (2, vi x2)]) rfl (by decide) rfl ?_
              refine x_goto k174_136 (t := 57) rfl ?_
              refine x_ls (l := [(0, .ref 256), (1, vi x1), (2, vi x2), (3, vi z1829), (4, vi z1845), (5, vi z1857), (6, vi (x6 + 1))]) (show ([0, 1, 2, 3, 4, 5, 6] : List Nat).Nodup from by decide +kernel) ⟨rfl, rfl, rfl, rfl, rfl, rfl, rfl, trivial⟩ ?_
              exact ih s1850 x1 x2 z1829 z1845 z1857 (x6 + 1) hG_s1850 f_s1850 (by first | exact x_rb b_x1 rfl rfl | exact ⟨by omega, by omega⟩) (by first | exact x_rb b_x2 rfl rfl | exact ⟨by omega, by omega⟩) (by first | exact x_rbe e_z1829 g_z1829 rfl rfl | exact x_rb g_z1829 rfl rfl | exact ⟨by omega, by omega⟩) (by first | exact x_rbe e_z1845 g_z1845 rfl rfl | exact x_rb g_z1845 rfl rfl | exact ⟨by omega, by omega⟩) (by first | exact x_rbe e_z1857 g_z1857 rfl rfl | exact x_rb g_z1857 rfl rfl | exact ⟨by omega, by omega⟩) ⟨by omega, by omega⟩ (by omega) (by omega) (by omega)  (by omega)
theorem L_C_X11_count_256_12 (s0 : xS) (hJ0 : J s0)  : ∀ (n : Nat) (s : xS) (x1 : Int) (x2 : Int) (x3 : Int) (hG : GI s) (f : FL [5312, 5376, 4123, 5440, 5504, 5568, 5632, 5696, 5760] s0 s) (b_x1 : (-2147483648) ≤ x1 ∧ x1 ≤ 2147483647) (b_x2 : 0 ≤ x2 ∧ x2 ≤ 60) (b_x3 : 0 ≤ x3 ∧ x3 ≤ 40) (r_2_3 : x2 ≤ x3 + 0)  (hm : (40 - x3) < (n : Int)), xe none 174 12 [(0, .ref 256), (1, vi x1), (2, vi x2), (3, vi x3)] [] s 0 0 (fun s' v => GI s' ∧ FL [5312, 5376, 4123, 5440, 5504, 5568, 5632, 5696, 5760] s0 s' ∧ ∃ z, v = some (vi z) ∧ ((-2147483648) ≤ z ∧ z ≤ 2147483647)) := by
  intro n
  induction n with
  | zero => intro s x1 x2 x3 hG f b_x1 b_x2 b_x3 r_2_3  hm; exfalso; omega
  | succ n ih =>
    intro s x1 x2 x3 hG f b_x1 b_x2 b_x3 r_2_3  hm
    refine x_A k174_12 (fun _ => rfl) ?_
    refine x_A k174_13 (fun _ => rfl) ?_
    refine x_getI k174_14 (f := 1) rfl (q := 256) (n := 62) (kd := 15) ⟨by decide, rfl⟩ (by decide) rfl ?_
    refine x_top (fun z1858 e_z1858 => ?_)
    have g_z1858 : (1 : Int) ≤ s 256 1 ∧ s 256 1 ≤ 40 := hG 256 1
    refine x_ic_ge k174_17 (t := 46) rfl (by first | exact x_rb b_x3 rfl rfl | exact ⟨by omega, by omega⟩) (by first | exact x_rbe e_z1858 g_z1858 rfl rfl | exact x_rb g_z1858 rfl rfl | exact ⟨by omega, by omega⟩) (fun c1859 => ?_) (fun c1859 => ?_)
    · skip
      refine x_A k174_46 (fun _ => rfl) ?_
      refine x_istore_n k174_47 (ls' := [(3, vi 0), (0, .ref 256), (1, vi x1), (2, vi x2)]) (by decide) rfl ?_
      refine x_A k174_48 (fun _ => rfl) ?_
      refine x_istore k174_49 (ls' := [(4, vi 0), (3, vi 0), (0, .ref 256), (1, vi x1), (2, vi x2)]) (by decide) rfl ?_
      refine x_A k174_51 (fun _ => rfl) ?_
      refine x_istore k174_52 (ls' := [(5, vi 0), (4, vi 0), (3, vi 0), (0, .ref 256), (1, vi x1), (2, vi x2)]) (by decide) rfl ?_
      refine x_A k174_54 (fun _ => rfl) ?_
      refine x_istore k174_55 (ls' := [(6, vi 0), (5, vi 0), (4, vi 0), (3, vi 0), (0, .ref 256), (1, vi x1), (2, vi x2)]) (by decide) rfl ?_
      refine x_ls (l := [(0, .ref 256), (1, vi x1), (2, vi x2), (3, vi 0), (4, vi 0), (5, vi 0), (6, vi 0)]) (show ([0, 1, 2, 3, 4, 5, 6] : List Nat).Nodup from by decide +kernel) ⟨rfl, rfl, rfl, rfl, rfl, rfl, rfl, trivial⟩ ?_
      exact L_C_X11_count_256_57 s0 hJ0  (((120 - 0) + 1 : Int)).toNat s x1 x2 0 0 0 0 hG f (by first | exact x_rb b_x1 rfl rfl | exact ⟨by omega, by omega⟩) (by first | exact x_rb b_x2 rfl rfl | exact ⟨by omega, by omega⟩) ⟨by decide, by decide⟩ ⟨by decide, by decide⟩ ⟨by decide, by decide⟩ ⟨by decide, by decide⟩ (by omega) (by omega) (by omega)  (by omega)
    · skip
      refine x_A k174_20 (fun _ => rfl) ?_
      refine x_A k174_21 (fun _ => rfl) ?_
      refine x_A k174_22 (fun _ => rfl) ?_
      refine x_A k174_23 (fun _ => rfl) ?_
      refine x_getI k174_24 (f := 0) rfl (q := 256) (n := 62) (kd := 15) ⟨by decide, rfl⟩ (by decide) rfl ?_
      refine x_top (fun z1860 e_z1860 => ?_)
      have g_z1860 : (0 : Int) ≤ s 256 0 ∧ s 256 0 ≤ 9 := hG 256 0
      refine x_callV k174_27 (y := 142) (n := 2) (w0 := 1) (w1 := 2) (as := [vi x3, vi z1860]) (rest := [vi x2]) (by decide +kernel) (q := 256) (nq := 62) (kq := 15) ⟨by decide, rfl⟩ rfl rfl rfl rfl (xe_mono (C_X11_isThere_256 s hG x3 (by first | exact x_rb b_x3 rfl rfl | exact ⟨by omega, by omega⟩) z1860 (by first | exact x_rbe e_z1860 g_z1860 rfl rfl | exact x_rb g_z1860 rfl rfl | exact ⟨by omega, by omega⟩)) ?_)
      rintro s1862 v ⟨h_s1862, z1861, rfl, hz_z1861⟩
      rw [h_s1862]
      rcases hz_z1861 with ⟨c_z1861, e_z1861, m_z1861⟩ | ⟨e_z1861, m_z1861⟩
      · rw [e_z1861]
        show xe none 174 30 [(0, .ref 256), (1, vi x1), (2, vi x2), (3, vi x3)] [vi 1, vi x2] s 0 0 _
        refine x_if_eq k174_30 (t := 37) rfl ⟨by decide, by decide⟩ (fun c1863 => by exfalso; omega) (fun c1863 => ?_)
        refine x_A k174_33 (fun _ => rfl) ?_
        refine x_goto k174_34 (t := 38) rfl ?_
        refine x_iadd k174_38 ?_
        refine x_top (fun z1864 e_z1864 => ?_)
        refine x_istore_n k174_39 (ls' := [(2, vi z1864), (0, .ref 256), (1, vi x1), (3, vi x3)]) (by decide) rfl ?_
        refine x_iinc k174_40 (ls' := [(3, vi (x3 + 1)), (2, vi z1864), (0, .ref 256), (1, vi x1)]) rfl (by decide) rfl ?_
        refine x_goto k174_43 (t := 12) rfl ?_
        refine x_ls (l := [(0, .ref 256), (1, vi x1), (2, vi z1864), (3, vi (x3 + 1))]) (show ([0, 1, 2, 3] : List Nat).Nodup from by decide +kernel) ⟨rfl, rfl, rfl, rfl, trivial⟩ ?_
        exact ih s x1 z1864 (x3 + 1) hG f (by first | exact x_rb b_x1 rfl rfl | exact ⟨by omega, by omega⟩) (by first | exact x_rbe e_z1864 g_z1864 rfl rfl | exact x_rb g_z1864 rfl rfl | exact ⟨by omega, by omega⟩) ⟨by omega, by omega⟩ (by omega)  (by omega)
      · rw [e_z1861]
        show xe none 174 30 [(0, .ref 256), (1, vi x1), (2, vi x2), (3, vi x3)] [vi 0, vi x2] s 0 0 _
        refine x_if_eq k174_30 (t := 37) rfl ⟨by decide, by decide⟩ (fun c1865 => ?_) (fun c1865 => by exfalso; omega)
        refine x_A k174_37 (fun _ => rfl) ?_
        refine x_iadd k174_38 ?_
        refine x_top (fun z1866 e_z1866 => ?_)
        refine x_istore_n k174_39 (ls' := [(2, vi z1866), (0, .ref 256), (1, vi x1), (3, vi x3)]) (by decide) rfl ?_
        refine x_iinc k174_40 (ls' := [(3, vi (x3 + 1)), (2, vi z1866), (0, .ref 256), (1, vi x1)]) rfl (by decide) rfl ?_
        refine x_goto k174_43 (t := 12) rfl ?_
        refine x_ls (l := [(0, .ref 256), (1, vi x1), (2, vi z1866), (3, vi (x3 + 1))]) (show ([0, 1, 2, 3] : List Nat).Nodup from by decide +kernel) ⟨rfl, rfl, rfl, rfl, trivial⟩ ?_
        exact ih s x1 z1866 (x3 + 1) hG f (by first | exact x_rb b_x1 rfl rfl | exact ⟨by omega, by omega⟩) (by first | exact x_rbe e_z1866 g_z1866 rfl rfl | exact x_rb g_z1866 rfl rfl | exact ⟨by omega, by omega⟩) ⟨by omega, by omega⟩ (by omega)  (by omega)
theorem C_X11_count_256 (s0 : xS) (hG0 : GI s0) (hJ0 : J s0) (a : Int) (b_a : (-2147483648) ≤ a ∧ a ≤ 2147483647) : xe none 174 0 (lv_args 0 [.ref 256, vi a]) [] s0 0 0 (fun s' v => GI s' ∧ FL [5312, 5376, 4123, 5440, 5504, 5568, 5632, 5696, 5760] s0 s' ∧ ∃ z, v = some (vi z) ∧ ((-2147483648) ≤ z ∧ z ≤ 2147483647)) := by
  have f0 : FL [5312, 5376, 4123, 5440, 5504, 5568, 5632, 5696, 5760] s0 s0 := FL.rf
  show xe none 174 0 [(0, .ref 256), (1, vi a)] [] s0 0 0 _
  refine x_A k174_0 (fun _ => rfl) ?_
  refine x_A k174_1 (fun _ => rfl) ?_
  refine x_getI k174_2 (f := 0) rfl (q := 256) (n := 62) (kd := 15) ⟨by decide, rfl⟩ (by decide) rfl ?_
  refine x_top (fun z1867 e_z1867 => ?_)
  have g_z1867 : (0 : Int) ≤ s0 256 0 ∧ s0 256 0 ≤ 9 := hG0 256 0
  refine x_callV k174_5 (y := 168) (n := 1) (w0 := 0) (w1 := 1) (as := [vi z1867]) (rest := []) (by decide +kernel) (q := 256) (nq := 62) (kq := 15) ⟨by decide, rfl⟩ rfl rfl rfl rfl (xe_mono (C_X11_find_256 s0 hG0 (hJ0.fl f0 (by decide +kernel)) z1867 (by first | exact x_rbe e_z1867 g_z1867 rfl rfl | exact x_rb g_z1867 rfl rfl | exact ⟨by omega, by omega⟩)) ?_)
  rintro s1869 v ⟨hG_s1869, t_s1869, rfl⟩
  have f_s1869 : FL [5312, 5376, 4123, 5440, 5504, 5568, 5632, 5696, 5760] s0 s1869 := f0.tr t_s1869 (by decide +kernel)
  have q1870 : s1869 256 0 = z1867 := (t_s1869 256 0 (show 4097 ∉ [5312, 5376, 4123, 5440, 5504, 5568, 5632, 5696, 5760] from by decide +kernel)).trans e_z1867.symm
  show xe none 174 8 [(0, .ref 256), (1, vi a)] [] s1869 0 0 _
  refine x_A k174_8 (fun _ => rfl) ?_
  refine x_istore_n k174_9 (ls' := [(2, vi 0), (0, .ref 256), (1, vi a)]) (by decide) rfl ?_
  refine x_A k174_10 (fun _ => rfl) ?_
  refine x_istore_n k174_11 (ls' := [(3, vi 0), (2, vi 0), (0, .ref 256), (1, vi a)]) (by decide) rfl ?_
  refine x_ls (l := [(0, .ref 256), (1, vi a), (2, vi 0), (3, vi 0)]) (show ([0, 1, 2, 3] : List Nat).Nodup from by decide +kernel) ⟨rfl, rfl, rfl, rfl, trivial⟩ ?_
  exact L_C_X11_count_256_12 s0 hJ0  (((40 - 0) + 1 : Int)).toNat s1869 a 0 0 hG_s1869 f_s1869 (by first | exact x_rb b_a rfl rfl | exact ⟨by omega, by omega⟩) ⟨by decide, by decide⟩ ⟨by decide, by decide⟩ (by omega)  (by omega)
theorem L_C_X11_force_256_64 (s0 : xS) (hJ0 : J s0)  : ∀ (n : Nat) (s : xS) (x1 : Int) (x2 : Int) (x3 : Int) (x4 : Int) (hG : GI s) (f : FL [5312, 5376, 4123] s0 s) (b_x1 : 0 ≤ x1 ∧ x1 ≤ 9) (b_x2 : 7 ≤ x2 ∧ x2 ≤ 9) (b_x3 : 0 ≤ x3 ∧ x3 ≤ 99) (b_x4 : 0 ≤ x4 ∧ x4 ≤ 64) (r_3_4 : x3 ≤ x4 + 0)  (hm : (64 - x4) < (n : Int)), xe none 189 64 [(0, .ref 256), (1, vi x1), (2, vi x2), (3, vi x3), (4, vi x4)] [] s 0 0 (fun s' v => GI s' ∧ FL [5312, 5376, 4123] s0 s' ∧ ∃ z, v = some (vi z) ∧ ((-2147483648) ≤ z ∧ z ≤ 2147483647)) := by
  intro n
  induction n with
  | zero => intro s x1 x2 x3 x4 hG f b_x1 b_x2 b_x3 b_x4 r_3_4  hm; exfalso; omega
  | succ n ih =>
    intro s x1 x2 x3 x4 hG f b_x1 b_x2 b_x3 b_x4 r_3_4  hm
    refine x_A k189_64 (fun _ => rfl) ?_
    refine x_A k189_66 (fun _ => rfl) ?_
    refine x_getI k189_67 (f := 20) rfl (q := 256) (n := 62) (kd := 15) ⟨by decide, rfl⟩ (by decide) rfl ?_
    refine x_top (fun z377 e_z377 => ?_)
    have g_z377 : (0 : Int) ≤ s 256 20 ∧ s 256 20 ≤ 64 := hG 256 20
    refine x_ic_ge k189_70 (t := 100) rfl (by first | exact x_rb b_x4 rfl rfl | exact ⟨by omega, by omega⟩) (by first | exact x_rbe e_z377 g_z377 rfl rfl | exact x_rb g_z377 rfl rfl | exact ⟨by omega, by omega⟩) (fun c378 => ?_) (fun c378 => ?_)
    · skip
      refine x_A k189_100 (fun _ => rfl) ?_
      exact x_iret k189_101 rfl ⟨hG, f, x3, rfl, (by first | exact x_rb b_x3 rfl rfl | exact ⟨by omega, by omega⟩)⟩
    · skip
      refine x_A k189_73 (fun _ => rfl) ?_
      refine x_A k189_74 (fun _ => rfl) ?_
      refine x_A k189_75 (fun _ => rfl) ?_
      refine x_A k189_77 (fun _ => rfl) ?_
      refine x_bipush k189_78 (by decide +kernel) ?_
      refine x_isub k189_80 ?_
      refine x_top (fun z379 e_z379 => ?_)
      refine x_callV k189_81 (y := 162) (n := 2) (w0 := 1) (w1 := 2) (as := [vi x4, vi z379]) (rest := [vi x3]) (by decide +kernel) (q := 256) (nq := 62) (kq := 15) ⟨by decide, rfl⟩ rfl rfl rfl rfl (xe_mono (C_X11_holds_256 s hG (hJ0.fl f (by decide +kernel)) x4 (by first | exact x_rb b_x4 rfl rfl | exact ⟨by omega, by omega⟩) z379 (by first | exact x_rbe e_z379 g_z379 rfl rfl | exact x_rb g_z379 rfl rfl | exact ⟨by omega, by omega⟩) (by omega)) ?_)
      rintro s381 v ⟨-, t_s381, z380, rfl, g_z380⟩
      rw [t_s381.nil]
      show xe none 189 84 [(0, .ref 256), (1, vi x1), (2, vi x2), (3, vi x3), (4, vi x4)] [vi z380, vi x3] s 0 0 _
      refine x_if_eq k189_84 (t := 91) rfl (by first | exact x_rbe e_z380 g_z380 rfl rfl | exact x_rb g_z380 rfl rfl | exact ⟨by omega, by omega⟩) (fun c382 => ?_) (fun c382 => ?_)
      · skip
        refine x_A k189_91 (fun _ => rfl) ?_
        refine x_iadd k189_92 ?_
        refine x_top (fun z383 e_z383 => ?_)
        refine x_istore_n k189_93 (ls' := [(3, vi z383), (0, .ref 256), (1, vi x1), (2, vi x2), (4, vi x4)]) (by decide) rfl ?_
        refine x_iinc k189_94 (ls' := [(4, vi (x4 + 1)), (3, vi z383), (0, .ref 256), (1, vi x1), (2, vi x2)]) rfl (by decide) rfl ?_
        refine x_goto k189_97 (t := 64) rfl ?_
        refine x_ls (l := [(0, .ref 256), (1, vi x1), (2, vi x2), (3, vi z383), (4, vi (x4 + 1))]) (show ([0, 1, 2, 3, 4] : List Nat).Nodup from by decide +kernel) ⟨rfl, rfl, rfl, rfl, rfl, trivial⟩ ?_
        exact ih s x1 x2 z383 (x4 + 1) hG f (by first | exact x_rb b_x1 rfl rfl | exact ⟨by omega, by omega⟩) (by first | exact x_rb b_x2 rfl rfl | exact ⟨by omega, by omega⟩) (by first | exact x_rbe e_z383 g_z383 rfl rfl | exact x_rb g_z383 rfl rfl | exact ⟨by omega, by omega⟩) ⟨by omega, by omega⟩ (by omega)  (by omega)
      · skip
        refine x_A k189_87 (fun _ => rfl) ?_
        refine x_goto k189_88 (t := 92) rfl ?_
        refine x_iadd k189_92 ?_
        refine x_top (fun z384 e_z384 => ?_)
        refine x_istore_n k189_93 (ls' := [(3, vi z384), (0, .ref 256), (1, vi x1), (2, vi x2), (4, vi x4)]) (by decide) rfl ?_
        refine x_iinc k189_94 (ls' := [(4, vi (x4 + 1)), (3, vi z384), (0, .ref 256), (1, vi x1), (2, vi x2)]) rfl (by decide) rfl ?_
        refine x_goto k189_97 (t := 64) rfl ?_
        refine x_ls (l := [(0, .ref 256), (1, vi x1), (2, vi x2), (3, vi z384), (4, vi (x4 + 1))]) (show ([0, 1, 2, 3, 4] : List Nat).Nodup from by decide +kernel) ⟨rfl, rfl, rfl, rfl, rfl, trivial⟩ ?_
        exact ih s x1 x2 z384 (x4 + 1) hG f (by first | exact x_rb b_x1 rfl rfl | exact ⟨by omega, by omega⟩) (by first | exact x_rb b_x2 rfl rfl | exact ⟨by omega, by omega⟩) (by first | exact x_rbe e_z384 g_z384 rfl rfl | exact x_rb g_z384 rfl rfl | exact ⟨by omega, by omega⟩) ⟨by omega, by omega⟩ (by omega)  (by omega)
theorem C_X11_force_256 (s0 : xS) (hG0 : GI s0) (hJ0 : J s0) (a : Int) (b_a : (-2147483648) ≤ a ∧ a ≤ 2147483647) (b : Int) (b_b : (-2147483648) ≤ b ∧ b ≤ 2147483647) : xe none 189 0 (lv_args 0 [.ref 256, vi a, vi b]) [] s0 0 0 (fun s' v => GI s' ∧ FL [5312, 5376, 4123] s0 s' ∧ ∃ z, v = some (vi z) ∧ ((-2147483648) ≤ z ∧ z ≤ 2147483647)) := by
  have f0 : FL [5312, 5376, 4123] s0 s0 := FL.rf
  show xe none 189 0 [(0, .ref 256), (1, vi a), (2, vi b)] [] s0 0 0 _
  refine x_A k189_0 (fun _ => rfl) ?_
  refine x_i2l k189_1 (by first | exact x_rb b_a rfl rfl | exact ⟨by omega, by omega⟩) ?_
  refine x_lconst k189_2 (z := 0) (by decide +kernel) ?_
  refine x_ldc2 k189_3 (z := 9) rfl (by decide +kernel) ?_
  refine x_callS k189_6 (y := 136) (n := 3) (w0 := 0) (w1 := 6) (as := [vj a, vj 0, vj 9]) (rest := []) (by decide +kernel) rfl rfl rfl rfl (xe_mono (C_X11_in s0 hG0 a ⟨by omega, by omega⟩ 0 ⟨by omega, by omega⟩ 9 ⟨by omega, by omega⟩) ?_)
  rintro s386 v ⟨h_s386, z385, rfl, hz_z385⟩
  rw [h_s386]
  rcases hz_z385 with ⟨c_z385, e_z385⟩ | ⟨c_z385, e_z385⟩
  · rw [e_z385]
    show xe none 189 9 [(0, .ref 256), (1, vi a), (2, vi b)] [vi 1] s0 0 0 _
    refine x_if_eq k189_9 (t := 24) rfl ⟨by decide, by decide⟩ (fun c387 => by exfalso; omega) (fun c387 => ?_)
    refine x_A k189_12 (fun _ => rfl) ?_
    refine x_i2l k189_13 (by first | exact x_rb b_b rfl rfl | exact ⟨by omega, by omega⟩) ?_
    refine x_lconst k189_14 (z := 0) (by decide +kernel) ?_
    refine x_ldc2 k189_15 (z := 9) rfl (by decide +kernel) ?_
    refine x_callS k189_18 (y := 136) (n := 3) (w0 := 0) (w1 := 6) (as := [vj b, vj 0, vj 9]) (rest := []) (by decide +kernel) rfl rfl rfl rfl (xe_mono (C_X11_in s0 hG0 b ⟨by omega, by omega⟩ 0 ⟨by omega, by omega⟩ 9 ⟨by omega, by omega⟩) ?_)
    rintro s389 v ⟨h_s389, z388, rfl, hz_z388⟩
    rw [h_s389]
    rcases hz_z388 with ⟨c_z388, e_z388⟩ | ⟨c_z388, e_z388⟩
    · rw [e_z388]
      show xe none 189 21 [(0, .ref 256), (1, vi a), (2, vi b)] [vi 1] s0 0 0 _
      refine x_if_ne k189_21 (t := 28) rfl ⟨by decide, by decide⟩ (fun c390 => ?_) (fun c390 => by exfalso; omega)
      refine x_A k189_28 (fun _ => rfl) ?_
      refine x_A k189_29 (fun _ => rfl) ?_
      refine x_callV k189_30 (y := 160) (n := 1) (w0 := 0) (w1 := 1) (as := [vi a]) (rest := []) (by decide +kernel) (q := 256) (nq := 62) (kq := 15) ⟨by decide, rfl⟩ rfl rfl rfl rfl (xe_mono (C_X11_findRules_256 s0 hG0 (hJ0.fl f0 (by decide +kernel)) a (by first | exact x_rb b_a rfl rfl | exact ⟨by omega, by omega⟩)) ?_)
      rintro s392 v ⟨hG_s392, t_s392, rfl⟩
      have f_s392 : FL [5312, 5376, 4123] s0 s392 := f0.tr t_s392 (by decide +kernel)
      show xe none 189 33 [(0, .ref 256), (1, vi a), (2, vi b)] [] s392 0 0 _
      refine x_A k189_33 (fun _ => rfl) ?_
      refine x_bipush k189_34 (by decide +kernel) ?_
      refine x_ic_ge k189_36 (t := 59) rfl (by first | exact x_rb b_b rfl rfl | exact ⟨by omega, by omega⟩) ⟨by decide, by decide⟩ (fun c393 => ?_) (fun c393 => ?_)
      · skip
        refine x_A k189_59 (fun _ => rfl) ?_
        refine x_istore_n k189_60 (ls' := [(3, vi 0), (0, .ref 256), (1, vi a), (2, vi b)]) (by decide) rfl ?_
        refine x_A k189_61 (fun _ => rfl) ?_
        refine x_istore k189_62 (ls' := [(4, vi 0), (3, vi 0), (0, .ref 256), (1, vi a), (2, vi b)]) (by decide) rfl ?_
        refine x_ls (l := [(0, .ref 256), (1, vi a), (2, vi b), (3, vi 0), (4, vi 0)]) (show ([0, 1, 2, 3, 4] : List Nat).Nodup from by decide +kernel) ⟨rfl, rfl, rfl, rfl, rfl, trivial⟩ ?_
        exact L_C_X11_force_256_64 s0 hJ0  (((64 - 0) + 1 : Int)).toNat s392 a b 0 0 hG_s392 f_s392 (by first | exact x_rb b_a rfl rfl | exact ⟨by omega, by omega⟩) (by first | exact x_rb b_b rfl rfl | exact ⟨by omega, by omega⟩) ⟨by decide, by decide⟩ ⟨by decide, by decide⟩ (by omega)  (by omega)
      · skip
        refine x_A k189_39 (fun _ => rfl) ?_
        refine x_if_ne k189_40 (t := 50) rfl (by first | exact x_rb b_b rfl rfl | exact ⟨by omega, by omega⟩) (fun c394 => ?_) (fun c394 => ?_)
        · skip
          refine x_A k189_50 (fun _ => rfl) ?_
          refine x_getR k189_51 (f := 25) rfl (q := 256) (n := 62) (kd := 15) ⟨by decide, rfl⟩ (q2 := 276) (by decide) rfl ?_
          refine x_A k189_54 (fun _ => rfl) ?_
          refine x_A k189_55 (fun _ => rfl) ?_
          refine x_isub k189_56 ?_
          refine x_top (fun z395 e_z395 => ?_)
          refine x_iald k189_57 (q := 276) (n := 6) ⟨by decide, rfl⟩ (by decide) (by first | exact x_rbel e_z395 g_z395 rfl rfl | exact x_rbl g_z395 rfl rfl | exact ⟨by omega, by omega⟩) ?_
          refine x_top (fun z396 e_z396 => ?_)
          have g_z396 : (-2147483648) ≤ s392 276 z395.toNat ∧ s392 276 z395.toNat ≤ 2147483647 := hG_s392 276 z395.toNat
          exact x_iret k189_58 rfl ⟨hG_s392, f_s392, z396, rfl, (by first | exact x_rbe e_z396 g_z396 rfl rfl | exact x_rb g_z396 rfl rfl | exact ⟨by omega, by omega⟩)⟩
        · skip
          refine x_A k189_43 (fun _ => rfl) ?_
          refine x_getI k189_44 (f := 26) rfl (q := 256) (n := 62) (kd := 15) ⟨by decide, rfl⟩ (by decide) rfl ?_
          refine x_top (fun z397 e_z397 => ?_)
          have g_z397 : (-2147483648) ≤ s392 256 26 ∧ s392 256 26 ≤ 2147483647 := hG_s392 256 26
          refine x_goto k189_47 (t := 58) rfl ?_
          exact x_iret k189_58 rfl ⟨hG_s392, f_s392, z397, rfl, (by first | exact x_rbe e_z397 g_z397 rfl rfl | exact x_rb g_z397 rfl rfl | exact ⟨by omega, by omega⟩)⟩
    · rw [e_z388]
      show xe none 189 21 [(0, .ref 256), (1, vi a), (2, vi b)] [vi 0] s0 0 0 _
      refine x_if_ne k189_21 (t := 28) rfl ⟨by decide, by decide⟩ (fun c398 => by exfalso; omega) (fun c398 => ?_)
      refine x_sipush k189_24 (by decide +kernel) ?_
      exact x_iret k189_27 rfl ⟨hG0, f0, (-1002), rfl, ⟨by decide, by decide⟩⟩
  · rw [e_z385]
    show xe none 189 9 [(0, .ref 256), (1, vi a), (2, vi b)] [vi 0] s0 0 0 _
    refine x_if_eq k189_9 (t := 24) rfl ⟨by decide, by decide⟩ (fun c399 => ?_) (fun c399 => by exfalso; omega)
    refine x_sipush k189_24 (by decide +kernel) ?_
    exact x_iret k189_27 rfl ⟨hG0, f0, (-1002), rfl, ⟨by decide, by decide⟩⟩
theorem L_C_X11_isMet_256_6 (s0 : xS) (hJ0 : J s0) (a : Int) (b_a : 0 ≤ a ∧ a ≤ 7) (b : Int) (b_b : 0 ≤ b ∧ b ≤ 39) (d : Int) (b_d : 0 ≤ d ∧ d ≤ 9) (pa : a < s0 256 43)  : ∀ (n : Nat) (s : xS) (x1 : Int) (x2 : Int) (x3 : Int) (x4 : Int) (x5 : Int) (hG : GI s) (f : FL [6272] s0 s) (b_x1 : 0 ≤ x1 ∧ x1 ≤ 7) (b_x2 : 0 ≤ x2 ∧ x2 ≤ 39) (b_x3 : 0 ≤ x3 ∧ x3 ≤ 9) (b_x4 : 0 ≤ x4 ∧ x4 ≤ 119) (b_x5 : 0 ≤ x5 ∧ x5 ≤ 119) (r_4_5 : x4 ≤ x5 + 0) (w_0 : x1 = a) (w_1 : x4 = dp (fun k => s0 287 (110 * x1 + k).toNat) x5.toNat)  (hm : (119 - x5) < (n : Int)), xe none 203 6 [(0, .ref 256), (1, vi x1), (2, vi x2), (3, vi x3), (4, vi x4), (5, vi x5)] [] s 0 0 (fun s' v => GI s' ∧ FL [6272] s0 s' ∧ ∃ z, v = some (vi z) ∧ (0 ≤ z ∧ z ≤ 1)) := by
  intro n
  induction n with
  | zero => intro s x1 x2 x3 x4 x5 hG f b_x1 b_x2 b_x3 b_x4 b_x5 r_4_5 w_0 w_1  hm; exfalso; omega
  | succ n ih =>
    intro s x1 x2 x3 x4 x5 hG f b_x1 b_x2 b_x3 b_x4 b_x5 r_4_5 w_0 w_1  hm
    refine x_A k203_6 (fun _ => rfl) ?_
    refine x_A k203_8 (fun _ => rfl) ?_
    refine x_getR k203_9 (f := 44) rfl (q := 256) (n := 62) (kd := 15) ⟨by decide, rfl⟩ (q2 := 286) (by decide) rfl ?_
    refine x_A k203_12 (fun _ => rfl) ?_
    refine x_iald k203_13 (q := 286) (n := 8) ⟨by decide, rfl⟩ (by decide) (by first | exact x_rbl b_x1 rfl rfl | exact ⟨by omega, by omega⟩) ?_
    refine x_top (fun z2281 e_z2281 => ?_)
    have g_z2281 : (0 : Int) ≤ s 286 x1.toNat ∧ s 286 x1.toNat ≤ 110 := hG 286 x1.toNat
    refine x_ic_ge k203_14 (t := 270) rfl (by first | exact x_rb b_x5 rfl rfl | exact ⟨by omega, by omega⟩) (by first | exact x_rbe e_z2281 g_z2281 rfl rfl | exact x_rb g_z2281 rfl rfl | exact ⟨by omega, by omega⟩) (fun c2282 => ?_) (fun c2282 => ?_)
    · skip
      refine x_A k203_270 (fun _ => rfl) ?_
      refine x_getR k203_271 (f := 52) rfl (q := 256) (n := 62) (kd := 15) ⟨by decide, rfl⟩ (q2 := 290) (by decide) rfl ?_
      refine x_A k203_274 (fun _ => rfl) ?_
      refine x_bald k203_275 (q := 290) (n := 120) ⟨by decide, rfl⟩ (by decide) ⟨by decide, by decide⟩ ?_
      refine x_top (fun z2283 e_z2283 => ?_)
      have g_z2283 : (0 : Int) ≤ s 290 0 ∧ s 290 0 ≤ 1 := hG 290 0
      have p0_z2283 : z2283 = s 290 0 := e_z2283
      exact x_zret k203_276 rfl ⟨by omega, by omega⟩ ⟨hG, f, z2283, rfl, (by first | exact x_rbe e_z2283 g_z2283 rfl rfl | exact x_rb g_z2283 rfl rfl | exact ⟨by omega, by omega⟩)⟩
    · skip
      refine x_A k203_17 (fun _ => rfl) ?_
      refine x_getR k203_18 (f := 45) rfl (q := 256) (n := 62) (kd := 15) ⟨by decide, rfl⟩ (q2 := 287) (by decide) rfl ?_
      refine x_bipush k203_21 (by decide +kernel) ?_
      refine x_A k203_23 (fun _ => rfl) ?_
      refine x_imul k203_24 ?_
      refine x_top (fun z2284 e_z2284 => ?_)
      refine x_A k203_25 (fun _ => rfl) ?_
      refine x_iadd k203_27 ?_
      refine x_top (fun z2285 e_z2285 => ?_)
      refine x_iald k203_28 (q := 287) (n := 880) ⟨by decide, rfl⟩ (by decide) (by first | exact x_rbel e_z2285 g_z2285 rfl rfl | exact x_rbl g_z2285 rfl rfl | exact ⟨by omega, by omega⟩) ?_
      refine x_top (fun z2286 e_z2286 => ?_)
      have g_z2286 : (0 : Int) ≤ s 287 z2285.toNat ∧ s 287 z2285.toNat ≤ 7 := hG 287 z2285.toNat
      have ez_z2286 : s0 287 (110 * x1 + x5).toNat = z2286 := by rw [← f 287 _ (show 6080 ∉ [6272] from by decide +kernel), show 110 * x1 + x5 = z2285 by omega]; exact e_z2286.symm
      have ro_z2286 := hJ0.row x1 x5 (by omega) (by omega) (by omega) (by rw [← f 286 _ (show 6016 ∉ [6272] from by decide +kernel), e_z2281.symm]; omega)
      rw [ez_z2286] at ro_z2286
      refine x_istore k203_29 (ls' := [(6, vi z2286), (0, .ref 256), (1, vi x1), (2, vi x2), (3, vi x3), (4, vi x4), (5, vi x5)]) (by decide) rfl ?_
      refine x_A k203_31 (fun _ => rfl) ?_
      refine x_getR k203_32 (f := 46) rfl (q := 256) (n := 62) (kd := 15) ⟨by decide, rfl⟩ (q2 := 288) (by decide) rfl ?_
      refine x_bipush k203_35 (by decide +kernel) ?_
      refine x_A k203_37 (fun _ => rfl) ?_
      refine x_imul k203_38 ?_
      refine x_top (fun z2287 e_z2287 => ?_)
      refine x_A k203_39 (fun _ => rfl) ?_
      refine x_iadd k203_41 ?_
      refine x_top (fun z2288 e_z2288 => ?_)
      refine x_iald k203_42 (q := 288) (n := 880) ⟨by decide, rfl⟩ (by decide) (by first | exact x_rbel e_z2288 g_z2288 rfl rfl | exact x_rbl g_z2288 rfl rfl | exact ⟨by omega, by omega⟩) ?_
      refine x_top (fun z2289 e_z2289 => ?_)
      have g_z2289 : (0 : Int) ≤ s 288 z2288.toNat ∧ s 288 z2288.toNat ≤ 999 := hG 288 z2288.toNat
      refine x_istore k203_43 (ls' := [(7, vi z2289), (6, vi z2286), (0, .ref 256), (1, vi x1), (2, vi x2), (3, vi x3), (4, vi x4), (5, vi x5)]) (by decide) rfl ?_
      refine x_A k203_45 (fun _ => rfl) ?_
      refine x_A k203_47 (fun _ => rfl) ?_
      refine x_ic_ge k203_48 (t := 128) rfl (by first | exact x_rbe e_z2286 g_z2286 rfl rfl | exact x_rb g_z2286 rfl rfl | exact ⟨by omega, by omega⟩) ⟨by decide, by decide⟩ (fun c2290 => ?_) (fun c2290 => ?_)
      · skip
        refine x_A k203_128 (fun _ => rfl) ?_
        refine x_A k203_130 (fun _ => rfl) ?_
        refine x_ic_ne k203_131 (t := 163) rfl (by first | exact x_rbe e_z2286 g_z2286 rfl rfl | exact x_rb g_z2286 rfl rfl | exact ⟨by omega, by omega⟩) ⟨by decide, by decide⟩ (fun c2291 => ?_) (fun c2291 => ?_)
        · skip
          refine x_A k203_163 (fun _ => rfl) ?_
          refine x_getR k203_164 (f := 52) rfl (q := 256) (n := 62) (kd := 15) ⟨by decide, rfl⟩ (q2 := 290) (by decide) rfl ?_
          refine x_A k203_167 (fun _ => rfl) ?_
          refine x_A k203_169 (fun _ => rfl) ?_
          refine x_A k203_171 (fun _ => rfl) ?_
          refine x_ic_ne k203_172 (t := 185) rfl (by first | exact x_rbe e_z2286 g_z2286 rfl rfl | exact x_rb g_z2286 rfl rfl | exact ⟨by omega, by omega⟩) ⟨by decide, by decide⟩ (fun c2292 => ?_) (fun c2292 => ?_)
          · skip
            refine x_A k203_185 (fun _ => rfl) ?_
            refine x_A k203_187 (fun _ => rfl) ?_
            refine x_ic_ne k203_188 (t := 201) rfl (by first | exact x_rbe e_z2286 g_z2286 rfl rfl | exact x_rb g_z2286 rfl rfl | exact ⟨by omega, by omega⟩) ⟨by decide, by decide⟩ (fun c2293 => ?_) (fun c2293 => ?_)
            · skip
              refine x_A k203_201 (fun _ => rfl) ?_
              refine x_A k203_203 (fun _ => rfl) ?_
              refine x_ic_ne k203_204 (t := 218) rfl (by first | exact x_rbe e_z2286 g_z2286 rfl rfl | exact x_rb g_z2286 rfl rfl | exact ⟨by omega, by omega⟩) ⟨by decide, by decide⟩ (fun c2294 => ?_) (fun c2294 => ?_)
              · skip
                refine x_A k203_218 (fun _ => rfl) ?_
                refine x_bipush k203_220 (by decide +kernel) ?_
                refine x_ic_ne k203_222 (t := 244) rfl (by first | exact x_rbe e_z2286 g_z2286 rfl rfl | exact x_rb g_z2286 rfl rfl | exact ⟨by omega, by omega⟩) ⟨by decide, by decide⟩ (fun c2295 => ?_) (fun c2295 => ?_)
                · skip
                  refine x_A k203_244 (fun _ => rfl) ?_
                  refine x_getR k203_245 (f := 8) rfl (q := 256) (n := 62) (kd := 15) ⟨by decide, rfl⟩ (q2 := 262) (by decide) rfl ?_
                  refine x_A k203_248 (fun _ => rfl) ?_
                  refine x_iald k203_249 (q := 262) (n := 40) ⟨by decide, rfl⟩ (by decide) (by first | exact x_rbl b_x2 rfl rfl | exact ⟨by omega, by omega⟩) ?_
                  refine x_top (fun z2296 e_z2296 => ?_)
                  have g_z2296 : (0 : Int) ≤ s 262 x2.toNat ∧ s 262 x2.toNat ≤ 9 := hG 262 x2.toNat
                  refine x_A k203_250 (fun _ => rfl) ?_
                  refine x_ic_ne k203_252 (t := 259) rfl (by first | exact x_rbe e_z2296 g_z2296 rfl rfl | exact x_rb g_z2296 rfl rfl | exact ⟨by omega, by omega⟩) (by first | exact x_rbe e_z2289 g_z2289 rfl rfl | exact x_rb g_z2289 rfl rfl | exact ⟨by omega, by omega⟩) (fun c2297 => ?_) (fun c2297 => ?_)
                  · skip
                    refine x_A k203_259 (fun _ => rfl) ?_
                    refine x_bast k203_260 (q := 290) (n := 120) ⟨by decide, rfl⟩ (by decide) (by first | exact x_rbl b_x4 rfl rfl | exact ⟨by omega, by omega⟩) ⟨by omega, by omega⟩ ?_
                    refine x_nh (fun s2298 e_s2298 => ?_)
                    have hG_s2298 : GI s2298 := by rw [e_s2298]; exact hG.up (show 0 ≤ 0 ∧ 0 ≤ 1 from ⟨by decide, by decide⟩)
                    have f_s2298 : FL [6272] s0 s2298 := by rw [e_s2298]; exact f.up (show 6272 ∈ [6272] from by decide +kernel)
                    have q2299 : s2298 286 x1.toNat = z2281 := by rw [e_s2298, x_up_q (by first | decide | omega)]; exact e_z2281.symm
                    have q2300 : s2298 287 z2285.toNat = z2286 := by rw [e_s2298, x_up_q (by first | decide | omega)]; exact e_z2286.symm
                    have q2301 : s2298 288 z2288.toNat = z2289 := by rw [e_s2298, x_up_q (by first | decide | omega)]; exact e_z2289.symm
                    have q2302 : s2298 262 x2.toNat = z2296 := by rw [e_s2298, x_up_q (by first | decide | omega)]; exact e_z2296.symm
                    have q2303 : s2298 290 x4.toNat = 0 := by rw [e_s2298]; exact x_up_same
                    refine x_iinc k203_261 (ls' := [(4, vi (x4 + 1)), (7, vi z2289), (6, vi z2286), (0, .ref 256), (1, vi x1), (2, vi x2), (3, vi x3), (5, vi x5)]) rfl (by decide) rfl ?_
                    refine x_iinc k203_264 (ls' := [(5, vi (x5 + 1)), (4, vi (x4 + 1)), (7, vi z2289), (6, vi z2286), (0, .ref 256), (1, vi x1), (2, vi x2), (3, vi x3)]) rfl (by decide) rfl ?_
                    refine x_goto k203_267 (t := 6) rfl ?_
                    refine x_ls (l := [(0, .ref 256), (1, vi x1), (2, vi x2), (3, vi x3), (4, vi (x4 + 1)), (5, vi (x5 + 1))]) (show ([0, 1, 2, 3, 4, 5] : List Nat).Nodup from by decide +kernel) ⟨rfl, rfl, rfl, rfl, rfl, rfl, trivial⟩ ?_
                    exact ih s2298 x1 x2 x3 (x4 + 1) (x5 + 1) hG_s2298 f_s2298 (by first | exact x_rb b_x1 rfl rfl | exact ⟨by omega, by omega⟩) (by first | exact x_rb b_x2 rfl rfl | exact ⟨by omega, by omega⟩) (by first | exact x_rb b_x3 rfl rfl | exact ⟨by omega, by omega⟩) ⟨by omega, by omega⟩ ⟨by omega, by omega⟩ (by omega) (by omega) (by omega)  (by omega)
                  · skip
                    refine x_A k203_255 (fun _ => rfl) ?_
                    refine x_goto k203_256 (t := 260) rfl ?_
                    refine x_bast k203_260 (q := 290) (n := 120) ⟨by decide, rfl⟩ (by decide) (by first | exact x_rbl b_x4 rfl rfl | exact ⟨by omega, by omega⟩) ⟨by omega, by omega⟩ ?_
                    refine x_nh (fun s2304 e_s2304 => ?_)
                    have hG_s2304 : GI s2304 := by rw [e_s2304]; exact hG.up (show 0 ≤ 1 ∧ 1 ≤ 1 from ⟨by decide, by decide⟩)
                    have f_s2304 : FL [6272] s0 s2304 := by rw [e_s2304]; exact f.up (show 6272 ∈ [6272] from by decide +kernel)
                    have q2305 : s2304 286 x1.toNat = z2281 := by rw [e_s2304, x_up_q (by first | decide | omega)]; exact e_z2281.symm
                    have q2306 : s2304 287 z2285.toNat = z2286 := by rw [e_s2304, x_up_q (by first | decide | omega)]; exact e_z2286.symm
                    have q2307 : s2304 288 z2288.toNat = z2289 := by rw [e_s2304, x_up_q (by first | decide | omega)]; exact e_z2289.symm
                    have q2308 : s2304 262 x2.toNat = z2296 := by rw [e_s2304, x_up_q (by first | decide | omega)]; exact e_z2296.symm
                    have q2309 : s2304 290 x4.toNat = 1 := by rw [e_s2304]; exact x_up_same
                    refine x_iinc k203_261 (ls' := [(4, vi (x4 + 1)), (7, vi z2289), (6, vi z2286), (0, .ref 256), (1, vi x1), (2, vi x2), (3, vi x3), (5, vi x5)]) rfl (by decide) rfl ?_
                    refine x_iinc k203_264 (ls' := [(5, vi (x5 + 1)), (4, vi (x4 + 1)), (7, vi z2289), (6, vi z2286), (0, .ref 256), (1, vi x1), (2, vi x2), (3, vi x3)]) rfl (by decide) rfl ?_
                    refine x_goto k203_267 (t := 6) rfl ?_
                    refine x_ls (l := [(0, .ref 256), (1, vi x1), (2, vi x2), (3, vi x3), (4, vi (x4 + 1)), (5, vi (x5 + 1))]) (show ([0, 1, 2, 3, 4, 5] : List Nat).Nodup from by decide +kernel) ⟨rfl, rfl, rfl, rfl, rfl, rfl, trivial⟩ ?_
                    exact ih s2304 x1 x2 x3 (x4 + 1) (x5 + 1) hG_s2304 f_s2304 (by first | exact x_rb b_x1 rfl rfl | exact ⟨by omega, by omega⟩) (by first | exact x_rb b_x2 rfl rfl | exact ⟨by omega, by omega⟩) (by first | exact x_rb b_x3 rfl rfl | exact ⟨by omega, by omega⟩) ⟨by omega, by omega⟩ ⟨by omega, by omega⟩ (by omega) (by omega) (by omega)  (by omega)
                · skip
                  refine x_A k203_225 (fun _ => rfl) ?_
                  refine x_getR k203_226 (f := 7) rfl (q := 256) (n := 62) (kd := 15) ⟨by decide, rfl⟩ (q2 := 261) (by decide) rfl ?_
                  refine x_A k203_229 (fun _ => rfl) ?_
                  refine x_iald k203_230 (q := 261) (n := 40) ⟨by decide, rfl⟩ (by decide) (by first | exact x_rbl b_x2 rfl rfl | exact ⟨by omega, by omega⟩) ?_
                  refine x_top (fun z2310 e_z2310 => ?_)
                  have g_z2310 : (0 : Int) ≤ s 261 x2.toNat ∧ s 261 x2.toNat ≤ 999 := hG 261 x2.toNat
                  refine x_A k203_231 (fun _ => rfl) ?_
                  refine x_ic_ge k203_233 (t := 240) rfl (by first | exact x_rbe e_z2310 g_z2310 rfl rfl | exact x_rb g_z2310 rfl rfl | exact ⟨by omega, by omega⟩) (by first | exact x_rbe e_z2289 g_z2289 rfl rfl | exact x_rb g_z2289 rfl rfl | exact ⟨by omega, by omega⟩) (fun c2311 => ?_) (fun c2311 => ?_)
                  · skip
                    refine x_A k203_240 (fun _ => rfl) ?_
                    refine x_goto k203_241 (t := 260) rfl ?_
                    refine x_bast k203_260 (q := 290) (n := 120) ⟨by decide, rfl⟩ (by decide) (by first | exact x_rbl b_x4 rfl rfl | exact ⟨by omega, by omega⟩) ⟨by omega, by omega⟩ ?_
                    refine x_nh (fun s2312 e_s2312 => ?_)
                    have hG_s2312 : GI s2312 := by rw [e_s2312]; exact hG.up (show 0 ≤ 0 ∧ 0 ≤ 1 from ⟨by decide, by decide⟩)
                    have f_s2312 : FL [6272] s0 s2312 := by rw [e_s2312]; exact f.up (show 6272 ∈ [6272] from by decide +kernel)
                    have q2313 : s2312 286 x1.toNat = z2281 := by rw [e_s2312, x_up_q (by first | decide | omega)]; exact e_z2281.symm
                    have q2314 : s2312 287 z2285.toNat = z2286 := by rw [e_s2312, x_up_q (by first | decide | omega)]; exact e_z2286.symm
                    have q2315 : s2312 288 z2288.toNat = z2289 := by rw [e_s2312, x_up_q (by first | decide | omega)]; exact e_z2289.symm
                    have q2316 : s2312 261 x2.toNat = z2310 := by rw [e_s2312, x_up_q (by first | decide | omega)]; exact e_z2310.symm
                    have q2317 : s2312 290 x4.toNat = 0 := by rw [e_s2312]; exact x_up_same
                    refine x_iinc k203_261 (ls' := [(4, vi (x4 + 1)), (7, vi z2289), (6, vi z2286), (0, .ref 256), (1, vi x1), (2, vi x2), (3, vi x3), (5, vi x5)]) rfl (by decide) rfl ?_
                    refine x_iinc k203_264 (ls' := [(5, vi (x5 + 1)), (4, vi (x4 + 1)), (7, vi z2289), (6, vi z2286), (0, .ref 256), (1, vi x1), (2, vi x2), (3, vi x3)]) rfl (by decide) rfl ?_
                    refine x_goto k203_267 (t := 6) rfl ?_
                    refine x_ls (l := [(0, .ref 256), (1, vi x1), (2, vi x2), (3, vi x3), (4, vi (x4 + 1)), (5, vi (x5 + 1))]) (show ([0, 1, 2, 3, 4, 5] : List Nat).Nodup from by decide +kernel) ⟨rfl, rfl, rfl, rfl, rfl, rfl, trivial⟩ ?_
                    exact ih s2312 x1 x2 x3 (x4 + 1) (x5 + 1) hG_s2312 f_s2312 (by first | exact x_rb b_x1 rfl rfl | exact ⟨by omega, by omega⟩) (by first | exact x_rb b_x2 rfl rfl | exact ⟨by omega, by omega⟩) (by first | exact x_rb b_x3 rfl rfl | exact ⟨by omega, by omega⟩) ⟨by omega, by omega⟩ ⟨by omega, by omega⟩ (by omega) (by omega) (by omega)  (by omega)
                  · skip
                    refine x_A k203_236 (fun _ => rfl) ?_
                    refine x_goto k203_237 (t := 260) rfl ?_
                    refine x_bast k203_260 (q := 290) (n := 120) ⟨by decide, rfl⟩ (by decide) (by first | exact x_rbl b_x4 rfl rfl | exact ⟨by omega, by omega⟩) ⟨by omega, by omega⟩ ?_
                    refine x_nh (fun s2318 e_s2318 => ?_)
                    have hG_s2318 : GI s2318 := by rw [e_s2318]; exact hG.up (show 0 ≤ 1 ∧ 1 ≤ 1 from ⟨by decide, by decide⟩)
                    have f_s2318 : FL [6272] s0 s2318 := by rw [e_s2318]; exact f.up (show 6272 ∈ [6272] from by decide +kernel)
                    have q2319 : s2318 286 x1.toNat = z2281 := by rw [e_s2318, x_up_q (by first | decide | omega)]; exact e_z2281.symm
                    have q2320 : s2318 287 z2285.toNat = z2286 := by rw [e_s2318, x_up_q (by first | decide | omega)]; exact e_z2286.symm
                    have q2321 : s2318 288 z2288.toNat = z2289 := by rw [e_s2318, x_up_q (by first | decide | omega)]; exact e_z2289.symm
                    have q2322 : s2318 261 x2.toNat = z2310 := by rw [e_s2318, x_up_q (by first | decide | omega)]; exact e_z2310.symm
                    have q2323 : s2318 290 x4.toNat = 1 := by rw [e_s2318]; exact x_up_same
                    refine x_iinc k203_261 (ls' := [(4, vi (x4 + 1)), (7, vi z2289), (6, vi z2286), (0, .ref 256), (1, vi x1), (2, vi x2), (3, vi x3), (5, vi x5)]) rfl (by decide) rfl ?_
                    refine x_iinc k203_264 (ls' := [(5, vi (x5 + 1)), (4, vi (x4 + 1)), (7, vi z2289), (6, vi z2286), (0, .ref 256), (1, vi x1), (2, vi x2), (3, vi x3)]) rfl (by decide) rfl ?_
                    refine x_goto k203_267 (t := 6) rfl ?_
                    refine x_ls (l := [(0, .ref 256), (1, vi x1), (2, vi x2), (3, vi x3), (4, vi (x4 + 1)), (5, vi (x5 + 1))]) (show ([0, 1, 2, 3, 4, 5] : List Nat).Nodup from by decide +kernel) ⟨rfl, rfl, rfl, rfl, rfl, rfl, trivial⟩ ?_
                    exact ih s2318 x1 x2 x3 (x4 + 1) (x5 + 1) hG_s2318 f_s2318 (by first | exact x_rb b_x1 rfl rfl | exact ⟨by omega, by omega⟩) (by first | exact x_rb b_x2 rfl rfl | exact ⟨by omega, by omega⟩) (by first | exact x_rb b_x3 rfl rfl | exact ⟨by omega, by omega⟩) ⟨by omega, by omega⟩ ⟨by omega, by omega⟩ (by omega) (by omega) (by omega)  (by omega)
              · skip
                refine x_A k203_207 (fun _ => rfl) ?_
                refine x_A k203_208 (fun _ => rfl) ?_
                refine x_A k203_209 (fun _ => rfl) ?_
                refine x_A k203_211 (fun _ => rfl) ?_
                refine x_callV k203_212 (y := 201) (n := 3) (w0 := 2) (w1 := 3) (as := [vi x2, vi z2289, vi x3]) (rest := [vi x4, .ref 290]) (by decide +kernel) (q := 256) (nq := 62) (kq := 15) ⟨by decide, rfl⟩ rfl rfl rfl rfl (xe_mono (C_X11_hasHand_256 s hG x2 (by first | exact x_rb b_x2 rfl rfl | exact ⟨by omega, by omega⟩) z2289 (by first | exact x_rbe e_z2289 g_z2289 rfl rfl | exact x_rb g_z2289 rfl rfl | exact ⟨by omega, by omega⟩) x3 (by first | exact x_rb b_x3 rfl rfl | exact ⟨by omega, by omega⟩)) ?_)
                rintro s2325 v ⟨-, t_s2325, z2324, rfl, g_z2324⟩
                rw [t_s2325.nil]
                show xe none 203 215 [(7, vi z2289), (6, vi z2286), (0, .ref 256), (1, vi x1), (2, vi x2), (3, vi x3), (4, vi x4), (5, vi x5)] [vi z2324, vi x4, .ref 290] s 0 0 _
                refine x_goto k203_215 (t := 260) rfl ?_
                refine x_bast k203_260 (q := 290) (n := 120) ⟨by decide, rfl⟩ (by decide) (by first | exact x_rbl b_x4 rfl rfl | exact ⟨by omega, by omega⟩) ⟨by omega, by omega⟩ ?_
                refine x_nh (fun s2326 e_s2326 => ?_)
                have hG_s2326 : GI s2326 := by rw [e_s2326]; exact hG.up (show 0 ≤ z2324 ∧ z2324 ≤ 1 from (by first | exact x_rbe e_z2324 g_z2324 rfl rfl | exact x_rb g_z2324 rfl rfl | exact ⟨by omega, by omega⟩))
                have f_s2326 : FL [6272] s0 s2326 := by rw [e_s2326]; exact f.up (show 6272 ∈ [6272] from by decide +kernel)
                have q2327 : s2326 286 x1.toNat = z2281 := by rw [e_s2326, x_up_q (by first | decide | omega)]; exact e_z2281.symm
                have q2328 : s2326 287 z2285.toNat = z2286 := by rw [e_s2326, x_up_q (by first | decide | omega)]; exact e_z2286.symm
                have q2329 : s2326 288 z2288.toNat = z2289 := by rw [e_s2326, x_up_q (by first | decide | omega)]; exact e_z2289.symm
                have q2330 : s2326 290 x4.toNat = z2324 := by rw [e_s2326]; exact x_up_same
                refine x_iinc k203_261 (ls' := [(4, vi (x4 + 1)), (7, vi z2289), (6, vi z2286), (0, .ref 256), (1, vi x1), (2, vi x2), (3, vi x3), (5, vi x5)]) rfl (by decide) rfl ?_
                refine x_iinc k203_264 (ls' := [(5, vi (x5 + 1)), (4, vi (x4 + 1)), (7, vi z2289), (6, vi z2286), (0, .ref 256), (1, vi x1), (2, vi x2), (3, vi x3)]) rfl (by decide) rfl ?_
                refine x_goto k203_267 (t := 6) rfl ?_
                refine x_ls (l := [(0, .ref 256), (1, vi x1), (2, vi x2), (3, vi x3), (4, vi (x4 + 1)), (5, vi (x5 + 1))]) (show ([0, 1, 2, 3, 4, 5] : List Nat).Nodup from by decide +kernel) ⟨rfl, rfl, rfl, rfl, rfl, rfl, trivial⟩ ?_
                exact ih s2326 x1 x2 x3 (x4 + 1) (x5 + 1) hG_s2326 f_s2326 (by first | exact x_rb b_x1 rfl rfl | exact ⟨by omega, by omega⟩) (by first | exact x_rb b_x2 rfl rfl | exact ⟨by omega, by omega⟩) (by first | exact x_rb b_x3 rfl rfl | exact ⟨by omega, by omega⟩) ⟨by omega, by omega⟩ ⟨by omega, by omega⟩ (by omega) (by omega) (by omega)  (by omega)
            · skip
              refine x_A k203_191 (fun _ => rfl) ?_
              refine x_A k203_192 (fun _ => rfl) ?_
              refine x_A k203_193 (fun _ => rfl) ?_
              refine x_callV k203_195 (y := 202) (n := 2) (w0 := 2) (w1 := 2) (as := [vi x2, vi z2289]) (rest := [vi x4, .ref 290]) (by decide +kernel) (q := 256) (nq := 62) (kq := 15) ⟨by decide, rfl⟩ rfl rfl rfl rfl (xe_mono (C_X11_showsWord_256 s hG x2 (by first | exact x_rb b_x2 rfl rfl | exact ⟨by omega, by omega⟩) z2289 (by first | exact x_rbe e_z2289 g_z2289 rfl rfl | exact x_rb g_z2289 rfl rfl | exact ⟨by omega, by omega⟩)) ?_)
              rintro s2332 v ⟨-, t_s2332, z2331, rfl, g_z2331⟩
              rw [t_s2332.nil]
              show xe none 203 198 [(7, vi z2289), (6, vi z2286), (0, .ref 256), (1, vi x1), (2, vi x2), (3, vi x3), (4, vi x4), (5, vi x5)] [vi z2331, vi x4, .ref 290] s 0 0 _
              refine x_goto k203_198 (t := 260) rfl ?_
              refine x_bast k203_260 (q := 290) (n := 120) ⟨by decide, rfl⟩ (by decide) (by first | exact x_rbl b_x4 rfl rfl | exact ⟨by omega, by omega⟩) ⟨by omega, by omega⟩ ?_
              refine x_nh (fun s2333 e_s2333 => ?_)
              have hG_s2333 : GI s2333 := by rw [e_s2333]; exact hG.up (show 0 ≤ z2331 ∧ z2331 ≤ 1 from (by first | exact x_rbe e_z2331 g_z2331 rfl rfl | exact x_rb g_z2331 rfl rfl | exact ⟨by omega, by omega⟩))
              have f_s2333 : FL [6272] s0 s2333 := by rw [e_s2333]; exact f.up (show 6272 ∈ [6272] from by decide +kernel)
              have q2334 : s2333 286 x1.toNat = z2281 := by rw [e_s2333, x_up_q (by first | decide | omega)]; exact e_z2281.symm
              have q2335 : s2333 287 z2285.toNat = z2286 := by rw [e_s2333, x_up_q (by first | decide | omega)]; exact e_z2286.symm
              have q2336 : s2333 288 z2288.toNat = z2289 := by rw [e_s2333, x_up_q (by first | decide | omega)]; exact e_z2289.symm
              have q2337 : s2333 290 x4.toNat = z2331 := by rw [e_s2333]; exact x_up_same
              refine x_iinc k203_261 (ls' := [(4, vi (x4 + 1)), (7, vi z2289), (6, vi z2286), (0, .ref 256), (1, vi x1), (2, vi x2), (3, vi x3), (5, vi x5)]) rfl (by decide) rfl ?_
              refine x_iinc k203_264 (ls' := [(5, vi (x5 + 1)), (4, vi (x4 + 1)), (7, vi z2289), (6, vi z2286), (0, .ref 256), (1, vi x1), (2, vi x2), (3, vi x3)]) rfl (by decide) rfl ?_
              refine x_goto k203_267 (t := 6) rfl ?_
              refine x_ls (l := [(0, .ref 256), (1, vi x1), (2, vi x2), (3, vi x3), (4, vi (x4 + 1)), (5, vi (x5 + 1))]) (show ([0, 1, 2, 3, 4, 5] : List Nat).Nodup from by decide +kernel) ⟨rfl, rfl, rfl, rfl, rfl, rfl, trivial⟩ ?_
              exact ih s2333 x1 x2 x3 (x4 + 1) (x5 + 1) hG_s2333 f_s2333 (by first | exact x_rb b_x1 rfl rfl | exact ⟨by omega, by omega⟩) (by first | exact x_rb b_x2 rfl rfl | exact ⟨by omega, by omega⟩) (by first | exact x_rb b_x3 rfl rfl | exact ⟨by omega, by omega⟩) ⟨by omega, by omega⟩ ⟨by omega, by omega⟩ (by omega) (by omega) (by omega)  (by omega)
          · skip
            refine x_A k203_175 (fun _ => rfl) ?_
            refine x_A k203_176 (fun _ => rfl) ?_
            refine x_A k203_177 (fun _ => rfl) ?_
            refine x_callV k203_179 (y := 169) (n := 2) (w0 := 2) (w1 := 2) (as := [vi x2, vi z2289]) (rest := [vi x4, .ref 290]) (by decide +kernel) (q := 256) (nq := 62) (kq := 15) ⟨by decide, rfl⟩ rfl rfl rfl rfl (xe_mono (C_X11_shows_256 s hG x2 (by first | exact x_rb b_x2 rfl rfl | exact ⟨by omega, by omega⟩) z2289 (by first | exact x_rbe e_z2289 g_z2289 rfl rfl | exact x_rb g_z2289 rfl rfl | exact ⟨by omega, by omega⟩)) ?_)
            rintro s2339 v ⟨-, t_s2339, z2338, rfl, g_z2338⟩
            rw [t_s2339.nil]
            show xe none 203 182 [(7, vi z2289), (6, vi z2286), (0, .ref 256), (1, vi x1), (2, vi x2), (3, vi x3), (4, vi x4), (5, vi x5)] [vi z2338, vi x4, .ref 290] s 0 0 _
            refine x_goto k203_182 (t := 260) rfl ?_
            refine x_bast k203_260 (q := 290) (n := 120) ⟨by decide, rfl⟩ (by decide) (by first | exact x_rbl b_x4 rfl rfl | exact ⟨by omega, by omega⟩) ⟨by omega, by omega⟩ ?_
            refine x_nh (fun s2340 e_s2340 => ?_)
            have hG_s2340 : GI s2340 := by rw [e_s2340]; exact hG.up (show 0 ≤ z2338 ∧ z2338 ≤ 1 from (by first | exact x_rbe e_z2338 g_z2338 rfl rfl | exact x_rb g_z2338 rfl rfl | exact ⟨by omega, by omega⟩))
            have f_s2340 : FL [6272] s0 s2340 := by rw [e_s2340]; exact f.up (show 6272 ∈ [6272] from by decide +kernel)
            have q2341 : s2340 286 x1.toNat = z2281 := by rw [e_s2340, x_up_q (by first | decide | omega)]; exact e_z2281.symm
            have q2342 : s2340 287 z2285.toNat = z2286 := by rw [e_s2340, x_up_q (by first | decide | omega)]; exact e_z2286.symm
            have q2343 : s2340 288 z2288.toNat = z2289 := by rw [e_s2340, x_up_q (by first | decide | omega)]; exact e_z2289.symm
            have q2344 : s2340 290 x4.toNat = z2338 := by rw [e_s2340]; exact x_up_same
            refine x_iinc k203_261 (ls' := [(4, vi (x4 + 1)), (7, vi z2289), (6, vi z2286), (0, .ref 256), (1, vi x1), (2, vi x2), (3, vi x3), (5, vi x5)]) rfl (by decide) rfl ?_
            refine x_iinc k203_264 (ls' := [(5, vi (x5 + 1)), (4, vi (x4 + 1)), (7, vi z2289), (6, vi z2286), (0, .ref 256), (1, vi x1), (2, vi x2), (3, vi x3)]) rfl (by decide) rfl ?_
            refine x_goto k203_267 (t := 6) rfl ?_
            refine x_ls (l := [(0, .ref 256), (1, vi x1), (2, vi x2), (3, vi x3), (4, vi (x4 + 1)), (5, vi (x5 + 1))]) (show ([0, 1, 2, 3, 4, 5] : List Nat).Nodup from by decide +kernel) ⟨rfl, rfl, rfl, rfl, rfl, rfl, trivial⟩ ?_
            exact ih s2340 x1 x2 x3 (x4 + 1) (x5 + 1) hG_s2340 f_s2340 (by first | exact x_rb b_x1 rfl rfl | exact ⟨by omega, by omega⟩) (by first | exact x_rb b_x2 rfl rfl | exact ⟨by omega, by omega⟩) (by first | exact x_rb b_x3 rfl rfl | exact ⟨by omega, by omega⟩) ⟨by omega, by omega⟩ ⟨by omega, by omega⟩ (by omega) (by omega) (by omega)  (by omega)
        · skip
          refine x_A k203_134 (fun _ => rfl) ?_
          refine x_getR k203_135 (f := 52) rfl (q := 256) (n := 62) (kd := 15) ⟨by decide, rfl⟩ (q2 := 290) (by decide) rfl ?_
          refine x_A k203_138 (fun _ => rfl) ?_
          refine x_A k203_140 (fun _ => rfl) ?_
          refine x_isub k203_141 ?_
          refine x_top (fun z2345 e_z2345 => ?_)
          refine x_A k203_142 (fun _ => rfl) ?_
          refine x_getR k203_143 (f := 52) rfl (q := 256) (n := 62) (kd := 15) ⟨by decide, rfl⟩ (q2 := 290) (by decide) rfl ?_
          refine x_A k203_146 (fun _ => rfl) ?_
          refine x_A k203_148 (fun _ => rfl) ?_
          refine x_isub k203_149 ?_
          refine x_top (fun z2346 e_z2346 => ?_)
          refine x_bald k203_150 (q := 290) (n := 120) ⟨by decide, rfl⟩ (by decide) (by first | exact x_rbel e_z2346 g_z2346 rfl rfl | exact x_rbl g_z2346 rfl rfl | exact ⟨by omega, by omega⟩) ?_
          refine x_top (fun z2347 e_z2347 => ?_)
          have g_z2347 : (0 : Int) ≤ s 290 z2346.toNat ∧ s 290 z2346.toNat ≤ 1 := hG 290 z2346.toNat
          refine x_if_ne k203_151 (t := 158) rfl (by first | exact x_rbe e_z2347 g_z2347 rfl rfl | exact x_rb g_z2347 rfl rfl | exact ⟨by omega, by omega⟩) (fun c2348 => ?_) (fun c2348 => ?_)
          · skip
            refine x_A k203_158 (fun _ => rfl) ?_
            refine x_bast k203_159 (q := 290) (n := 120) ⟨by decide, rfl⟩ (by decide) (by first | exact x_rbel e_z2345 g_z2345 rfl rfl | exact x_rbl g_z2345 rfl rfl | exact ⟨by omega, by omega⟩) ⟨by omega, by omega⟩ ?_
            refine x_nh (fun s2349 e_s2349 => ?_)
            have hG_s2349 : GI s2349 := by rw [e_s2349]; exact hG.up (show 0 ≤ 0 ∧ 0 ≤ 1 from ⟨by decide, by decide⟩)
            have f_s2349 : FL [6272] s0 s2349 := by rw [e_s2349]; exact f.up (show 6272 ∈ [6272] from by decide +kernel)
            have q2350 : s2349 286 x1.toNat = z2281 := by rw [e_s2349, x_up_q (by first | decide | omega)]; exact e_z2281.symm
            have q2351 : s2349 287 z2285.toNat = z2286 := by rw [e_s2349, x_up_q (by first | decide | omega)]; exact e_z2286.symm
            have q2352 : s2349 288 z2288.toNat = z2289 := by rw [e_s2349, x_up_q (by first | decide | omega)]; exact e_z2289.symm
            have q2353 : s2349 290 z2345.toNat = 0 := by rw [e_s2349]; exact x_up_same
            refine x_goto k203_160 (t := 264) rfl ?_
            refine x_iinc k203_264 (ls' := [(5, vi (x5 + 1)), (7, vi z2289), (6, vi z2286), (0, .ref 256), (1, vi x1), (2, vi x2), (3, vi x3), (4, vi x4)]) rfl (by decide) rfl ?_
            refine x_goto k203_267 (t := 6) rfl ?_
            refine x_ls (l := [(0, .ref 256), (1, vi x1), (2, vi x2), (3, vi x3), (4, vi x4), (5, vi (x5 + 1))]) (show ([0, 1, 2, 3, 4, 5] : List Nat).Nodup from by decide +kernel) ⟨rfl, rfl, rfl, rfl, rfl, rfl, trivial⟩ ?_
            exact ih s2349 x1 x2 x3 x4 (x5 + 1) hG_s2349 f_s2349 (by first | exact x_rb b_x1 rfl rfl | exact ⟨by omega, by omega⟩) (by first | exact x_rb b_x2 rfl rfl | exact ⟨by omega, by omega⟩) (by first | exact x_rb b_x3 rfl rfl | exact ⟨by omega, by omega⟩) (by first | exact x_rb b_x4 rfl rfl | exact ⟨by omega, by omega⟩) ⟨by omega, by omega⟩ (by omega) (by omega) (by omega)  (by omega)
          · skip
            refine x_A k203_154 (fun _ => rfl) ?_
            refine x_goto k203_155 (t := 159) rfl ?_
            refine x_bast k203_159 (q := 290) (n := 120) ⟨by decide, rfl⟩ (by decide) (by first | exact x_rbel e_z2345 g_z2345 rfl rfl | exact x_rbl g_z2345 rfl rfl | exact ⟨by omega, by omega⟩) ⟨by omega, by omega⟩ ?_
            refine x_nh (fun s2354 e_s2354 => ?_)
            have hG_s2354 : GI s2354 := by rw [e_s2354]; exact hG.up (show 0 ≤ 1 ∧ 1 ≤ 1 from ⟨by decide, by decide⟩)
            have f_s2354 : FL [6272] s0 s2354 := by rw [e_s2354]; exact f.up (show 6272 ∈ [6272] from by decide +kernel)
            have q2355 : s2354 286 x1.toNat = z2281 := by rw [e_s2354, x_up_q (by first | decide | omega)]; exact e_z2281.symm
            have q2356 : s2354 287 z2285.toNat = z2286 := by rw [e_s2354, x_up_q (by first | decide | omega)]; exact e_z2286.symm
            have q2357 : s2354 288 z2288.toNat = z2289 := by rw [e_s2354, x_up_q (by first | decide | omega)]; exact e_z2289.symm
            have q2358 : s2354 290 z2345.toNat = 1 := by rw [e_s2354]; exact x_up_same
            refine x_goto k203_160 (t := 264) rfl ?_
            refine x_iinc k203_264 (ls' := [(5, vi (x5 + 1)), (7, vi z2289), (6, vi z2286), (0, .ref 256), (1, vi x1), (2, vi x2), (3, vi x3), (4, vi x4)]) rfl (by decide) rfl ?_
            refine x_goto k203_267 (t := 6) rfl ?_
            refine x_ls (l := [(0, .ref 256), (1, vi x1), (2, vi x2), (3, vi x3), (4, vi x4), (5, vi (x5 + 1))]) (show ([0, 1, 2, 3, 4, 5] : List Nat).Nodup from by decide +kernel) ⟨rfl, rfl, rfl, rfl, rfl, rfl, trivial⟩ ?_
            exact ih s2354 x1 x2 x3 x4 (x5 + 1) hG_s2354 f_s2354 (by first | exact x_rb b_x1 rfl rfl | exact ⟨by omega, by omega⟩) (by first | exact x_rb b_x2 rfl rfl | exact ⟨by omega, by omega⟩) (by first | exact x_rb b_x3 rfl rfl | exact ⟨by omega, by omega⟩) (by first | exact x_rb b_x4 rfl rfl | exact ⟨by omega, by omega⟩) ⟨by omega, by omega⟩ (by omega) (by omega) (by omega)  (by omega)
      · skip
        refine x_iinc k203_51 (ls' := [(4, vi (x4 + (-1))), (7, vi z2289), (6, vi z2286), (0, .ref 256), (1, vi x1), (2, vi x2), (3, vi x3), (5, vi x5)]) rfl (by decide) rfl ?_
        refine x_A k203_54 (fun _ => rfl) ?_
        refine x_getR k203_55 (f := 52) rfl (q := 256) (n := 62) (kd := 15) ⟨by decide, rfl⟩ (q2 := 290) (by decide) rfl ?_
        refine x_A k203_58 (fun _ => rfl) ?_
        refine x_A k203_60 (fun _ => rfl) ?_
        refine x_isub k203_61 ?_
        refine x_top (fun z2359 e_z2359 => ?_)
        refine x_A k203_62 (fun _ => rfl) ?_
        refine x_if_ne k203_64 (t := 97) rfl (by first | exact x_rbe e_z2286 g_z2286 rfl rfl | exact x_rb g_z2286 rfl rfl | exact ⟨by omega, by omega⟩) (fun c2360 => ?_) (fun c2360 => ?_)
        · skip
          refine x_A k203_97 (fun _ => rfl) ?_
          refine x_getR k203_98 (f := 52) rfl (q := 256) (n := 62) (kd := 15) ⟨by decide, rfl⟩ (q2 := 290) (by decide) rfl ?_
          refine x_A k203_101 (fun _ => rfl) ?_
          refine x_A k203_103 (fun _ => rfl) ?_
          refine x_isub k203_104 ?_
          refine x_top (fun z2361 e_z2361 => ?_)
          refine x_bald k203_105 (q := 290) (n := 120) ⟨by decide, rfl⟩ (by decide) (by first | exact x_rbel e_z2361 g_z2361 rfl rfl | exact x_rbl g_z2361 rfl rfl | exact ⟨by omega, by omega⟩) ?_
          refine x_top (fun z2362 e_z2362 => ?_)
          have g_z2362 : (0 : Int) ≤ s 290 z2361.toNat ∧ s 290 z2361.toNat ≤ 1 := hG 290 z2361.toNat
          refine x_if_eq k203_106 (t := 123) rfl (by first | exact x_rbe e_z2362 g_z2362 rfl rfl | exact x_rb g_z2362 rfl rfl | exact ⟨by omega, by omega⟩) (fun c2363 => ?_) (fun c2363 => ?_)
          · skip
            refine x_A k203_123 (fun _ => rfl) ?_
            refine x_bast k203_124 (q := 290) (n := 120) ⟨by decide, rfl⟩ (by decide) (by first | exact x_rbel e_z2359 g_z2359 rfl rfl | exact x_rbl g_z2359 rfl rfl | exact ⟨by omega, by omega⟩) ⟨by omega, by omega⟩ ?_
            refine x_nh (fun s2364 e_s2364 => ?_)
            have hG_s2364 : GI s2364 := by rw [e_s2364]; exact hG.up (show 0 ≤ 0 ∧ 0 ≤ 1 from ⟨by decide, by decide⟩)
            have f_s2364 : FL [6272] s0 s2364 := by rw [e_s2364]; exact f.up (show 6272 ∈ [6272] from by decide +kernel)
            have q2365 : s2364 286 x1.toNat = z2281 := by rw [e_s2364, x_up_q (by first | decide | omega)]; exact e_z2281.symm
            have q2366 : s2364 287 z2285.toNat = z2286 := by rw [e_s2364, x_up_q (by first | decide | omega)]; exact e_z2286.symm
            have q2367 : s2364 288 z2288.toNat = z2289 := by rw [e_s2364, x_up_q (by first | decide | omega)]; exact e_z2289.symm
            have q2368 : s2364 290 z2359.toNat = 0 := by rw [e_s2364]; exact x_up_same
            refine x_goto k203_125 (t := 264) rfl ?_
            refine x_iinc k203_264 (ls' := [(5, vi (x5 + 1)), (4, vi (x4 + (-1))), (7, vi z2289), (6, vi z2286), (0, .ref 256), (1, vi x1), (2, vi x2), (3, vi x3)]) rfl (by decide) rfl ?_
            refine x_goto k203_267 (t := 6) rfl ?_
            refine x_ls (l := [(0, .ref 256), (1, vi x1), (2, vi x2), (3, vi x3), (4, vi (x4 + (-1))), (5, vi (x5 + 1))]) (show ([0, 1, 2, 3, 4, 5] : List Nat).Nodup from by decide +kernel) ⟨rfl, rfl, rfl, rfl, rfl, rfl, trivial⟩ ?_
            exact ih s2364 x1 x2 x3 (x4 + (-1)) (x5 + 1) hG_s2364 f_s2364 (by first | exact x_rb b_x1 rfl rfl | exact ⟨by omega, by omega⟩) (by first | exact x_rb b_x2 rfl rfl | exact ⟨by omega, by omega⟩) (by first | exact x_rb b_x3 rfl rfl | exact ⟨by omega, by omega⟩) ⟨by omega, by omega⟩ ⟨by omega, by omega⟩ (by omega) (by omega) (by omega)  (by omega)
          · skip
            refine x_A k203_109 (fun _ => rfl) ?_
            refine x_getR k203_110 (f := 52) rfl (q := 256) (n := 62) (kd := 15) ⟨by decide, rfl⟩ (q2 := 290) (by decide) rfl ?_
            refine x_A k203_113 (fun _ => rfl) ?_
            refine x_bald k203_115 (q := 290) (n := 120) ⟨by decide, rfl⟩ (by decide) ⟨by omega, by omega⟩ ?_
            refine x_top (fun z2369 e_z2369 => ?_)
            have g_z2369 : (0 : Int) ≤ s 290 ((x4 + (-1))).toNat ∧ s 290 ((x4 + (-1))).toNat ≤ 1 := hG 290 ((x4 + (-1))).toNat
            refine x_if_eq k203_116 (t := 123) rfl (by first | exact x_rbe e_z2369 g_z2369 rfl rfl | exact x_rb g_z2369 rfl rfl | exact ⟨by omega, by omega⟩) (fun c2370 => ?_) (fun c2370 => ?_)
            · skip
              refine x_A k203_123 (fun _ => rfl) ?_
              refine x_bast k203_124 (q := 290) (n := 120) ⟨by decide, rfl⟩ (by decide) (by first | exact x_rbel e_z2359 g_z2359 rfl rfl | exact x_rbl g_z2359 rfl rfl | exact ⟨by omega, by omega⟩) ⟨by omega, by omega⟩ ?_
              refine x_nh (fun s2371 e_s2371 => ?_)
              have hG_s2371 : GI s2371 := by rw [e_s2371]; exact hG.up (show 0 ≤ 0 ∧ 0 ≤ 1 from ⟨by decide, by decide⟩)
              have f_s2371 : FL [6272] s0 s2371 := by rw [e_s2371]; exact f.up (show 6272 ∈ [6272] from by decide +kernel)
              have q2372 : s2371 286 x1.toNat = z2281 := by rw [e_s2371, x_up_q (by first | decide | omega)]; exact e_z2281.symm
              have q2373 : s2371 287 z2285.toNat = z2286 := by rw [e_s2371, x_up_q (by first | decide | omega)]; exact e_z2286.symm
              have q2374 : s2371 288 z2288.toNat = z2289 := by rw [e_s2371, x_up_q (by first | decide | omega)]; exact e_z2289.symm
              have q2375 : s2371 290 z2359.toNat = 0 := by rw [e_s2371]; exact x_up_same
              refine x_goto k203_125 (t := 264) rfl ?_
              refine x_iinc k203_264 (ls' := [(5, vi (x5 + 1)), (4, vi (x4 + (-1))), (7, vi z2289), (6, vi z2286), (0, .ref 256), (1, vi x1), (2, vi x2), (3, vi x3)]) rfl (by decide) rfl ?_
              refine x_goto k203_267 (t := 6) rfl ?_
              refine x_ls (l := [(0, .ref 256), (1, vi x1), (2, vi x2), (3, vi x3), (4, vi (x4 + (-1))), (5, vi (x5 + 1))]) (show ([0, 1, 2, 3, 4, 5] : List Nat).Nodup from by decide +kernel) ⟨rfl, rfl, rfl, rfl, rfl, rfl, trivial⟩ ?_
              exact ih s2371 x1 x2 x3 (x4 + (-1)) (x5 + 1) hG_s2371 f_s2371 (by first | exact x_rb b_x1 rfl rfl | exact ⟨by omega, by omega⟩) (by first | exact x_rb b_x2 rfl rfl | exact ⟨by omega, by omega⟩) (by first | exact x_rb b_x3 rfl rfl | exact ⟨by omega, by omega⟩) ⟨by omega, by omega⟩ ⟨by omega, by omega⟩ (by omega) (by omega) (by omega)  (by omega)
            · skip
              refine x_A k203_119 (fun _ => rfl) ?_
              refine x_goto k203_120 (t := 124) rfl ?_
              refine x_bast k203_124 (q := 290) (n := 120) ⟨by decide, rfl⟩ (by decide) (by first | exact x_rbel e_z2359 g_z2359 rfl rfl | exact x_rbl g_z2359 rfl rfl | exact ⟨by omega, by omega⟩) ⟨by omega, by omega⟩ ?_
              refine x_nh (fun s2376 e_s2376 => ?_)
              have hG_s2376 : GI s2376 := by rw [e_s2376]; exact hG.up (show 0 ≤ 1 ∧ 1 ≤ 1 from ⟨by decide, by decide⟩)
              have f_s2376 : FL [6272] s0 s2376 := by rw [e_s2376]; exact f.up (show 6272 ∈ [6272] from by decide +kernel)
              have q2377 : s2376 286 x1.toNat = z2281 := by rw [e_s2376, x_up_q (by first | decide | omega)]; exact e_z2281.symm
              have q2378 : s2376 287 z2285.toNat = z2286 := by rw [e_s2376, x_up_q (by first | decide | omega)]; exact e_z2286.symm
              have q2379 : s2376 288 z2288.toNat = z2289 := by rw [e_s2376, x_up_q (by first | decide | omega)]; exact e_z2289.symm
              have q2380 : s2376 290 z2359.toNat = 1 := by rw [e_s2376]; exact x_up_same
              refine x_goto k203_125 (t := 264) rfl ?_
              refine x_iinc k203_264 (ls' := [(5, vi (x5 + 1)), (4, vi (x4 + (-1))), (7, vi z2289), (6, vi z2286), (0, .ref 256), (1, vi x1), (2, vi x2), (3, vi x3)]) rfl (by decide) rfl ?_
              refine x_goto k203_267 (t := 6) rfl ?_
              refine x_ls (l := [(0, .ref 256), (1, vi x1), (2, vi x2), (3, vi x3), (4, vi (x4 + (-1))), (5, vi (x5 + 1))]) (show ([0, 1, 2, 3, 4, 5] : List Nat).Nodup from by decide +kernel) ⟨rfl, rfl, rfl, rfl, rfl, rfl, trivial⟩ ?_
              exact ih s2376 x1 x2 x3 (x4 + (-1)) (x5 + 1) hG_s2376 f_s2376 (by first | exact x_rb b_x1 rfl rfl | exact ⟨by omega, by omega⟩) (by first | exact x_rb b_x2 rfl rfl | exact ⟨by omega, by omega⟩) (by first | exact x_rb b_x3 rfl rfl | exact ⟨by omega, by omega⟩) ⟨by omega, by omega⟩ ⟨by omega, by omega⟩ (by omega) (by omega) (by omega)  (by omega)
        · skip
          refine x_A k203_67 (fun _ => rfl) ?_
          refine x_getR k203_68 (f := 52) rfl (q := 256) (n := 62) (kd := 15) ⟨by decide, rfl⟩ (q2 := 290) (by decide) rfl ?_
          refine x_A k203_71 (fun _ => rfl) ?_
          refine x_A k203_73 (fun _ => rfl) ?_
          refine x_isub k203_74 ?_
          refine x_top (fun z2381 e_z2381 => ?_)
          refine x_bald k203_75 (q := 290) (n := 120) ⟨by decide, rfl⟩ (by decide) (by first | exact x_rbel e_z2381 g_z2381 rfl rfl | exact x_rbl g_z2381 rfl rfl | exact ⟨by omega, by omega⟩) ?_
          refine x_top (fun z2382 e_z2382 => ?_)
          have g_z2382 : (0 : Int) ≤ s 290 z2381.toNat ∧ s 290 z2381.toNat ≤ 1 := hG 290 z2381.toNat
          refine x_if_ne k203_76 (t := 89) rfl (by first | exact x_rbe e_z2382 g_z2382 rfl rfl | exact x_rb g_z2382 rfl rfl | exact ⟨by omega, by omega⟩) (fun c2383 => ?_) (fun c2383 => ?_)
          · skip
            refine x_A k203_89 (fun _ => rfl) ?_
            refine x_goto k203_90 (t := 124) rfl ?_
            refine x_bast k203_124 (q := 290) (n := 120) ⟨by decide, rfl⟩ (by decide) (by first | exact x_rbel e_z2359 g_z2359 rfl rfl | exact x_rbl g_z2359 rfl rfl | exact ⟨by omega, by omega⟩) ⟨by omega, by omega⟩ ?_
            refine x_nh (fun s2384 e_s2384 => ?_)
            have hG_s2384 : GI s2384 := by rw [e_s2384]; exact hG.up (show 0 ≤ 1 ∧ 1 ≤ 1 from ⟨by decide, by decide⟩)
            have f_s2384 : FL [6272] s0 s2384 := by rw [e_s2384]; exact f.up (show 6272 ∈ [6272] from by decide +kernel)
            have q2385 : s2384 286 x1.toNat = z2281 := by rw [e_s2384, x_up_q (by first | decide | omega)]; exact e_z2281.symm
            have q2386 : s2384 287 z2285.toNat = z2286 := by rw [e_s2384, x_up_q (by first | decide | omega)]; exact e_z2286.symm
            have q2387 : s2384 288 z2288.toNat = z2289 := by rw [e_s2384, x_up_q (by first | decide | omega)]; exact e_z2289.symm
            have q2388 : s2384 290 z2359.toNat = 1 := by rw [e_s2384]; exact x_up_same
            refine x_goto k203_125 (t := 264) rfl ?_
            refine x_iinc k203_264 (ls' := [(5, vi (x5 + 1)), (4, vi (x4 + (-1))), (7, vi z2289), (6, vi z2286), (0, .ref 256), (1, vi x1), (2, vi x2), (3, vi x3)]) rfl (by decide) rfl ?_
            refine x_goto k203_267 (t := 6) rfl ?_
            refine x_ls (l := [(0, .ref 256), (1, vi x1), (2, vi x2), (3, vi x3), (4, vi (x4 + (-1))), (5, vi (x5 + 1))]) (show ([0, 1, 2, 3, 4, 5] : List Nat).Nodup from by decide +kernel) ⟨rfl, rfl, rfl, rfl, rfl, rfl, trivial⟩ ?_
            exact ih s2384 x1 x2 x3 (x4 + (-1)) (x5 + 1) hG_s2384 f_s2384 (by first | exact x_rb b_x1 rfl rfl | exact ⟨by omega, by omega⟩) (by first | exact x_rb b_x2 rfl rfl | exact ⟨by omega, by omega⟩) (by first | exact x_rb b_x3 rfl rfl | exact ⟨by omega, by omega⟩) ⟨by omega, by omega⟩ ⟨by omega, by omega⟩ (by omega) (by omega) (by omega)  (by omega)
          · skip
            refine x_A k203_79 (fun _ => rfl) ?_
            refine x_getR k203_80 (f := 52) rfl (q := 256) (n := 62) (kd := 15) ⟨by decide, rfl⟩ (q2 := 290) (by decide) rfl ?_
            refine x_A k203_83 (fun _ => rfl) ?_
            refine x_bald k203_85 (q := 290) (n := 120) ⟨by decide, rfl⟩ (by decide) ⟨by omega, by omega⟩ ?_
            refine x_top (fun z2389 e_z2389 => ?_)
            have g_z2389 : (0 : Int) ≤ s 290 ((x4 + (-1))).toNat ∧ s 290 ((x4 + (-1))).toNat ≤ 1 := hG 290 ((x4 + (-1))).toNat
            refine x_if_eq k203_86 (t := 93) rfl (by first | exact x_rbe e_z2389 g_z2389 rfl rfl | exact x_rb g_z2389 rfl rfl | exact ⟨by omega, by omega⟩) (fun c2390 => ?_) (fun c2390 => ?_)
            · skip
              refine x_A k203_93 (fun _ => rfl) ?_
              refine x_goto k203_94 (t := 124) rfl ?_
              refine x_bast k203_124 (q := 290) (n := 120) ⟨by decide, rfl⟩ (by decide) (by first | exact x_rbel e_z2359 g_z2359 rfl rfl | exact x_rbl g_z2359 rfl rfl | exact ⟨by omega, by omega⟩) ⟨by omega, by omega⟩ ?_
              refine x_nh (fun s2391 e_s2391 => ?_)
              have hG_s2391 : GI s2391 := by rw [e_s2391]; exact hG.up (show 0 ≤ 0 ∧ 0 ≤ 1 from ⟨by decide, by decide⟩)
              have f_s2391 : FL [6272] s0 s2391 := by rw [e_s2391]; exact f.up (show 6272 ∈ [6272] from by decide +kernel)
              have q2392 : s2391 286 x1.toNat = z2281 := by rw [e_s2391, x_up_q (by first | decide | omega)]; exact e_z2281.symm
              have q2393 : s2391 287 z2285.toNat = z2286 := by rw [e_s2391, x_up_q (by first | decide | omega)]; exact e_z2286.symm
              have q2394 : s2391 288 z2288.toNat = z2289 := by rw [e_s2391, x_up_q (by first | decide | omega)]; exact e_z2289.symm
              have q2395 : s2391 290 z2359.toNat = 0 := by rw [e_s2391]; exact x_up_same
              refine x_goto k203_125 (t := 264) rfl ?_
              refine x_iinc k203_264 (ls' := [(5, vi (x5 + 1)), (4, vi (x4 + (-1))), (7, vi z2289), (6, vi z2286), (0, .ref 256), (1, vi x1), (2, vi x2), (3, vi x3)]) rfl (by decide) rfl ?_
              refine x_goto k203_267 (t := 6) rfl ?_
              refine x_ls (l := [(0, .ref 256), (1, vi x1), (2, vi x2), (3, vi x3), (4, vi (x4 + (-1))), (5, vi (x5 + 1))]) (show ([0, 1, 2, 3, 4, 5] : List Nat).Nodup from by decide +kernel) ⟨rfl, rfl, rfl, rfl, rfl, rfl, trivial⟩ ?_
              exact ih s2391 x1 x2 x3 (x4 + (-1)) (x5 + 1) hG_s2391 f_s2391 (by first | exact x_rb b_x1 rfl rfl | exact ⟨by omega, by omega⟩) (by first | exact x_rb b_x2 rfl rfl | exact ⟨by omega, by omega⟩) (by first | exact x_rb b_x3 rfl rfl | exact ⟨by omega, by omega⟩) ⟨by omega, by omega⟩ ⟨by omega, by omega⟩ (by omega) (by omega) (by omega)  (by omega)
            · skip
              refine x_A k203_89 (fun _ => rfl) ?_
              refine x_goto k203_90 (t := 124) rfl ?_
              refine x_bast k203_124 (q := 290) (n := 120) ⟨by decide, rfl⟩ (by decide) (by first | exact x_rbel e_z2359 g_z2359 rfl rfl | exact x_rbl g_z2359 rfl rfl | exact ⟨by omega, by omega⟩) ⟨by omega, by omega⟩ ?_
              refine x_nh (fun s2396 e_s2396 => ?_)
              have hG_s2396 : GI s2396 := by rw [e_s2396]; exact hG.up (show 0 ≤ 1 ∧ 1 ≤ 1 from ⟨by decide, by decide⟩)
              have f_s2396 : FL [6272] s0 s2396 := by rw [e_s2396]; exact f.up (show 6272 ∈ [6272] from by decide +kernel)
              have q2397 : s2396 286 x1.toNat = z2281 := by rw [e_s2396, x_up_q (by first | decide | omega)]; exact e_z2281.symm
              have q2398 : s2396 287 z2285.toNat = z2286 := by rw [e_s2396, x_up_q (by first | decide | omega)]; exact e_z2286.symm
              have q2399 : s2396 288 z2288.toNat = z2289 := by rw [e_s2396, x_up_q (by first | decide | omega)]; exact e_z2289.symm
              have q2400 : s2396 290 z2359.toNat = 1 := by rw [e_s2396]; exact x_up_same
              refine x_goto k203_125 (t := 264) rfl ?_
              refine x_iinc k203_264 (ls' := [(5, vi (x5 + 1)), (4, vi (x4 + (-1))), (7, vi z2289), (6, vi z2286), (0, .ref 256), (1, vi x1), (2, vi x2), (3, vi x3)]) rfl (by decide) rfl ?_
              refine x_goto k203_267 (t := 6) rfl ?_
              refine x_ls (l := [(0, .ref 256), (1, vi x1), (2, vi x2), (3, vi x3), (4, vi (x4 + (-1))), (5, vi (x5 + 1))]) (show ([0, 1, 2, 3, 4, 5] : List Nat).Nodup from by decide +kernel) ⟨rfl, rfl, rfl, rfl, rfl, rfl, trivial⟩ ?_
              exact ih s2396 x1 x2 x3 (x4 + (-1)) (x5 + 1) hG_s2396 f_s2396 (by first | exact x_rb b_x1 rfl rfl | exact ⟨by omega, by omega⟩) (by first | exact x_rb b_x2 rfl rfl | exact ⟨by omega, by omega⟩) (by first | exact x_rb b_x3 rfl rfl | exact ⟨by omega, by omega⟩) ⟨by omega, by omega⟩ ⟨by omega, by omega⟩ (by omega) (by omega) (by omega)  (by omega)
theorem C_X11_isMet_256 (s0 : xS) (hG0 : GI s0) (hJ0 : J s0) (a : Int) (b_a : 0 ≤ a ∧ a ≤ 7) (b : Int) (b_b : 0 ≤ b ∧ b ≤ 39) (d : Int) (b_d : 0 ≤ d ∧ d ≤ 9) (pa : a < s0 256 43) : xe none 203 0 (lv_args 0 [.ref 256, vi a, vi b, vi d]) [] s0 0 0 (fun s' v => GI s' ∧ FL [6272] s0 s' ∧ ∃ z, v = some (vi z) ∧ (0 ≤ z ∧ z ≤ 1)) := by
  have f0 : FL [6272] s0 s0 := FL.rf
  show xe none 203 0 [(0, .ref 256), (1, vi a), (2, vi b), (3, vi d)] [] s0 0 0 _
  refine x_A k203_0 (fun _ => rfl) ?_
  refine x_istore k203_1 (ls' := [(4, vi 0), (0, .ref 256), (1, vi a), (2, vi b), (3, vi d)]) (by decide) rfl ?_
  refine x_A k203_3 (fun _ => rfl) ?_
  refine x_istore k203_4 (ls' := [(5, vi 0), (4, vi 0), (0, .ref 256), (1, vi a), (2, vi b), (3, vi d)]) (by decide) rfl ?_
  refine x_ls (l := [(0, .ref 256), (1, vi a), (2, vi b), (3, vi d), (4, vi 0), (5, vi 0)]) (show ([0, 1, 2, 3, 4, 5] : List Nat).Nodup from by decide +kernel) ⟨rfl, rfl, rfl, rfl, rfl, rfl, trivial⟩ ?_
  exact L_C_X11_isMet_256_6 s0 hJ0 a b_a b b_b d b_d pa  (((119 - 0) + 1 : Int)).toNat s0 a b d 0 0 hG0 f0 (by first | exact x_rb b_a rfl rfl | exact ⟨by omega, by omega⟩) (by first | exact x_rb b_b rfl rfl | exact ⟨by omega, by omega⟩) (by first | exact x_rb b_d rfl rfl | exact ⟨by omega, by omega⟩) ⟨by decide, by decide⟩ ⟨by decide, by decide⟩ (by omega) (by omega) (show _ = _ from rfl)  (by omega)
theorem L_C_X11_met_256_43 (s0 : xS) (hJ0 : J s0)  : ∀ (n : Nat) (s : xS) (x1 : Int) (x2 : Int) (x3 : Int) (x4 : Int) (x5 : Int) (x1000 : Int) (hG : GI s) (f : FL [5312, 5376, 4123, 5440, 5504, 5568, 5632, 5696, 5760, 6272] s0 s) (b_x1 : 0 ≤ x1 ∧ x1 ≤ 7) (b_x2 : 0 ≤ x2 ∧ x2 ≤ 9) (b_x3 : (-2147483648) ≤ x3 ∧ x3 ≤ 2147483647) (b_x4 : 0 ≤ x4 ∧ x4 ≤ 60) (b_x5 : 0 ≤ x5 ∧ x5 ≤ 40) (b_x1000 : 1 ≤ x1000 ∧ x1000 ≤ 8) (r_4_5 : x4 ≤ x5 + 0) (r_1_1000 : x1 ≤ x1000 + 0) (w_0 : x1 < x1000) (w_1 : x1000 = s0 256 43) (e_x1000 : x1000 = s 256 43)  (hm : (40 - x5) < (n : Int)), xe none 204 43 [(0, .ref 256), (1, vi x1), (2, vi x2), (3, vi x3), (4, vi x4), (5, vi x5)] [] s 0 0 (fun s' v => GI s' ∧ FL [5312, 5376, 4123, 5440, 5504, 5568, 5632, 5696, 5760, 6272] s0 s' ∧ ∃ z, v = some (vi z) ∧ ((-1004) ≤ z ∧ z ≤ 120)) := by
  intro n
  induction n with
  | zero => intro s x1 x2 x3 x4 x5 x1000 hG f b_x1 b_x2 b_x3 b_x4 b_x5 b_x1000 r_4_5 r_1_1000 w_0 w_1 e_x1000  hm; exfalso; omega
  | succ n ih =>
    intro s x1 x2 x3 x4 x5 x1000 hG f b_x1 b_x2 b_x3 b_x4 b_x5 b_x1000 r_4_5 r_1_1000 w_0 w_1 e_x1000  hm
    refine x_A k204_43 (fun _ => rfl) ?_
    refine x_A k204_45 (fun _ => rfl) ?_
    refine x_getI k204_46 (f := 6) rfl (q := 256) (n := 62) (kd := 15) ⟨by decide, rfl⟩ (by decide) rfl ?_
    refine x_top (fun z346 e_z346 => ?_)
    have g_z346 : (0 : Int) ≤ s 256 6 ∧ s 256 6 ≤ 40 := hG 256 6
    refine x_ic_ge k204_49 (t := 81) rfl (by first | exact x_rb b_x5 rfl rfl | exact ⟨by omega, by omega⟩) (by first | exact x_rbe e_z346 g_z346 rfl rfl | exact x_rb g_z346 rfl rfl | exact ⟨by omega, by omega⟩) (fun c347 => ?_) (fun c347 => ?_)
    · skip
      refine x_A k204_81 (fun _ => rfl) ?_
      refine x_A k204_82 (fun _ => rfl) ?_
      refine x_ic_ne k204_83 (t := 91) rfl (by first | exact x_rb b_x3 rfl rfl | exact ⟨by omega, by omega⟩) ⟨by decide, by decide⟩ (fun c348 => ?_) (fun c348 => ?_)
      · skip
        refine x_A k204_91 (fun _ => rfl) ?_
        exact x_iret k204_92 rfl ⟨hG, f, (-1), rfl, ⟨by decide, by decide⟩⟩
      · skip
        refine x_A k204_86 (fun _ => rfl) ?_
        refine x_goto k204_88 (t := 92) rfl ?_
        exact x_iret k204_92 rfl ⟨hG, f, x4, rfl, (by first | exact x_rb b_x4 rfl rfl | exact ⟨by omega, by omega⟩)⟩
    · skip
      refine x_A k204_52 (fun _ => rfl) ?_
      refine x_A k204_53 (fun _ => rfl) ?_
      refine x_A k204_54 (fun _ => rfl) ?_
      refine x_A k204_56 (fun _ => rfl) ?_
      refine x_callV k204_57 (y := 203) (n := 3) (w0 := 0) (w1 := 3) (as := [vi x1, vi x5, vi x2]) (rest := []) (by decide +kernel) (q := 256) (nq := 62) (kq := 15) ⟨by decide, rfl⟩ rfl rfl rfl rfl (xe_mono (C_X11_isMet_256 s hG (hJ0.fl f (by decide +kernel)) x1 (by first | exact x_rb b_x1 rfl rfl | exact ⟨by omega, by omega⟩) x5 (by first | exact x_rb b_x5 rfl rfl | exact ⟨by omega, by omega⟩) x2 (by first | exact x_rb b_x2 rfl rfl | exact ⟨by omega, by omega⟩) (by omega)) ?_)
      rintro s350 v ⟨hG_s350, t_s350, z349, rfl, g_z349⟩
      have f_s350 : FL [5312, 5376, 4123, 5440, 5504, 5568, 5632, 5696, 5760, 6272] s0 s350 := f.tr t_s350 (by decide +kernel)
      have q351 : s350 256 43 = x1000 := (t_s350 256 43 (show 4140 ∉ [6272] from by decide +kernel)).trans e_x1000.symm
      have q352 : s350 256 6 = z346 := (t_s350 256 6 (show 4103 ∉ [6272] from by decide +kernel)).trans e_z346.symm
      show xe none 204 60 [(0, .ref 256), (1, vi x1), (2, vi x2), (3, vi x3), (4, vi x4), (5, vi x5)] [vi z349] s350 0 0 _
      refine x_if_eq k204_60 (t := 75) rfl (by first | exact x_rbe e_z349 g_z349 rfl rfl | exact x_rb g_z349 rfl rfl | exact ⟨by omega, by omega⟩) (fun c353 => ?_) (fun c353 => ?_)
      · skip
        refine x_iinc k204_75 (ls' := [(5, vi (x5 + 1)), (0, .ref 256), (1, vi x1), (2, vi x2), (3, vi x3), (4, vi x4)]) rfl (by decide) rfl ?_
        refine x_goto k204_78 (t := 43) rfl ?_
        refine x_ls (l := [(0, .ref 256), (1, vi x1), (2, vi x2), (3, vi x3), (4, vi x4), (5, vi (x5 + 1))]) (show ([0, 1, 2, 3, 4, 5] : List Nat).Nodup from by decide +kernel) ⟨rfl, rfl, rfl, rfl, rfl, rfl, trivial⟩ ?_
        exact ih s350 x1 x2 x3 x4 (x5 + 1) x1000 hG_s350 f_s350 (by first | exact x_rb b_x1 rfl rfl | exact ⟨by omega, by omega⟩) (by first | exact x_rb b_x2 rfl rfl | exact ⟨by omega, by omega⟩) (by first | exact x_rb b_x3 rfl rfl | exact ⟨by omega, by omega⟩) (by first | exact x_rb b_x4 rfl rfl | exact ⟨by omega, by omega⟩) ⟨by omega, by omega⟩ (by first | exact x_rb b_x1000 rfl rfl | exact ⟨by omega, by omega⟩) (by omega) (by omega) (by omega) (by omega) (q351).symm  (by omega)
      · skip
        refine x_A k204_63 (fun _ => rfl) ?_
        refine x_A k204_65 (fun _ => rfl) ?_
        refine x_ic_ne k204_66 (t := 72) rfl (by first | exact x_rb b_x4 rfl rfl | exact ⟨by omega, by omega⟩) (by first | exact x_rb b_x3 rfl rfl | exact ⟨by omega, by omega⟩) (fun c354 => ?_) (fun c354 => ?_)
        · skip
          refine x_iinc k204_72 (ls' := [(4, vi (x4 + 1)), (0, .ref 256), (1, vi x1), (2, vi x2), (3, vi x3), (5, vi x5)]) rfl (by decide) rfl ?_
          refine x_iinc k204_75 (ls' := [(5, vi (x5 + 1)), (4, vi (x4 + 1)), (0, .ref 256), (1, vi x1), (2, vi x2), (3, vi x3)]) rfl (by decide) rfl ?_
          refine x_goto k204_78 (t := 43) rfl ?_
          refine x_ls (l := [(0, .ref 256), (1, vi x1), (2, vi x2), (3, vi x3), (4, vi (x4 + 1)), (5, vi (x5 + 1))]) (show ([0, 1, 2, 3, 4, 5] : List Nat).Nodup from by decide +kernel) ⟨rfl, rfl, rfl, rfl, rfl, rfl, trivial⟩ ?_
          exact ih s350 x1 x2 x3 (x4 + 1) (x5 + 1) x1000 hG_s350 f_s350 (by first | exact x_rb b_x1 rfl rfl | exact ⟨by omega, by omega⟩) (by first | exact x_rb b_x2 rfl rfl | exact ⟨by omega, by omega⟩) (by first | exact x_rb b_x3 rfl rfl | exact ⟨by omega, by omega⟩) ⟨by omega, by omega⟩ ⟨by omega, by omega⟩ (by first | exact x_rb b_x1000 rfl rfl | exact ⟨by omega, by omega⟩) (by omega) (by omega) (by omega) (by omega) (q351).symm  (by omega)
        · skip
          refine x_A k204_69 (fun _ => rfl) ?_
          exact x_iret k204_71 rfl ⟨hG_s350, f_s350, x5, rfl, (by first | exact x_rb b_x5 rfl rfl | exact ⟨by omega, by omega⟩)⟩
theorem C_X11_met_256 (s0 : xS) (hG0 : GI s0) (hJ0 : J s0) (a : Int) (b_a : (-2147483648) ≤ a ∧ a ≤ 2147483647) (b : Int) (b_b : (-2147483648) ≤ b ∧ b ≤ 2147483647) (d : Int) (b_d : (-2147483648) ≤ d ∧ d ≤ 2147483647) : xe none 204 0 (lv_args 0 [.ref 256, vi a, vi b, vi d]) [] s0 0 0 (fun s' v => GI s' ∧ FL [5312, 5376, 4123, 5440, 5504, 5568, 5632, 5696, 5760, 6272] s0 s' ∧ ∃ z, v = some (vi z) ∧ ((-1004) ≤ z ∧ z ≤ 120)) := by
  have f0 : FL [5312, 5376, 4123, 5440, 5504, 5568, 5632, 5696, 5760, 6272] s0 s0 := FL.rf
  show xe none 204 0 [(0, .ref 256), (1, vi a), (2, vi b), (3, vi d)] [] s0 0 0 _
  refine x_A k204_0 (fun _ => rfl) ?_
  refine x_i2l k204_1 (by first | exact x_rb b_a rfl rfl | exact ⟨by omega, by omega⟩) ?_
  refine x_lconst k204_2 (z := 0) (by decide +kernel) ?_
  refine x_A k204_3 (fun _ => rfl) ?_
  refine x_getI k204_4 (f := 43) rfl (q := 256) (n := 62) (kd := 15) ⟨by decide, rfl⟩ (by decide) rfl ?_
  refine x_top (fun z355 e_z355 => ?_)
  have g_z355 : (0 : Int) ≤ s0 256 43 ∧ s0 256 43 ≤ 8 := hG0 256 43
  refine x_A k204_7 (fun _ => rfl) ?_
  refine x_isub k204_8 ?_
  refine x_top (fun z356 e_z356 => ?_)
  refine x_i2l k204_9 (by first | exact x_rbe e_z356 g_z356 rfl rfl | exact x_rb g_z356 rfl rfl | exact ⟨by omega, by omega⟩) ?_
  refine x_callS k204_10 (y := 136) (n := 3) (w0 := 0) (w1 := 6) (as := [vj a, vj 0, vj z356]) (rest := []) (by decide +kernel) rfl rfl rfl rfl (xe_mono (C_X11_in s0 hG0 a ⟨by omega, by omega⟩ 0 ⟨by omega, by omega⟩ z356 ⟨by omega, by omega⟩) ?_)
  rintro s358 v ⟨h_s358, z357, rfl, hz_z357⟩
  rw [h_s358]
  rcases hz_z357 with ⟨c_z357, e_z357⟩ | ⟨c_z357, e_z357⟩
  · rw [e_z357]
    show xe none 204 13 [(0, .ref 256), (1, vi a), (2, vi b), (3, vi d)] [vi 1] s0 0 0 _
    refine x_if_ne k204_13 (t := 20) rfl ⟨by decide, by decide⟩ (fun c359 => ?_) (fun c359 => by exfalso; omega)
    refine x_A k204_20 (fun _ => rfl) ?_
    refine x_A k204_21 (fun _ => rfl) ?_
    obtain ⟨z360, e_z360⟩ : ∃ z, z = s0 256 0 := ⟨_, rfl⟩
    have g_z360 : (0 : Int) ≤ s0 256 0 ∧ s0 256 0 ≤ 9 := hG0 256 0
    refine x_callV k204_22 (y := 138) (n := 1) (w0 := 0) (w1 := 1) (as := [vi b]) (rest := []) (by decide +kernel) (q := 256) (nq := 62) (kq := 15) ⟨by decide, rfl⟩ rfl rfl rfl rfl (xe_mono (C_X11_isEdition_256 s0 hG0 b (by first | exact x_rb b_b rfl rfl | exact ⟨by omega, by omega⟩)) ?_)
    rintro s362 v ⟨h_s362, z361, rfl, hz_z361⟩
    rw [h_s362]
    rcases hz_z361 with ⟨c_z361, e_z361⟩ | ⟨c_z361, e_z361⟩
    · rw [e_z361]
      show xe none 204 25 [(0, .ref 256), (1, vi a), (2, vi b), (3, vi d)] [vi 1] s0 0 0 _
      refine x_if_ne k204_25 (t := 32) rfl ⟨by decide, by decide⟩ (fun c363 => ?_) (fun c363 => by exfalso; omega)
      refine x_A k204_32 (fun _ => rfl) ?_
      refine x_A k204_33 (fun _ => rfl) ?_
      refine x_callV k204_34 (y := 168) (n := 1) (w0 := 0) (w1 := 1) (as := [vi b]) (rest := []) (by decide +kernel) (q := 256) (nq := 62) (kq := 15) ⟨by decide, rfl⟩ rfl rfl rfl rfl (xe_mono (C_X11_find_256 s0 hG0 (hJ0.fl f0 (by decide +kernel)) b (by first | exact x_rb b_b rfl rfl | exact ⟨by omega, by omega⟩)) ?_)
      rintro s365 v ⟨hG_s365, t_s365, rfl⟩
      have f_s365 : FL [5312, 5376, 4123, 5440, 5504, 5568, 5632, 5696, 5760, 6272] s0 s365 := f0.tr t_s365 (by decide +kernel)
      have q366 : s365 256 43 = z355 := (t_s365 256 43 (show 4140 ∉ [5312, 5376, 4123, 5440, 5504, 5568, 5632, 5696, 5760] from by decide +kernel)).trans e_z355.symm
      have q367 : s365 256 0 = z360 := (t_s365 256 0 (show 4097 ∉ [5312, 5376, 4123, 5440, 5504, 5568, 5632, 5696, 5760] from by decide +kernel)).trans e_z360.symm
      show xe none 204 37 [(0, .ref 256), (1, vi a), (2, vi b), (3, vi d)] [] s365 0 0 _
      refine x_A k204_37 (fun _ => rfl) ?_
      refine x_istore k204_38 (ls' := [(4, vi 0), (0, .ref 256), (1, vi a), (2, vi b), (3, vi d)]) (by decide) rfl ?_
      refine x_A k204_40 (fun _ => rfl) ?_
      refine x_istore k204_41 (ls' := [(5, vi 0), (4, vi 0), (0, .ref 256), (1, vi a), (2, vi b), (3, vi d)]) (by decide) rfl ?_
      refine x_ls (l := [(0, .ref 256), (1, vi a), (2, vi b), (3, vi d), (4, vi 0), (5, vi 0)]) (show ([0, 1, 2, 3, 4, 5] : List Nat).Nodup from by decide +kernel) ⟨rfl, rfl, rfl, rfl, rfl, rfl, trivial⟩ ?_
      exact L_C_X11_met_256_43 s0 hJ0  (((40 - 0) + 1 : Int)).toNat s365 a b d 0 0 z355 hG_s365 f_s365 (by first | exact x_rb b_a rfl rfl | exact ⟨by omega, by omega⟩) (by first | exact x_rb b_b rfl rfl | exact ⟨by omega, by omega⟩) (by first | exact x_rb b_d rfl rfl | exact ⟨by omega, by omega⟩) ⟨by decide, by decide⟩ ⟨by decide, by decide⟩ (by first | exact x_rbe e_z355 g_z355 rfl rfl | exact x_rb g_z355 rfl rfl | exact ⟨by omega, by omega⟩) (by omega) (by omega) (by omega) (by omega) (q366).symm  (by omega)
    · rw [e_z361]
      show xe none 204 25 [(0, .ref 256), (1, vi a), (2, vi b), (3, vi d)] [vi 0] s0 0 0 _
      refine x_if_ne k204_25 (t := 32) rfl ⟨by decide, by decide⟩ (fun c368 => by exfalso; omega) (fun c368 => ?_)
      refine x_sipush k204_28 (by decide +kernel) ?_
      exact x_iret k204_31 rfl ⟨hG0, f0, (-1002), rfl, ⟨by decide, by decide⟩⟩
  · rw [e_z357]
    show xe none 204 13 [(0, .ref 256), (1, vi a), (2, vi b), (3, vi d)] [vi 0] s0 0 0 _
    refine x_if_ne k204_13 (t := 20) rfl ⟨by decide, by decide⟩ (fun c369 => by exfalso; omega) (fun c369 => ?_)
    refine x_sipush k204_16 (by decide +kernel) ?_
    exact x_iret k204_19 rfl ⟨hG0, f0, (-1001), rfl, ⟨by decide, by decide⟩⟩
theorem L_C_X11_saw_256_6 (s0 : xS) (hJ0 : J s0)  : ∀ (n : Nat) (s : xS) (x1 : Int) (x2 : Int) (x3 : Int) (x4 : Int) (x5 : Int) (x6 : Int) (hG : GI s) (f : FL [] s0 s) (b_x1 : (-2147483648) ≤ x1 ∧ x1 ≤ 2147483647) (b_x2 : (-2147483648) ≤ x2 ∧ x2 ≤ 2147483647) (b_x3 : (-2147483648) ≤ x3 ∧ x3 ≤ 2147483647) (b_x4 : 0 ≤ x4 ∧ x4 ≤ 9) (b_x5 : 0 ≤ x5 ∧ x5 ≤ 1) (b_x6 : 0 ≤ x6 ∧ x6 ≤ 120) (r_5_6 : x5 ≤ x6 + 0)  (hm : (120 - x6) < (n : Int)), xe none 205 6 [(0, .ref 256), (1, vi x1), (2, vi x2), (3, vi x3), (4, vi x4), (5, vi x5), (6, vi x6)] [] s 0 0 (fun s' v => GI s' ∧ FL [] s0 s' ∧ ∃ z, v = some (vi z) ∧ (0 ≤ z ∧ z ≤ 1)) := by
  intro n
  induction n with
  | zero => intro s x1 x2 x3 x4 x5 x6 hG f b_x1 b_x2 b_x3 b_x4 b_x5 b_x6 r_5_6  hm; exfalso; omega
  | succ n ih =>
    intro s x1 x2 x3 x4 x5 x6 hG f b_x1 b_x2 b_x3 b_x4 b_x5 b_x6 r_5_6  hm
    refine x_A k205_6 (fun _ => rfl) ?_
    refine x_A k205_8 (fun _ => rfl) ?_
    refine x_getI k205_9 (f := 10) rfl (q := 256) (n := 62) (kd := 15) ⟨by decide, rfl⟩ (by decide) rfl ?_
    refine x_top (fun z241 e_z241 => ?_)
    have g_z241 : (0 : Int) ≤ s 256 10 ∧ s 256 10 ≤ 120 := hG 256 10
    refine x_ic_ge k205_12 (t := 82) rfl (by first | exact x_rb b_x6 rfl rfl | exact ⟨by omega, by omega⟩) (by first | exact x_rbe e_z241 g_z241 rfl rfl | exact x_rb g_z241 rfl rfl | exact ⟨by omega, by omega⟩) (fun c242 => ?_) (fun c242 => ?_)
    · skip
      refine x_A k205_82 (fun _ => rfl) ?_
      exact x_zret k205_84 rfl ⟨by omega, by omega⟩ ⟨hG, f, x5, rfl, (by first | exact x_rb b_x5 rfl rfl | exact ⟨by omega, by omega⟩)⟩
    · skip
      refine x_A k205_15 (fun _ => rfl) ?_
      refine x_if_ne k205_17 (t := 69) rfl (by first | exact x_rb b_x5 rfl rfl | exact ⟨by omega, by omega⟩) (fun c243 => ?_) (fun c243 => ?_)
      · skip
        refine x_A k205_69 (fun _ => rfl) ?_
        refine x_goto k205_70 (t := 74) rfl ?_
        refine x_istore k205_74 (ls' := [(5, vi 1), (0, .ref 256), (1, vi x1), (2, vi x2), (3, vi x3), (4, vi x4), (6, vi x6)]) (by decide) rfl ?_
        refine x_iinc k205_76 (ls' := [(6, vi (x6 + 1)), (5, vi 1), (0, .ref 256), (1, vi x1), (2, vi x2), (3, vi x3), (4, vi x4)]) rfl (by decide) rfl ?_
        refine x_goto k205_79 (t := 6) rfl ?_
        refine x_ls (l := [(0, .ref 256), (1, vi x1), (2, vi x2), (3, vi x3), (4, vi x4), (5, vi 1), (6, vi (x6 + 1))]) (show ([0, 1, 2, 3, 4, 5, 6] : List Nat).Nodup from by decide +kernel) ⟨rfl, rfl, rfl, rfl, rfl, rfl, rfl, trivial⟩ ?_
        exact ih s x1 x2 x3 x4 1 (x6 + 1) hG f (by first | exact x_rb b_x1 rfl rfl | exact ⟨by omega, by omega⟩) (by first | exact x_rb b_x2 rfl rfl | exact ⟨by omega, by omega⟩) (by first | exact x_rb b_x3 rfl rfl | exact ⟨by omega, by omega⟩) (by first | exact x_rb b_x4 rfl rfl | exact ⟨by omega, by omega⟩) ⟨by decide, by decide⟩ ⟨by omega, by omega⟩ (by omega)  (by omega)
      · skip
        refine x_A k205_20 (fun _ => rfl) ?_
        refine x_getR k205_21 (f := 11) rfl (q := 256) (n := 62) (kd := 15) ⟨by decide, rfl⟩ (q2 := 264) (by decide) rfl ?_
        refine x_A k205_24 (fun _ => rfl) ?_
        refine x_iald k205_26 (q := 264) (n := 120) ⟨by decide, rfl⟩ (by decide) (by first | exact x_rbl b_x6 rfl rfl | exact ⟨by omega, by omega⟩) ?_
        refine x_top (fun z244 e_z244 => ?_)
        have g_z244 : (0 : Int) ≤ s 264 x6.toNat ∧ s 264 x6.toNat ≤ 39 := hG 264 x6.toNat
        refine x_A k205_27 (fun _ => rfl) ?_
        refine x_ic_ne k205_28 (t := 73) rfl (by first | exact x_rbe e_z244 g_z244 rfl rfl | exact x_rb g_z244 rfl rfl | exact ⟨by omega, by omega⟩) (by first | exact x_rb b_x2 rfl rfl | exact ⟨by omega, by omega⟩) (fun c245 => ?_) (fun c245 => ?_)
        · skip
          refine x_A k205_73 (fun _ => rfl) ?_
          refine x_istore k205_74 (ls' := [(5, vi 0), (0, .ref 256), (1, vi x1), (2, vi x2), (3, vi x3), (4, vi x4), (6, vi x6)]) (by decide) rfl ?_
          refine x_iinc k205_76 (ls' := [(6, vi (x6 + 1)), (5, vi 0), (0, .ref 256), (1, vi x1), (2, vi x2), (3, vi x3), (4, vi x4)]) rfl (by decide) rfl ?_
          refine x_goto k205_79 (t := 6) rfl ?_
          refine x_ls (l := [(0, .ref 256), (1, vi x1), (2, vi x2), (3, vi x3), (4, vi x4), (5, vi 0), (6, vi (x6 + 1))]) (show ([0, 1, 2, 3, 4, 5, 6] : List Nat).Nodup from by decide +kernel) ⟨rfl, rfl, rfl, rfl, rfl, rfl, rfl, trivial⟩ ?_
          exact ih s x1 x2 x3 x4 0 (x6 + 1) hG f (by first | exact x_rb b_x1 rfl rfl | exact ⟨by omega, by omega⟩) (by first | exact x_rb b_x2 rfl rfl | exact ⟨by omega, by omega⟩) (by first | exact x_rb b_x3 rfl rfl | exact ⟨by omega, by omega⟩) (by first | exact x_rb b_x4 rfl rfl | exact ⟨by omega, by omega⟩) ⟨by decide, by decide⟩ ⟨by omega, by omega⟩ (by omega)  (by omega)
        · skip
          refine x_A k205_31 (fun _ => rfl) ?_
          refine x_getR k205_32 (f := 13) rfl (q := 256) (n := 62) (kd := 15) ⟨by decide, rfl⟩ (q2 := 266) (by decide) rfl ?_
          refine x_A k205_35 (fun _ => rfl) ?_
          refine x_iald k205_37 (q := 266) (n := 120) ⟨by decide, rfl⟩ (by decide) (by first | exact x_rbl b_x6 rfl rfl | exact ⟨by omega, by omega⟩) ?_
          refine x_top (fun z246 e_z246 => ?_)
          have g_z246 : (0 : Int) ≤ s 266 x6.toNat ∧ s 266 x6.toNat ≤ 7 := hG 266 x6.toNat
          refine x_A k205_38 (fun _ => rfl) ?_
          refine x_ic_ne k205_39 (t := 73) rfl (by first | exact x_rbe e_z246 g_z246 rfl rfl | exact x_rb g_z246 rfl rfl | exact ⟨by omega, by omega⟩) (by first | exact x_rb b_x1 rfl rfl | exact ⟨by omega, by omega⟩) (fun c247 => ?_) (fun c247 => ?_)
          · skip
            refine x_A k205_73 (fun _ => rfl) ?_
            refine x_istore k205_74 (ls' := [(5, vi 0), (0, .ref 256), (1, vi x1), (2, vi x2), (3, vi x3), (4, vi x4), (6, vi x6)]) (by decide) rfl ?_
            refine x_iinc k205_76 (ls' := [(6, vi (x6 + 1)), (5, vi 0), (0, .ref 256), (1, vi x1), (2, vi x2), (3, vi x3), (4, vi x4)]) rfl (by decide) rfl ?_
            refine x_goto k205_79 (t := 6) rfl ?_
            refine x_ls (l := [(0, .ref 256), (1, vi x1), (2, vi x2), (3, vi x3), (4, vi x4), (5, vi 0), (6, vi (x6 + 1))]) (show ([0, 1, 2, 3, 4, 5, 6] : List Nat).Nodup from by decide +kernel) ⟨rfl, rfl, rfl, rfl, rfl, rfl, rfl, trivial⟩ ?_
            exact ih s x1 x2 x3 x4 0 (x6 + 1) hG f (by first | exact x_rb b_x1 rfl rfl | exact ⟨by omega, by omega⟩) (by first | exact x_rb b_x2 rfl rfl | exact ⟨by omega, by omega⟩) (by first | exact x_rb b_x3 rfl rfl | exact ⟨by omega, by omega⟩) (by first | exact x_rb b_x4 rfl rfl | exact ⟨by omega, by omega⟩) ⟨by decide, by decide⟩ ⟨by omega, by omega⟩ (by omega)  (by omega)
          · skip
            refine x_A k205_42 (fun _ => rfl) ?_
            refine x_getR k205_43 (f := 30) rfl (q := 256) (n := 62) (kd := 15) ⟨by decide, rfl⟩ (q2 := 280) (by decide) rfl ?_
            refine x_A k205_46 (fun _ => rfl) ?_
            refine x_iald k205_48 (q := 280) (n := 120) ⟨by decide, rfl⟩ (by decide) (by first | exact x_rbl b_x6 rfl rfl | exact ⟨by omega, by omega⟩) ?_
            refine x_top (fun z248 e_z248 => ?_)
            have g_z248 : (-1) ≤ s 280 x6.toNat ∧ s 280 x6.toNat ≤ 39 := hG 280 x6.toNat
            refine x_if_lt k205_49 (t := 73) rfl (by first | exact x_rbe e_z248 g_z248 rfl rfl | exact x_rb g_z248 rfl rfl | exact ⟨by omega, by omega⟩) (fun c249 => ?_) (fun c249 => ?_)
            · skip
              refine x_A k205_73 (fun _ => rfl) ?_
              refine x_istore k205_74 (ls' := [(5, vi 0), (0, .ref 256), (1, vi x1), (2, vi x2), (3, vi x3), (4, vi x4), (6, vi x6)]) (by decide) rfl ?_
              refine x_iinc k205_76 (ls' := [(6, vi (x6 + 1)), (5, vi 0), (0, .ref 256), (1, vi x1), (2, vi x2), (3, vi x3), (4, vi x4)]) rfl (by decide) rfl ?_
              refine x_goto k205_79 (t := 6) rfl ?_
              refine x_ls (l := [(0, .ref 256), (1, vi x1), (2, vi x2), (3, vi x3), (4, vi x4), (5, vi 0), (6, vi (x6 + 1))]) (show ([0, 1, 2, 3, 4, 5, 6] : List Nat).Nodup from by decide +kernel) ⟨rfl, rfl, rfl, rfl, rfl, rfl, rfl, trivial⟩ ?_
              exact ih s x1 x2 x3 x4 0 (x6 + 1) hG f (by first | exact x_rb b_x1 rfl rfl | exact ⟨by omega, by omega⟩) (by first | exact x_rb b_x2 rfl rfl | exact ⟨by omega, by omega⟩) (by first | exact x_rb b_x3 rfl rfl | exact ⟨by omega, by omega⟩) (by first | exact x_rb b_x4 rfl rfl | exact ⟨by omega, by omega⟩) ⟨by decide, by decide⟩ ⟨by omega, by omega⟩ (by omega)  (by omega)
            · skip
              refine x_A k205_52 (fun _ => rfl) ?_
              refine x_A k205_53 (fun _ => rfl) ?_
              refine x_getR k205_54 (f := 30) rfl (q := 256) (n := 62) (kd := 15) ⟨by decide, rfl⟩ (q2 := 280) (by decide) rfl ?_
              refine x_A k205_57 (fun _ => rfl) ?_
              refine x_iald k205_59 (q := 280) (n := 120) ⟨by decide, rfl⟩ (by decide) (by first | exact x_rbl b_x6 rfl rfl | exact ⟨by omega, by omega⟩) ?_
              rw [e_z248.symm]
              refine x_A k205_60 (fun _ => rfl) ?_
              refine x_A k205_61 (fun _ => rfl) ?_
              refine x_callV k205_63 (y := 143) (n := 3) (w0 := 0) (w1 := 3) (as := [vi z248, vi x3, vi x4]) (rest := []) (by decide +kernel) (q := 256) (nq := 62) (kq := 15) ⟨by decide, rfl⟩ rfl rfl rfl rfl (xe_mono (C_X11_isBelow_256 s hG (hJ0.fl f (by decide +kernel)) z248 (by first | exact x_rbe e_z248 g_z248 rfl rfl | exact x_rb g_z248 rfl rfl | exact ⟨by omega, by omega⟩) x3 (by first | exact x_rb b_x3 rfl rfl | exact ⟨by omega, by omega⟩) x4 (by first | exact x_rb b_x4 rfl rfl | exact ⟨by omega, by omega⟩)) ?_)
              rintro s251 v ⟨-, t_s251, z250, rfl, g_z250⟩
              rw [t_s251.nil]
              show xe none 205 66 [(0, .ref 256), (1, vi x1), (2, vi x2), (3, vi x3), (4, vi x4), (5, vi x5), (6, vi x6)] [vi z250] s 0 0 _
              refine x_if_eq k205_66 (t := 73) rfl (by first | exact x_rbe e_z250 g_z250 rfl rfl | exact x_rb g_z250 rfl rfl | exact ⟨by omega, by omega⟩) (fun c252 => ?_) (fun c252 => ?_)
              · skip
                refine x_A k205_73 (fun _ => rfl) ?_
                refine x_istore k205_74 (ls' := [(5, vi 0), (0, .ref 256), (1, vi x1), (2, vi x2), (3, vi x3), (4, vi x4), (6, vi x6)]) (by decide) rfl ?_
                refine x_iinc k205_76 (ls' := [(6, vi (x6 + 1)), (5, vi 0), (0, .ref 256), (1, vi x1), (2, vi x2), (3, vi x3), (4, vi x4)]) rfl (by decide) rfl ?_
                refine x_goto k205_79 (t := 6) rfl ?_
                refine x_ls (l := [(0, .ref 256), (1, vi x1), (2, vi x2), (3, vi x3), (4, vi x4), (5, vi 0), (6, vi (x6 + 1))]) (show ([0, 1, 2, 3, 4, 5, 6] : List Nat).Nodup from by decide +kernel) ⟨rfl, rfl, rfl, rfl, rfl, rfl, rfl, trivial⟩ ?_
                exact ih s x1 x2 x3 x4 0 (x6 + 1) hG f (by first | exact x_rb b_x1 rfl rfl | exact ⟨by omega, by omega⟩) (by first | exact x_rb b_x2 rfl rfl | exact ⟨by omega, by omega⟩) (by first | exact x_rb b_x3 rfl rfl | exact ⟨by omega, by omega⟩) (by first | exact x_rb b_x4 rfl rfl | exact ⟨by omega, by omega⟩) ⟨by decide, by decide⟩ ⟨by omega, by omega⟩ (by omega)  (by omega)
              · skip
                refine x_A k205_69 (fun _ => rfl) ?_
                refine x_goto k205_70 (t := 74) rfl ?_
                refine x_istore k205_74 (ls' := [(5, vi 1), (0, .ref 256), (1, vi x1), (2, vi x2), (3, vi x3), (4, vi x4), (6, vi x6)]) (by decide) rfl ?_
                refine x_iinc k205_76 (ls' := [(6, vi (x6 + 1)), (5, vi 1), (0, .ref 256), (1, vi x1), (2, vi x2), (3, vi x3), (4, vi x4)]) rfl (by decide) rfl ?_
                refine x_goto k205_79 (t := 6) rfl ?_
                refine x_ls (l := [(0, .ref 256), (1, vi x1), (2, vi x2), (3, vi x3), (4, vi x4), (5, vi 1), (6, vi (x6 + 1))]) (show ([0, 1, 2, 3, 4, 5, 6] : List Nat).Nodup from by decide +kernel) ⟨rfl, rfl, rfl, rfl, rfl, rfl, rfl, trivial⟩ ?_
                exact ih s x1 x2 x3 x4 1 (x6 + 1) hG f (by first | exact x_rb b_x1 rfl rfl | exact ⟨by omega, by omega⟩) (by first | exact x_rb b_x2 rfl rfl | exact ⟨by omega, by omega⟩) (by first | exact x_rb b_x3 rfl rfl | exact ⟨by omega, by omega⟩) (by first | exact x_rb b_x4 rfl rfl | exact ⟨by omega, by omega⟩) ⟨by decide, by decide⟩ ⟨by omega, by omega⟩ (by omega)  (by omega)
theorem C_X11_saw_256 (s0 : xS) (hG0 : GI s0) (hJ0 : J s0) (a : Int) (b_a : (-2147483648) ≤ a ∧ a ≤ 2147483647) (b : Int) (b_b : (-2147483648) ≤ b ∧ b ≤ 2147483647) (d : Int) (b_d : (-2147483648) ≤ d ∧ d ≤ 2147483647) (e : Int) (b_e : 0 ≤ e ∧ e ≤ 9) : xe none 205 0 (lv_args 0 [.ref 256, vi a, vi b, vi d, vi e]) [] s0 0 0 (fun s' v => GI s' ∧ FL [] s0 s' ∧ ∃ z, v = some (vi z) ∧ (0 ≤ z ∧ z ≤ 1)) := by
  have f0 : FL [] s0 s0 := FL.rf
  show xe none 205 0 [(0, .ref 256), (1, vi a), (2, vi b), (3, vi d), (4, vi e)] [] s0 0 0 _
  refine x_A k205_0 (fun _ => rfl) ?_
  refine x_istore k205_1 (ls' := [(5, vi 0), (0, .ref 256), (1, vi a), (2, vi b), (3, vi d), (4, vi e)]) (by decide) rfl ?_
  refine x_A k205_3 (fun _ => rfl) ?_
  refine x_istore k205_4 (ls' := [(6, vi 0), (5, vi 0), (0, .ref 256), (1, vi a), (2, vi b), (3, vi d), (4, vi e)]) (by decide) rfl ?_
  refine x_ls (l := [(0, .ref 256), (1, vi a), (2, vi b), (3, vi d), (4, vi e), (5, vi 0), (6, vi 0)]) (show ([0, 1, 2, 3, 4, 5, 6] : List Nat).Nodup from by decide +kernel) ⟨rfl, rfl, rfl, rfl, rfl, rfl, rfl, trivial⟩ ?_
  exact L_C_X11_saw_256_6 s0 hJ0  (((120 - 0) + 1 : Int)).toNat s0 a b d e 0 0 hG0 f0 (by first | exact x_rb b_a rfl rfl | exact ⟨by omega, by omega⟩) (by first | exact x_rb b_b rfl rfl | exact ⟨by omega, by omega⟩) (by first | exact x_rb b_d rfl rfl | exact ⟨by omega, by omega⟩) (by first | exact x_rb b_e rfl rfl | exact ⟨by omega, by omega⟩) ⟨by decide, by decide⟩ ⟨by decide, by decide⟩ (by omega)  (by omega)
theorem L_C_X11_hands_256_78 (s0 : xS) (hJ0 : J s0)  : ∀ (n : Nat) (s : xS) (x1 : Int) (x2 : Int) (x3 : Int) (x4 : Int) (x5 : Int) (x6 : Int) (x7 : Int) (x8 : Int) (x9 : Int) (x10 : Int) (hG : GI s) (f : FL [5312, 5376, 4123, 5440, 5504, 5568, 5632, 5696, 5760] s0 s) (b_x1 : 0 ≤ x1 ∧ x1 ≤ 7) (b_x2 : 0 ≤ x2 ∧ x2 ≤ 7) (b_x3 : 0 ≤ x3 ∧ x3 ≤ 39) (b_x4 : 0 ≤ x4 ∧ x4 ≤ 9) (b_x5 : 0 ≤ x5 ∧ x5 ≤ 4) (b_x6 : 0 ≤ x6 ∧ x6 ≤ 60) (b_x7 : 0 ≤ x7 ∧ x7 ≤ 60) (b_x8 : 0 ≤ x8 ∧ x8 ≤ 60) (b_x9 : 0 ≤ x9 ∧ x9 ≤ 60) (b_x10 : 0 ≤ x10 ∧ x10 ≤ 40) (r_9_10 : x9 ≤ x10 + 0) (r_9_8 : x9 ≤ x8 + 0) (r_9_7 : x9 ≤ x7 + 0) (r_9_6 : x9 ≤ x6 + 0) (r_8_10 : x8 ≤ x10 + 0) (r_8_6 : x8 ≤ x6 + 0) (r_7_10 : x7 ≤ x10 + 0) (r_7_6 : x7 ≤ x6 + 0) (r_6_10 : x6 ≤ x10 + 0)  (hm : (40 - x10) < (n : Int)), xe none 206 78 [(0, .ref 256), (1, vi x1), (2, vi x2), (3, vi x3), (4, vi x4), (5, vi x5), (6, vi x6), (7, vi x7), (8, vi x8), (9, vi x9), (10, vi x10)] [] s 0 0 (fun s' v => GI s' ∧ FL [5312, 5376, 4123, 5440, 5504, 5568, 5632, 5696, 5760] s0 s' ∧ ∃ z, v = some (vi z) ∧ ((-2147483648) ≤ z ∧ z ≤ 2147483647)) := by
  intro n
  induction n with
  | zero => intro s x1 x2 x3 x4 x5 x6 x7 x8 x9 x10 hG f b_x1 b_x2 b_x3 b_x4 b_x5 b_x6 b_x7 b_x8 b_x9 b_x10 r_9_10 r_9_8 r_9_7 r_9_6 r_8_10 r_8_6 r_7_10 r_7_6 r_6_10  hm; exfalso; omega
  | succ n ih =>
    intro s x1 x2 x3 x4 x5 x6 x7 x8 x9 x10 hG f b_x1 b_x2 b_x3 b_x4 b_x5 b_x6 b_x7 b_x8 b_x9 b_x10 r_9_10 r_9_8 r_9_7 r_9_6 r_8_10 r_8_6 r_7_10 r_7_6 r_6_10  hm
    refine x_A k206_78 (fun _ => rfl) ?_
    refine x_A k206_80 (fun _ => rfl) ?_
    refine x_getI k206_81 (f := 6) rfl (q := 256) (n := 62) (kd := 15) ⟨by decide, rfl⟩ (by decide) rfl ?_
    refine x_top (fun z1031 e_z1031 => ?_)
    have g_z1031 : (0 : Int) ≤ s 256 6 ∧ s 256 6 ≤ 40 := hG 256 6
    refine x_ic_ge k206_84 (t := 194) rfl (by first | exact x_rb b_x10 rfl rfl | exact ⟨by omega, by omega⟩) (by first | exact x_rbe e_z1031 g_z1031 rfl rfl | exact x_rb g_z1031 rfl rfl | exact ⟨by omega, by omega⟩) (fun c1032 => ?_) (fun c1032 => ?_)
    · skip
      refine x_A k206_194 (fun _ => rfl) ?_
      refine x_if_ne k206_196 (t := 203) rfl (by first | exact x_rb b_x9 rfl rfl | exact ⟨by omega, by omega⟩) (fun c1033 => ?_) (fun c1033 => ?_)
      · skip
        refine x_A k206_203 (fun _ => rfl) ?_
        refine x_A k206_205 (fun _ => rfl) ?_
        refine x_isub k206_207 ?_
        refine x_top (fun z1034 e_z1034 => ?_)
        refine x_A k206_208 (fun _ => rfl) ?_
        refine x_A k206_210 (fun _ => rfl) ?_
        refine x_isub k206_212 ?_
        refine x_top (fun z1035 e_z1035 => ?_)
        refine x_imul k206_213 ?_
        refine x_topW (fun z1036 g_z1036 => ?_)
        unfold in32 at g_z1036
        refine x_A k206_214 (fun _ => rfl) ?_
        refine x_idiv_any k206_216 ⟨by omega, by omega⟩ (by omega) (fun z1037 g_z1037 => ?_)
        unfold in32 at g_z1037
        refine x_istore k206_217 (ls' := [(10, vi z1037), (0, .ref 256), (1, vi x1), (2, vi x2), (3, vi x3), (4, vi x4), (5, vi x5), (6, vi x6), (7, vi x7), (8, vi x8), (9, vi x9)]) (by decide) rfl ?_
        refine x_A k206_219 (fun _ => rfl) ?_
        refine x_if_ne k206_221 (t := 229) rfl (by first | exact x_rb b_x5 rfl rfl | exact ⟨by omega, by omega⟩) (fun c1038 => ?_) (fun c1038 => ?_)
        · skip
          refine x_A k206_229 (fun _ => rfl) ?_
          refine x_A k206_231 (fun _ => rfl) ?_
          refine x_ic_ne k206_232 (t := 240) rfl (by first | exact x_rb b_x5 rfl rfl | exact ⟨by omega, by omega⟩) ⟨by decide, by decide⟩ (fun c1039 => ?_) (fun c1039 => ?_)
          · skip
            refine x_A k206_240 (fun _ => rfl) ?_
            refine x_A k206_242 (fun _ => rfl) ?_
            refine x_ic_ne k206_243 (t := 251) rfl (by first | exact x_rb b_x5 rfl rfl | exact ⟨by omega, by omega⟩) ⟨by decide, by decide⟩ (fun c1040 => ?_) (fun c1040 => ?_)
            · skip
              refine x_A k206_251 (fun _ => rfl) ?_
              refine x_A k206_253 (fun _ => rfl) ?_
              refine x_ic_ne k206_254 (t := 262) rfl (by first | exact x_rb b_x5 rfl rfl | exact ⟨by omega, by omega⟩) ⟨by decide, by decide⟩ (fun c1041 => ?_) (fun c1041 => ?_)
              · skip
                refine x_A k206_262 (fun _ => rfl) ?_
                exact x_iret k206_264 rfl ⟨hG, f, z1037, rfl, (by first | exact x_rbe e_z1037 g_z1037 rfl rfl | exact x_rb g_z1037 rfl rfl | exact ⟨by omega, by omega⟩)⟩
              · skip
                refine x_A k206_257 (fun _ => rfl) ?_
                refine x_goto k206_259 (t := 264) rfl ?_
                exact x_iret k206_264 rfl ⟨hG, f, x9, rfl, (by first | exact x_rb b_x9 rfl rfl | exact ⟨by omega, by omega⟩)⟩
            · skip
              refine x_A k206_246 (fun _ => rfl) ?_
              refine x_goto k206_248 (t := 264) rfl ?_
              exact x_iret k206_264 rfl ⟨hG, f, x8, rfl, (by first | exact x_rb b_x8 rfl rfl | exact ⟨by omega, by omega⟩)⟩
          · skip
            refine x_A k206_235 (fun _ => rfl) ?_
            refine x_goto k206_237 (t := 264) rfl ?_
            exact x_iret k206_264 rfl ⟨hG, f, x7, rfl, (by first | exact x_rb b_x7 rfl rfl | exact ⟨by omega, by omega⟩)⟩
        · skip
          refine x_A k206_224 (fun _ => rfl) ?_
          refine x_goto k206_226 (t := 264) rfl ?_
          exact x_iret k206_264 rfl ⟨hG, f, x6, rfl, (by first | exact x_rb b_x6 rfl rfl | exact ⟨by omega, by omega⟩)⟩
      · skip
        refine x_A k206_199 (fun _ => rfl) ?_
        refine x_goto k206_200 (t := 217) rfl ?_
        refine x_istore k206_217 (ls' := [(10, vi (-1)), (0, .ref 256), (1, vi x1), (2, vi x2), (3, vi x3), (4, vi x4), (5, vi x5), (6, vi x6), (7, vi x7), (8, vi x8), (9, vi x9)]) (by decide) rfl ?_
        refine x_A k206_219 (fun _ => rfl) ?_
        refine x_if_ne k206_221 (t := 229) rfl (by first | exact x_rb b_x5 rfl rfl | exact ⟨by omega, by omega⟩) (fun c1042 => ?_) (fun c1042 => ?_)
        · skip
          refine x_A k206_229 (fun _ => rfl) ?_
          refine x_A k206_231 (fun _ => rfl) ?_
          refine x_ic_ne k206_232 (t := 240) rfl (by first | exact x_rb b_x5 rfl rfl | exact ⟨by omega, by omega⟩) ⟨by decide, by decide⟩ (fun c1043 => ?_) (fun c1043 => ?_)
          · skip
            refine x_A k206_240 (fun _ => rfl) ?_
            refine x_A k206_242 (fun _ => rfl) ?_
            refine x_ic_ne k206_243 (t := 251) rfl (by first | exact x_rb b_x5 rfl rfl | exact ⟨by omega, by omega⟩) ⟨by decide, by decide⟩ (fun c1044 => ?_) (fun c1044 => ?_)
            · skip
              refine x_A k206_251 (fun _ => rfl) ?_
              refine x_A k206_253 (fun _ => rfl) ?_
              refine x_ic_ne k206_254 (t := 262) rfl (by first | exact x_rb b_x5 rfl rfl | exact ⟨by omega, by omega⟩) ⟨by decide, by decide⟩ (fun c1045 => ?_) (fun c1045 => ?_)
              · skip
                refine x_A k206_262 (fun _ => rfl) ?_
                exact x_iret k206_264 rfl ⟨hG, f, (-1), rfl, ⟨by decide, by decide⟩⟩
              · skip
                refine x_A k206_257 (fun _ => rfl) ?_
                refine x_goto k206_259 (t := 264) rfl ?_
                exact x_iret k206_264 rfl ⟨hG, f, x9, rfl, (by first | exact x_rb b_x9 rfl rfl | exact ⟨by omega, by omega⟩)⟩
            · skip
              refine x_A k206_246 (fun _ => rfl) ?_
              refine x_goto k206_248 (t := 264) rfl ?_
              exact x_iret k206_264 rfl ⟨hG, f, x8, rfl, (by first | exact x_rb b_x8 rfl rfl | exact ⟨by omega, by omega⟩)⟩
          · skip
            refine x_A k206_235 (fun _ => rfl) ?_
            refine x_goto k206_237 (t := 264) rfl ?_
            exact x_iret k206_264 rfl ⟨hG, f, x7, rfl, (by first | exact x_rb b_x7 rfl rfl | exact ⟨by omega, by omega⟩)⟩
        · skip
          refine x_A k206_224 (fun _ => rfl) ?_
          refine x_goto k206_226 (t := 264) rfl ?_
          exact x_iret k206_264 rfl ⟨hG, f, x6, rfl, (by first | exact x_rb b_x6 rfl rfl | exact ⟨by omega, by omega⟩)⟩
    · skip
      refine x_A k206_87 (fun _ => rfl) ?_
      refine x_A k206_88 (fun _ => rfl) ?_
      refine x_A k206_90 (fun _ => rfl) ?_
      refine x_A k206_91 (fun _ => rfl) ?_
      refine x_callV k206_93 (y := 201) (n := 3) (w0 := 0) (w1 := 3) (as := [vi x10, vi x1, vi x4]) (rest := []) (by decide +kernel) (q := 256) (nq := 62) (kq := 15) ⟨by decide, rfl⟩ rfl rfl rfl rfl (xe_mono (C_X11_hasHand_256 s hG x10 (by first | exact x_rb b_x10 rfl rfl | exact ⟨by omega, by omega⟩) x1 (by first | exact x_rb b_x1 rfl rfl | exact ⟨by omega, by omega⟩) x4 (by first | exact x_rb b_x4 rfl rfl | exact ⟨by omega, by omega⟩)) ?_)
      rintro s1047 v ⟨-, t_s1047, z1046, rfl, g_z1046⟩
      rw [t_s1047.nil]
      show xe none 206 96 [(0, .ref 256), (1, vi x1), (2, vi x2), (3, vi x3), (4, vi x4), (5, vi x5), (6, vi x6), (7, vi x7), (8, vi x8), (9, vi x9), (10, vi x10)] [vi z1046] s 0 0 _
      refine x_if_eq k206_96 (t := 188) rfl (by first | exact x_rbe e_z1046 g_z1046 rfl rfl | exact x_rb g_z1046 rfl rfl | exact ⟨by omega, by omega⟩) (fun c1048 => ?_) (fun c1048 => ?_)
      · skip
        refine x_iinc k206_188 (ls' := [(10, vi (x10 + 1)), (0, .ref 256), (1, vi x1), (2, vi x2), (3, vi x3), (4, vi x4), (5, vi x5), (6, vi x6), (7, vi x7), (8, vi x8), (9, vi x9)]) rfl (by decide) rfl ?_
        refine x_goto k206_191 (t := 78) rfl ?_
        refine x_ls (l := [(0, .ref 256), (1, vi x1), (2, vi x2), (3, vi x3), (4, vi x4), (5, vi x5), (6, vi x6), (7, vi x7), (8, vi x8), (9, vi x9), (10, vi (x10 + 1))]) (show ([0, 1, 2, 3, 4, 5, 6, 7, 8, 9, 10] : List Nat).Nodup from by decide +kernel) ⟨rfl, rfl, rfl, rfl, rfl, rfl, rfl, rfl, rfl, rfl, rfl, trivial⟩ ?_
        exact ih s x1 x2 x3 x4 x5 x6 x7 x8 x9 (x10 + 1) hG f (by first | exact x_rb b_x1 rfl rfl | exact ⟨by omega, by omega⟩) (by first | exact x_rb b_x2 rfl rfl | exact ⟨by omega, by omega⟩) (by first | exact x_rb b_x3 rfl rfl | exact ⟨by omega, by omega⟩) (by first | exact x_rb b_x4 rfl rfl | exact ⟨by omega, by omega⟩) (by first | exact x_rb b_x5 rfl rfl | exact ⟨by omega, by omega⟩) (by first | exact x_rb b_x6 rfl rfl | exact ⟨by omega, by omega⟩) (by first | exact x_rb b_x7 rfl rfl | exact ⟨by omega, by omega⟩) (by first | exact x_rb b_x8 rfl rfl | exact ⟨by omega, by omega⟩) (by first | exact x_rb b_x9 rfl rfl | exact ⟨by omega, by omega⟩) ⟨by omega, by omega⟩ (by omega) (by omega) (by omega) (by omega) (by omega) (by omega) (by omega) (by omega) (by omega)  (by omega)
      · skip
        refine x_A k206_99 (fun _ => rfl) ?_
        refine x_A k206_100 (fun _ => rfl) ?_
        refine x_A k206_102 (fun _ => rfl) ?_
        refine x_A k206_103 (fun _ => rfl) ?_
        refine x_callV k206_105 (y := 201) (n := 3) (w0 := 0) (w1 := 3) (as := [vi x10, vi x2, vi x4]) (rest := []) (by decide +kernel) (q := 256) (nq := 62) (kq := 15) ⟨by decide, rfl⟩ rfl rfl rfl rfl (xe_mono (C_X11_hasHand_256 s hG x10 (by first | exact x_rb b_x10 rfl rfl | exact ⟨by omega, by omega⟩) x2 (by first | exact x_rb b_x2 rfl rfl | exact ⟨by omega, by omega⟩) x4 (by first | exact x_rb b_x4 rfl rfl | exact ⟨by omega, by omega⟩)) ?_)
        rintro s1050 v ⟨-, t_s1050, z1049, rfl, g_z1049⟩
        rw [t_s1050.nil]
        show xe none 206 108 [(0, .ref 256), (1, vi x1), (2, vi x2), (3, vi x3), (4, vi x4), (5, vi x5), (6, vi x6), (7, vi x7), (8, vi x8), (9, vi x9), (10, vi x10)] [vi z1049] s 0 0 _
        refine x_if_eq k206_108 (t := 188) rfl (by first | exact x_rbe e_z1049 g_z1049 rfl rfl | exact x_rb g_z1049 rfl rfl | exact ⟨by omega, by omega⟩) (fun c1051 => ?_) (fun c1051 => ?_)
        · skip
          refine x_iinc k206_188 (ls' := [(10, vi (x10 + 1)), (0, .ref 256), (1, vi x1), (2, vi x2), (3, vi x3), (4, vi x4), (5, vi x5), (6, vi x6), (7, vi x7), (8, vi x8), (9, vi x9)]) rfl (by decide) rfl ?_
          refine x_goto k206_191 (t := 78) rfl ?_
          refine x_ls (l := [(0, .ref 256), (1, vi x1), (2, vi x2), (3, vi x3), (4, vi x4), (5, vi x5), (6, vi x6), (7, vi x7), (8, vi x8), (9, vi x9), (10, vi (x10 + 1))]) (show ([0, 1, 2, 3, 4, 5, 6, 7, 8, 9, 10] : List Nat).Nodup from by decide +kernel) ⟨rfl, rfl, rfl, rfl, rfl, rfl, rfl, rfl, rfl, rfl, rfl, trivial⟩ ?_
          exact ih s x1 x2 x3 x4 x5 x6 x7 x8 x9 (x10 + 1) hG f (by first | exact x_rb b_x1 rfl rfl | exact ⟨by omega, by omega⟩) (by first | exact x_rb b_x2 rfl rfl | exact ⟨by omega, by omega⟩) (by first | exact x_rb b_x3 rfl rfl | exact ⟨by omega, by omega⟩) (by first | exact x_rb b_x4 rfl rfl | exact ⟨by omega, by omega⟩) (by first | exact x_rb b_x5 rfl rfl | exact ⟨by omega, by omega⟩) (by first | exact x_rb b_x6 rfl rfl | exact ⟨by omega, by omega⟩) (by first | exact x_rb b_x7 rfl rfl | exact ⟨by omega, by omega⟩) (by first | exact x_rb b_x8 rfl rfl | exact ⟨by omega, by omega⟩) (by first | exact x_rb b_x9 rfl rfl | exact ⟨by omega, by omega⟩) ⟨by omega, by omega⟩ (by omega) (by omega) (by omega) (by omega) (by omega) (by omega) (by omega) (by omega) (by omega)  (by omega)
        · skip
          refine x_A k206_111 (fun _ => rfl) ?_
          refine x_A k206_112 (fun _ => rfl) ?_
          refine x_A k206_113 (fun _ => rfl) ?_
          refine x_A k206_115 (fun _ => rfl) ?_
          refine x_A k206_116 (fun _ => rfl) ?_
          refine x_callV k206_118 (y := 205) (n := 4) (w0 := 0) (w1 := 4) (as := [vi x1, vi x10, vi x3, vi x4]) (rest := []) (by decide +kernel) (q := 256) (nq := 62) (kq := 15) ⟨by decide, rfl⟩ rfl rfl rfl rfl (xe_mono (C_X11_saw_256 s hG (hJ0.fl f (by decide +kernel)) x1 (by first | exact x_rb b_x1 rfl rfl | exact ⟨by omega, by omega⟩) x10 (by first | exact x_rb b_x10 rfl rfl | exact ⟨by omega, by omega⟩) x3 (by first | exact x_rb b_x3 rfl rfl | exact ⟨by omega, by omega⟩) x4 (by first | exact x_rb b_x4 rfl rfl | exact ⟨by omega, by omega⟩)) ?_)
          rintro s1053 v ⟨-, t_s1053, z1052, rfl, g_z1052⟩
          rw [t_s1053.nil]
          show xe none 206 121 [(0, .ref 256), (1, vi x1), (2, vi x2), (3, vi x3), (4, vi x4), (5, vi x5), (6, vi x6), (7, vi x7), (8, vi x8), (9, vi x9), (10, vi x10)] [vi z1052] s 0 0 _
          refine x_istore k206_121 (ls' := [(11, vi z1052), (0, .ref 256), (1, vi x1), (2, vi x2), (3, vi x3), (4, vi x4), (5, vi x5), (6, vi x6), (7, vi x7), (8, vi x8), (9, vi x9), (10, vi x10)]) (by decide) rfl ?_
          refine x_A k206_123 (fun _ => rfl) ?_
          refine x_A k206_124 (fun _ => rfl) ?_
          refine x_A k206_125 (fun _ => rfl) ?_
          refine x_A k206_127 (fun _ => rfl) ?_
          refine x_A k206_128 (fun _ => rfl) ?_
          refine x_callV k206_130 (y := 205) (n := 4) (w0 := 0) (w1 := 4) (as := [vi x2, vi x10, vi x3, vi x4]) (rest := []) (by decide +kernel) (q := 256) (nq := 62) (kq := 15) ⟨by decide, rfl⟩ rfl rfl rfl rfl (xe_mono (C_X11_saw_256 s hG (hJ0.fl f (by decide +kernel)) x2 (by first | exact x_rb b_x2 rfl rfl | exact ⟨by omega, by omega⟩) x10 (by first | exact x_rb b_x10 rfl rfl | exact ⟨by omega, by omega⟩) x3 (by first | exact x_rb b_x3 rfl rfl | exact ⟨by omega, by omega⟩) x4 (by first | exact x_rb b_x4 rfl rfl | exact ⟨by omega, by omega⟩)) ?_)
          rintro s1055 v ⟨-, t_s1055, z1054, rfl, g_z1054⟩
          rw [t_s1055.nil]
          show xe none 206 133 [(11, vi z1052), (0, .ref 256), (1, vi x1), (2, vi x2), (3, vi x3), (4, vi x4), (5, vi x5), (6, vi x6), (7, vi x7), (8, vi x8), (9, vi x9), (10, vi x10)] [vi z1054] s 0 0 _
          refine x_istore k206_133 (ls' := [(12, vi z1054), (11, vi z1052), (0, .ref 256), (1, vi x1), (2, vi x2), (3, vi x3), (4, vi x4), (5, vi x5), (6, vi x6), (7, vi x7), (8, vi x8), (9, vi x9), (10, vi x10)]) (by decide) rfl ?_
          refine x_iinc k206_135 (ls' := [(6, vi (x6 + 1)), (12, vi z1054), (11, vi z1052), (0, .ref 256), (1, vi x1), (2, vi x2), (3, vi x3), (4, vi x4), (5, vi x5), (7, vi x7), (8, vi x8), (9, vi x9), (10, vi x10)]) rfl (by decide) rfl ?_
          refine x_A k206_138 (fun _ => rfl) ?_
          refine x_A k206_140 (fun _ => rfl) ?_
          refine x_if_eq k206_142 (t := 149) rfl (by first | exact x_rbe e_z1052 g_z1052 rfl rfl | exact x_rb g_z1052 rfl rfl | exact ⟨by omega, by omega⟩) (fun c1056 => ?_) (fun c1056 => ?_)
          · skip
            refine x_A k206_149 (fun _ => rfl) ?_
            refine x_iadd k206_150 ?_
            refine x_top (fun z1057 e_z1057 => ?_)
            refine x_istore k206_151 (ls' := [(7, vi z1057), (6, vi (x6 + 1)), (12, vi z1054), (11, vi z1052), (0, .ref 256), (1, vi x1), (2, vi x2), (3, vi x3), (4, vi x4), (5, vi x5), (8, vi x8), (9, vi x9), (10, vi x10)]) (by decide) rfl ?_
            refine x_A k206_153 (fun _ => rfl) ?_
            refine x_A k206_155 (fun _ => rfl) ?_
            refine x_if_eq k206_157 (t := 164) rfl (by first | exact x_rbe e_z1054 g_z1054 rfl rfl | exact x_rb g_z1054 rfl rfl | exact ⟨by omega, by omega⟩) (fun c1058 => ?_) (fun c1058 => ?_)
            · skip
              refine x_A k206_164 (fun _ => rfl) ?_
              refine x_iadd k206_165 ?_
              refine x_top (fun z1059 e_z1059 => ?_)
              refine x_istore k206_166 (ls' := [(8, vi z1059), (7, vi z1057), (6, vi (x6 + 1)), (12, vi z1054), (11, vi z1052), (0, .ref 256), (1, vi x1), (2, vi x2), (3, vi x3), (4, vi x4), (5, vi x5), (9, vi x9), (10, vi x10)]) (by decide) rfl ?_
              refine x_A k206_168 (fun _ => rfl) ?_
              refine x_A k206_170 (fun _ => rfl) ?_
              refine x_if_eq k206_172 (t := 184) rfl (by first | exact x_rbe e_z1052 g_z1052 rfl rfl | exact x_rb g_z1052 rfl rfl | exact ⟨by omega, by omega⟩) (fun c1060 => ?_) (fun c1060 => by exfalso; omega)
              refine x_A k206_184 (fun _ => rfl) ?_
              refine x_iadd k206_185 ?_
              refine x_top (fun z1061 e_z1061 => ?_)
              refine x_istore k206_186 (ls' := [(9, vi z1061), (8, vi z1059), (7, vi z1057), (6, vi (x6 + 1)), (12, vi z1054), (11, vi z1052), (0, .ref 256), (1, vi x1), (2, vi x2), (3, vi x3), (4, vi x4), (5, vi x5), (10, vi x10)]) (by decide) rfl ?_
              refine x_iinc k206_188 (ls' := [(10, vi (x10 + 1)), (9, vi z1061), (8, vi z1059), (7, vi z1057), (6, vi (x6 + 1)), (12, vi z1054), (11, vi z1052), (0, .ref 256), (1, vi x1), (2, vi x2), (3, vi x3), (4, vi x4), (5, vi x5)]) rfl (by decide) rfl ?_
              refine x_goto k206_191 (t := 78) rfl ?_
              refine x_ls (l := [(0, .ref 256), (1, vi x1), (2, vi x2), (3, vi x3), (4, vi x4), (5, vi x5), (6, vi (x6 + 1)), (7, vi z1057), (8, vi z1059), (9, vi z1061), (10, vi (x10 + 1))]) (show ([0, 1, 2, 3, 4, 5, 6, 7, 8, 9, 10] : List Nat).Nodup from by decide +kernel) ⟨rfl, rfl, rfl, rfl, rfl, rfl, rfl, rfl, rfl, rfl, rfl, trivial⟩ ?_
              exact ih s x1 x2 x3 x4 x5 (x6 + 1) z1057 z1059 z1061 (x10 + 1) hG f (by first | exact x_rb b_x1 rfl rfl | exact ⟨by omega, by omega⟩) (by first | exact x_rb b_x2 rfl rfl | exact ⟨by omega, by omega⟩) (by first | exact x_rb b_x3 rfl rfl | exact ⟨by omega, by omega⟩) (by first | exact x_rb b_x4 rfl rfl | exact ⟨by omega, by omega⟩) (by first | exact x_rb b_x5 rfl rfl | exact ⟨by omega, by omega⟩) ⟨by omega, by omega⟩ (by first | exact x_rbe e_z1057 g_z1057 rfl rfl | exact x_rb g_z1057 rfl rfl | exact ⟨by omega, by omega⟩) (by first | exact x_rbe e_z1059 g_z1059 rfl rfl | exact x_rb g_z1059 rfl rfl | exact ⟨by omega, by omega⟩) (by first | exact x_rbe e_z1061 g_z1061 rfl rfl | exact x_rb g_z1061 rfl rfl | exact ⟨by omega, by omega⟩) ⟨by omega, by omega⟩ (by omega) (by omega) (by omega) (by omega) (by omega) (by omega) (by omega) (by omega) (by omega)  (by omega)
            · skip
              refine x_A k206_160 (fun _ => rfl) ?_
              refine x_goto k206_161 (t := 165) rfl ?_
              refine x_iadd k206_165 ?_
              refine x_top (fun z1062 e_z1062 => ?_)
              refine x_istore k206_166 (ls' := [(8, vi z1062), (7, vi z1057), (6, vi (x6 + 1)), (12, vi z1054), (11, vi z1052), (0, .ref 256), (1, vi x1), (2, vi x2), (3, vi x3), (4, vi x4), (5, vi x5), (9, vi x9), (10, vi x10)]) (by decide) rfl ?_
              refine x_A k206_168 (fun _ => rfl) ?_
              refine x_A k206_170 (fun _ => rfl) ?_
              refine x_if_eq k206_172 (t := 184) rfl (by first | exact x_rbe e_z1052 g_z1052 rfl rfl | exact x_rb g_z1052 rfl rfl | exact ⟨by omega, by omega⟩) (fun c1063 => ?_) (fun c1063 => by exfalso; omega)
              refine x_A k206_184 (fun _ => rfl) ?_
              refine x_iadd k206_185 ?_
              refine x_top (fun z1064 e_z1064 => ?_)
              refine x_istore k206_186 (ls' := [(9, vi z1064), (8, vi z1062), (7, vi z1057), (6, vi (x6 + 1)), (12, vi z1054), (11, vi z1052), (0, .ref 256), (1, vi x1), (2, vi x2), (3, vi x3), (4, vi x4), (5, vi x5), (10, vi x10)]) (by decide) rfl ?_
              refine x_iinc k206_188 (ls' := [(10, vi (x10 + 1)), (9, vi z1064), (8, vi z1062), (7, vi z1057), (6, vi (x6 + 1)), (12, vi z1054), (11, vi z1052), (0, .ref 256), (1, vi x1), (2, vi x2), (3, vi x3), (4, vi x4), (5, vi x5)]) rfl (by decide) rfl ?_
              refine x_goto k206_191 (t := 78) rfl ?_
              refine x_ls (l := [(0, .ref 256), (1, vi x1), (2, vi x2), (3, vi x3), (4, vi x4), (5, vi x5), (6, vi (x6 + 1)), (7, vi z1057), (8, vi z1062), (9, vi z1064), (10, vi (x10 + 1))]) (show ([0, 1, 2, 3, 4, 5, 6, 7, 8, 9, 10] : List Nat).Nodup from by decide +kernel) ⟨rfl, rfl, rfl, rfl, rfl, rfl, rfl, rfl, rfl, rfl, rfl, trivial⟩ ?_
              exact ih s x1 x2 x3 x4 x5 (x6 + 1) z1057 z1062 z1064 (x10 + 1) hG f (by first | exact x_rb b_x1 rfl rfl | exact ⟨by omega, by omega⟩) (by first | exact x_rb b_x2 rfl rfl | exact ⟨by omega, by omega⟩) (by first | exact x_rb b_x3 rfl rfl | exact ⟨by omega, by omega⟩) (by first | exact x_rb b_x4 rfl rfl | exact ⟨by omega, by omega⟩) (by first | exact x_rb b_x5 rfl rfl | exact ⟨by omega, by omega⟩) ⟨by omega, by omega⟩ (by first | exact x_rbe e_z1057 g_z1057 rfl rfl | exact x_rb g_z1057 rfl rfl | exact ⟨by omega, by omega⟩) (by first | exact x_rbe e_z1062 g_z1062 rfl rfl | exact x_rb g_z1062 rfl rfl | exact ⟨by omega, by omega⟩) (by first | exact x_rbe e_z1064 g_z1064 rfl rfl | exact x_rb g_z1064 rfl rfl | exact ⟨by omega, by omega⟩) ⟨by omega, by omega⟩ (by omega) (by omega) (by omega) (by omega) (by omega) (by omega) (by omega) (by omega) (by omega)  (by omega)
          · skip
            refine x_A k206_145 (fun _ => rfl) ?_
            refine x_goto k206_146 (t := 150) rfl ?_
            refine x_iadd k206_150 ?_
            refine x_top (fun z1065 e_z1065 => ?_)
            refine x_istore k206_151 (ls' := [(7, vi z1065), (6, vi (x6 + 1)), (12, vi z1054), (11, vi z1052), (0, .ref 256), (1, vi x1), (2, vi x2), (3, vi x3), (4, vi x4), (5, vi x5), (8, vi x8), (9, vi x9), (10, vi x10)]) (by decide) rfl ?_
            refine x_A k206_153 (fun _ => rfl) ?_
            refine x_A k206_155 (fun _ => rfl) ?_
            refine x_if_eq k206_157 (t := 164) rfl (by first | exact x_rbe e_z1054 g_z1054 rfl rfl | exact x_rb g_z1054 rfl rfl | exact ⟨by omega, by omega⟩) (fun c1066 => ?_) (fun c1066 => ?_)
            · skip
              refine x_A k206_164 (fun _ => rfl) ?_
              refine x_iadd k206_165 ?_
              refine x_top (fun z1067 e_z1067 => ?_)
              refine x_istore k206_166 (ls' := [(8, vi z1067), (7, vi z1065), (6, vi (x6 + 1)), (12, vi z1054), (11, vi z1052), (0, .ref 256), (1, vi x1), (2, vi x2), (3, vi x3), (4, vi x4), (5, vi x5), (9, vi x9), (10, vi x10)]) (by decide) rfl ?_
              refine x_A k206_168 (fun _ => rfl) ?_
              refine x_A k206_170 (fun _ => rfl) ?_
              refine x_if_eq k206_172 (t := 184) rfl (by first | exact x_rbe e_z1052 g_z1052 rfl rfl | exact x_rb g_z1052 rfl rfl | exact ⟨by omega, by omega⟩) (fun c1068 => by exfalso; omega) (fun c1068 => ?_)
              refine x_A k206_175 (fun _ => rfl) ?_
              refine x_if_eq k206_177 (t := 184) rfl (by first | exact x_rbe e_z1054 g_z1054 rfl rfl | exact x_rb g_z1054 rfl rfl | exact ⟨by omega, by omega⟩) (fun c1069 => ?_) (fun c1069 => by exfalso; omega)
              refine x_A k206_184 (fun _ => rfl) ?_
              refine x_iadd k206_185 ?_
              refine x_top (fun z1070 e_z1070 => ?_)
              refine x_istore k206_186 (ls' := [(9, vi z1070), (8, vi z1067), (7, vi z1065), (6, vi (x6 + 1)), (12, vi z1054), (11, vi z1052), (0, .ref 256), (1, vi x1), (2, vi x2), (3, vi x3), (4, vi x4), (5, vi x5), (10, vi x10)]) (by decide) rfl ?_
              refine x_iinc k206_188 (ls' := [(10, vi (x10 + 1)), (9, vi z1070), (8, vi z1067), (7, vi z1065), (6, vi (x6 + 1)), (12, vi z1054), (11, vi z1052), (0, .ref 256), (1, vi x1), (2, vi x2), (3, vi x3), (4, vi x4), (5, vi x5)]) rfl (by decide) rfl ?_
              refine x_goto k206_191 (t := 78) rfl ?_
              refine x_ls (l := [(0, .ref 256), (1, vi x1), (2, vi x2), (3, vi x3), (4, vi x4), (5, vi x5), (6, vi (x6 + 1)), (7, vi z1065), (8, vi z1067), (9, vi z1070), (10, vi (x10 + 1))]) (show ([0, 1, 2, 3, 4, 5, 6, 7, 8, 9, 10] : List Nat).Nodup from by decide +kernel) ⟨rfl, rfl, rfl, rfl, rfl, rfl, rfl, rfl, rfl, rfl, rfl, trivial⟩ ?_
              exact ih s x1 x2 x3 x4 x5 (x6 + 1) z1065 z1067 z1070 (x10 + 1) hG f (by first | exact x_rb b_x1 rfl rfl | exact ⟨by omega, by omega⟩) (by first | exact x_rb b_x2 rfl rfl | exact ⟨by omega, by omega⟩) (by first | exact x_rb b_x3 rfl rfl | exact ⟨by omega, by omega⟩) (by first | exact x_rb b_x4 rfl rfl | exact ⟨by omega, by omega⟩) (by first | exact x_rb b_x5 rfl rfl | exact ⟨by omega, by omega⟩) ⟨by omega, by omega⟩ (by first | exact x_rbe e_z1065 g_z1065 rfl rfl | exact x_rb g_z1065 rfl rfl | exact ⟨by omega, by omega⟩) (by first | exact x_rbe e_z1067 g_z1067 rfl rfl | exact x_rb g_z1067 rfl rfl | exact ⟨by omega, by omega⟩) (by first | exact x_rbe e_z1070 g_z1070 rfl rfl | exact x_rb g_z1070 rfl rfl | exact ⟨by omega, by omega⟩) ⟨by omega, by omega⟩ (by omega) (by omega) (by omega) (by omega) (by omega) (by omega) (by omega) (by omega) (by omega)  (by omega)
            · skip
              refine x_A k206_160 (fun _ => rfl) ?_
              refine x_goto k206_161 (t := 165) rfl ?_
              refine x_iadd k206_165 ?_
              refine x_top (fun z1071 e_z1071 => ?_)
              refine x_istore k206_166 (ls' := [(8, vi z1071), (7, vi z1065), (6, vi (x6 + 1)), (12, vi z1054), (11, vi z1052), (0, .ref 256), (1, vi x1), (2, vi x2), (3, vi x3), (4, vi x4), (5, vi x5), (9, vi x9), (10, vi x10)]) (by decide) rfl ?_
              refine x_A k206_168 (fun _ => rfl) ?_
              refine x_A k206_170 (fun _ => rfl) ?_
              refine x_if_eq k206_172 (t := 184) rfl (by first | exact x_rbe e_z1052 g_z1052 rfl rfl | exact x_rb g_z1052 rfl rfl | exact ⟨by omega, by omega⟩) (fun c1072 => by exfalso; omega) (fun c1072 => ?_)
              refine x_A k206_175 (fun _ => rfl) ?_
              refine x_if_eq k206_177 (t := 184) rfl (by first | exact x_rbe e_z1054 g_z1054 rfl rfl | exact x_rb g_z1054 rfl rfl | exact ⟨by omega, by omega⟩) (fun c1073 => by exfalso; omega) (fun c1073 => ?_)
              refine x_A k206_180 (fun _ => rfl) ?_
              refine x_goto k206_181 (t := 185) rfl ?_
              refine x_iadd k206_185 ?_
              refine x_top (fun z1074 e_z1074 => ?_)
              refine x_istore k206_186 (ls' := [(9, vi z1074), (8, vi z1071), (7, vi z1065), (6, vi (x6 + 1)), (12, vi z1054), (11, vi z1052), (0, .ref 256), (1, vi x1), (2, vi x2), (3, vi x3), (4, vi x4), (5, vi x5), (10, vi x10)]) (by decide) rfl ?_
              refine x_iinc k206_188 (ls' := [(10, vi (x10 + 1)), (9, vi z1074), (8, vi z1071), (7, vi z1065), (6, vi (x6 + 1)), (12, vi z1054), (11, vi z1052), (0, .ref 256), (1, vi x1), (2, vi x2), (3, vi x3), (4, vi x4), (5, vi x5)]) rfl (by decide) rfl ?_
              refine x_goto k206_191 (t := 78) rfl ?_
              refine x_ls (l := [(0, .ref 256), (1, vi x1), (2, vi x2), (3, vi x3), (4, vi x4), (5, vi x5), (6, vi (x6 + 1)), (7, vi z1065), (8, vi z1071), (9, vi z1074), (10, vi (x10 + 1))]) (show ([0, 1, 2, 3, 4, 5, 6, 7, 8, 9, 10] : List Nat).Nodup from by decide +kernel) ⟨rfl, rfl, rfl, rfl, rfl, rfl, rfl, rfl, rfl, rfl, rfl, trivial⟩ ?_
              exact ih s x1 x2 x3 x4 x5 (x6 + 1) z1065 z1071 z1074 (x10 + 1) hG f (by first | exact x_rb b_x1 rfl rfl | exact ⟨by omega, by omega⟩) (by first | exact x_rb b_x2 rfl rfl | exact ⟨by omega, by omega⟩) (by first | exact x_rb b_x3 rfl rfl | exact ⟨by omega, by omega⟩) (by first | exact x_rb b_x4 rfl rfl | exact ⟨by omega, by omega⟩) (by first | exact x_rb b_x5 rfl rfl | exact ⟨by omega, by omega⟩) ⟨by omega, by omega⟩ (by first | exact x_rbe e_z1065 g_z1065 rfl rfl | exact x_rb g_z1065 rfl rfl | exact ⟨by omega, by omega⟩) (by first | exact x_rbe e_z1071 g_z1071 rfl rfl | exact x_rb g_z1071 rfl rfl | exact ⟨by omega, by omega⟩) (by first | exact x_rbe e_z1074 g_z1074 rfl rfl | exact x_rb g_z1074 rfl rfl | exact ⟨by omega, by omega⟩) ⟨by omega, by omega⟩ (by omega) (by omega) (by omega) (by omega) (by omega) (by omega) (by omega) (by omega) (by omega)  (by omega)
theorem C_X11_hands_256 (s0 : xS) (hG0 : GI s0) (hJ0 : J s0) (a : Int) (b_a : (-2147483648) ≤ a ∧ a ≤ 2147483647) (b : Int) (b_b : (-2147483648) ≤ b ∧ b ≤ 2147483647) (d : Int) (b_d : (-2147483648) ≤ d ∧ d ≤ 2147483647) (e : Int) (b_e : (-2147483648) ≤ e ∧ e ≤ 2147483647) (h : Int) (b_h : (-2147483648) ≤ h ∧ h ≤ 2147483647) : xe none 206 0 (lv_args 0 [.ref 256, vi a, vi b, vi d, vi e, vi h]) [] s0 0 0 (fun s' v => GI s' ∧ FL [5312, 5376, 4123, 5440, 5504, 5568, 5632, 5696, 5760] s0 s' ∧ ∃ z, v = some (vi z) ∧ ((-2147483648) ≤ z ∧ z ≤ 2147483647)) := by
  have f0 : FL [5312, 5376, 4123, 5440, 5504, 5568, 5632, 5696, 5760] s0 s0 := FL.rf
  show xe none 206 0 [(0, .ref 256), (1, vi a), (2, vi b), (3, vi d), (4, vi e), (5, vi h)] [] s0 0 0 _
  refine x_A k206_0 (fun _ => rfl) ?_
  refine x_A k206_1 (fun _ => rfl) ?_
  obtain ⟨z1075, e_z1075⟩ : ∃ z, z = s0 256 1 := ⟨_, rfl⟩
  have g_z1075 : (1 : Int) ≤ s0 256 1 ∧ s0 256 1 ≤ 40 := hG0 256 1
  refine x_callV k206_2 (y := 137) (n := 1) (w0 := 0) (w1 := 1) (as := [vi d]) (rest := []) (by decide +kernel) (q := 256) (nq := 62) (kq := 15) ⟨by decide, rfl⟩ rfl rfl rfl rfl (xe_mono (C_X11_isMark_256 s0 hG0 d (by first | exact x_rb b_d rfl rfl | exact ⟨by omega, by omega⟩)) ?_)
  rintro s1077 v ⟨h_s1077, z1076, rfl, hz_z1076⟩
  rw [h_s1077]
  rcases hz_z1076 with ⟨c_z1076, e_z1076⟩ | ⟨c_z1076, e_z1076⟩
  · rw [e_z1076]
    show xe none 206 5 [(0, .ref 256), (1, vi a), (2, vi b), (3, vi d), (4, vi e), (5, vi h)] [vi 1] s0 0 0 _
    refine x_if_ne k206_5 (t := 12) rfl ⟨by decide, by decide⟩ (fun c1078 => ?_) (fun c1078 => by exfalso; omega)
    refine x_A k206_12 (fun _ => rfl) ?_
    refine x_callS k206_13 (y := 153) (n := 1) (w0 := 0) (w1 := 1) (as := [vi a]) (rest := []) (by decide +kernel) rfl rfl rfl rfl (xe_mono (C_X11_isHand s0 hG0 a (by first | exact x_rb b_a rfl rfl | exact ⟨by omega, by omega⟩)) ?_)
    rintro s1080 v ⟨h_s1080, z1079, rfl, hz_z1079⟩
    rw [h_s1080]
    rcases hz_z1079 with ⟨c_z1079, e_z1079⟩ | ⟨c_z1079, e_z1079⟩
    · rw [e_z1079]
      show xe none 206 16 [(0, .ref 256), (1, vi a), (2, vi b), (3, vi d), (4, vi e), (5, vi h)] [vi 1] s0 0 0 _
      refine x_if_eq k206_16 (t := 53) rfl ⟨by decide, by decide⟩ (fun c1081 => by exfalso; omega) (fun c1081 => ?_)
      refine x_A k206_19 (fun _ => rfl) ?_
      refine x_callS k206_20 (y := 153) (n := 1) (w0 := 0) (w1 := 1) (as := [vi b]) (rest := []) (by decide +kernel) rfl rfl rfl rfl (xe_mono (C_X11_isHand s0 hG0 b (by first | exact x_rb b_b rfl rfl | exact ⟨by omega, by omega⟩)) ?_)
      rintro s1083 v ⟨h_s1083, z1082, rfl, hz_z1082⟩
      rw [h_s1083]
      rcases hz_z1082 with ⟨c_z1082, e_z1082⟩ | ⟨c_z1082, e_z1082⟩
      · rw [e_z1082]
        show xe none 206 23 [(0, .ref 256), (1, vi a), (2, vi b), (3, vi d), (4, vi e), (5, vi h)] [vi 1] s0 0 0 _
        refine x_if_eq k206_23 (t := 53) rfl ⟨by decide, by decide⟩ (fun c1084 => by exfalso; omega) (fun c1084 => ?_)
        refine x_A k206_26 (fun _ => rfl) ?_
        refine x_A k206_27 (fun _ => rfl) ?_
        refine x_ic_eq k206_28 (t := 53) rfl (by first | exact x_rb b_a rfl rfl | exact ⟨by omega, by omega⟩) (by first | exact x_rb b_b rfl rfl | exact ⟨by omega, by omega⟩) (fun c1085 => ?_) (fun c1085 => ?_)
        · skip
          refine x_sipush k206_53 (by decide +kernel) ?_
          exact x_iret k206_56 rfl ⟨hG0, f0, (-1002), rfl, ⟨by decide, by decide⟩⟩
        · skip
          refine x_A k206_31 (fun _ => rfl) ?_
          refine x_A k206_32 (fun _ => rfl) ?_
          obtain ⟨z1086, e_z1086⟩ : ∃ z, z = s0 256 0 := ⟨_, rfl⟩
          have g_z1086 : (0 : Int) ≤ s0 256 0 ∧ s0 256 0 ≤ 9 := hG0 256 0
          refine x_callV k206_34 (y := 138) (n := 1) (w0 := 0) (w1 := 1) (as := [vi e]) (rest := []) (by decide +kernel) (q := 256) (nq := 62) (kq := 15) ⟨by decide, rfl⟩ rfl rfl rfl rfl (xe_mono (C_X11_isEdition_256 s0 hG0 e (by first | exact x_rb b_e rfl rfl | exact ⟨by omega, by omega⟩)) ?_)
          rintro s1088 v ⟨h_s1088, z1087, rfl, hz_z1087⟩
          rw [h_s1088]
          rcases hz_z1087 with ⟨c_z1087, e_z1087⟩ | ⟨c_z1087, e_z1087⟩
          · rw [e_z1087]
            show xe none 206 37 [(0, .ref 256), (1, vi a), (2, vi b), (3, vi d), (4, vi e), (5, vi h)] [vi 1] s0 0 0 _
            refine x_if_eq k206_37 (t := 53) rfl ⟨by decide, by decide⟩ (fun c1089 => by exfalso; omega) (fun c1089 => ?_)
            refine x_A k206_40 (fun _ => rfl) ?_
            refine x_i2l k206_42 (by first | exact x_rb b_h rfl rfl | exact ⟨by omega, by omega⟩) ?_
            refine x_lconst k206_43 (z := 0) (by decide +kernel) ?_
            refine x_ldc2 k206_44 (z := 4) rfl (by decide +kernel) ?_
            refine x_callS k206_47 (y := 136) (n := 3) (w0 := 0) (w1 := 6) (as := [vj h, vj 0, vj 4]) (rest := []) (by decide +kernel) rfl rfl rfl rfl (xe_mono (C_X11_in s0 hG0 h ⟨by omega, by omega⟩ 0 ⟨by omega, by omega⟩ 4 ⟨by omega, by omega⟩) ?_)
            rintro s1091 v ⟨h_s1091, z1090, rfl, hz_z1090⟩
            rw [h_s1091]
            rcases hz_z1090 with ⟨c_z1090, e_z1090⟩ | ⟨c_z1090, e_z1090⟩
            · rw [e_z1090]
              show xe none 206 50 [(0, .ref 256), (1, vi a), (2, vi b), (3, vi d), (4, vi e), (5, vi h)] [vi 1] s0 0 0 _
              refine x_if_ne k206_50 (t := 57) rfl ⟨by decide, by decide⟩ (fun c1092 => ?_) (fun c1092 => by exfalso; omega)
              refine x_A k206_57 (fun _ => rfl) ?_
              refine x_A k206_58 (fun _ => rfl) ?_
              refine x_callV k206_60 (y := 168) (n := 1) (w0 := 0) (w1 := 1) (as := [vi e]) (rest := []) (by decide +kernel) (q := 256) (nq := 62) (kq := 15) ⟨by decide, rfl⟩ rfl rfl rfl rfl (xe_mono (C_X11_find_256 s0 hG0 (hJ0.fl f0 (by decide +kernel)) e (by first | exact x_rb b_e rfl rfl | exact ⟨by omega, by omega⟩)) ?_)
              rintro s1094 v ⟨hG_s1094, t_s1094, rfl⟩
              have f_s1094 : FL [5312, 5376, 4123, 5440, 5504, 5568, 5632, 5696, 5760] s0 s1094 := f0.tr t_s1094 (by decide +kernel)
              have q1095 : s1094 256 1 = z1075 := (t_s1094 256 1 (show 4098 ∉ [5312, 5376, 4123, 5440, 5504, 5568, 5632, 5696, 5760] from by decide +kernel)).trans e_z1075.symm
              have q1096 : s1094 256 0 = z1086 := (t_s1094 256 0 (show 4097 ∉ [5312, 5376, 4123, 5440, 5504, 5568, 5632, 5696, 5760] from by decide +kernel)).trans e_z1086.symm
              show xe none 206 63 [(0, .ref 256), (1, vi a), (2, vi b), (3, vi d), (4, vi e), (5, vi h)] [] s1094 0 0 _
              refine x_A k206_63 (fun _ => rfl) ?_
              refine x_istore k206_64 (ls' := [(6, vi 0), (0, .ref 256), (1, vi a), (2, vi b), (3, vi d), (4, vi e), (5, vi h)]) (by decide) rfl ?_
              refine x_A k206_66 (fun _ => rfl) ?_
              refine x_istore k206_67 (ls' := [(7, vi 0), (6, vi 0), (0, .ref 256), (1, vi a), (2, vi b), (3, vi d), (4, vi e), (5, vi h)]) (by decide) rfl ?_
              refine x_A k206_69 (fun _ => rfl) ?_
              refine x_istore k206_70 (ls' := [(8, vi 0), (7, vi 0), (6, vi 0), (0, .ref 256), (1, vi a), (2, vi b), (3, vi d), (4, vi e), (5, vi h)]) (by decide) rfl ?_
              refine x_A k206_72 (fun _ => rfl) ?_
              refine x_istore k206_73 (ls' := [(9, vi 0), (8, vi 0), (7, vi 0), (6, vi 0), (0, .ref 256), (1, vi a), (2, vi b), (3, vi d), (4, vi e), (5, vi h)]) (by decide) rfl ?_
              refine x_A k206_75 (fun _ => rfl) ?_
              refine x_istore k206_76 (ls' := [(10, vi 0), (9, vi 0), (8, vi 0), (7, vi 0), (6, vi 0), (0, .ref 256), (1, vi a), (2, vi b), (3, vi d), (4, vi e), (5, vi h)]) (by decide) rfl ?_
              refine x_ls (l := [(0, .ref 256), (1, vi a), (2, vi b), (3, vi d), (4, vi e), (5, vi h), (6, vi 0), (7, vi 0), (8, vi 0), (9, vi 0), (10, vi 0)]) (show ([0, 1, 2, 3, 4, 5, 6, 7, 8, 9, 10] : List Nat).Nodup from by decide +kernel) ⟨rfl, rfl, rfl, rfl, rfl, rfl, rfl, rfl, rfl, rfl, rfl, trivial⟩ ?_
              exact L_C_X11_hands_256_78 s0 hJ0  (((40 - 0) + 1 : Int)).toNat s1094 a b d e h 0 0 0 0 0 hG_s1094 f_s1094 (by first | exact x_rb b_a rfl rfl | exact ⟨by omega, by omega⟩) (by first | exact x_rb b_b rfl rfl | exact ⟨by omega, by omega⟩) (by first | exact x_rb b_d rfl rfl | exact ⟨by omega, by omega⟩) (by first | exact x_rb b_e rfl rfl | exact ⟨by omega, by omega⟩) (by first | exact x_rb b_h rfl rfl | exact ⟨by omega, by omega⟩) ⟨by decide, by decide⟩ ⟨by decide, by decide⟩ ⟨by decide, by decide⟩ ⟨by decide, by decide⟩ ⟨by decide, by decide⟩ (by omega) (by omega) (by omega) (by omega) (by omega) (by omega) (by omega) (by omega) (by omega)  (by omega)
            · rw [e_z1090]
              show xe none 206 50 [(0, .ref 256), (1, vi a), (2, vi b), (3, vi d), (4, vi e), (5, vi h)] [vi 0] s0 0 0 _
              refine x_if_ne k206_50 (t := 57) rfl ⟨by decide, by decide⟩ (fun c1097 => by exfalso; omega) (fun c1097 => ?_)
              refine x_sipush k206_53 (by decide +kernel) ?_
              exact x_iret k206_56 rfl ⟨hG0, f0, (-1002), rfl, ⟨by decide, by decide⟩⟩
          · rw [e_z1087]
            show xe none 206 37 [(0, .ref 256), (1, vi a), (2, vi b), (3, vi d), (4, vi e), (5, vi h)] [vi 0] s0 0 0 _
            refine x_if_eq k206_37 (t := 53) rfl ⟨by decide, by decide⟩ (fun c1098 => ?_) (fun c1098 => by exfalso; omega)
            refine x_sipush k206_53 (by decide +kernel) ?_
            exact x_iret k206_56 rfl ⟨hG0, f0, (-1002), rfl, ⟨by decide, by decide⟩⟩
      · rw [e_z1082]
        show xe none 206 23 [(0, .ref 256), (1, vi a), (2, vi b), (3, vi d), (4, vi e), (5, vi h)] [vi 0] s0 0 0 _
        refine x_if_eq k206_23 (t := 53) rfl ⟨by decide, by decide⟩ (fun c1099 => ?_) (fun c1099 => by exfalso; omega)
        refine x_sipush k206_53 (by decide +kernel) ?_
        exact x_iret k206_56 rfl ⟨hG0, f0, (-1002), rfl, ⟨by decide, by decide⟩⟩
    · rw [e_z1079]
      show xe none 206 16 [(0, .ref 256), (1, vi a), (2, vi b), (3, vi d), (4, vi e), (5, vi h)] [vi 0] s0 0 0 _
      refine x_if_eq k206_16 (t := 53) rfl ⟨by decide, by decide⟩ (fun c1100 => ?_) (fun c1100 => by exfalso; omega)
      refine x_sipush k206_53 (by decide +kernel) ?_
      exact x_iret k206_56 rfl ⟨hG0, f0, (-1002), rfl, ⟨by decide, by decide⟩⟩
  · rw [e_z1076]
    show xe none 206 5 [(0, .ref 256), (1, vi a), (2, vi b), (3, vi d), (4, vi e), (5, vi h)] [vi 0] s0 0 0 _
    refine x_if_ne k206_5 (t := 12) rfl ⟨by decide, by decide⟩ (fun c1101 => by exfalso; omega) (fun c1101 => ?_)
    refine x_sipush k206_8 (by decide +kernel) ?_
    exact x_iret k206_11 rfl ⟨hG0, f0, (-1001), rfl, ⟨by decide, by decide⟩⟩
theorem C_X11_together_256 (s0 : xS) (hG0 : GI s0) (hJ0 : J s0) (a : Int) (b_a : (-2147483648) ≤ a ∧ a ≤ 2147483647) (b : Int) (b_b : (-2147483648) ≤ b ∧ b ≤ 2147483647) (d : Int) (b_d : (-2147483648) ≤ d ∧ d ≤ 2147483647) (e : Int) (b_e : (-2147483648) ≤ e ∧ e ≤ 2147483647) (h : Int) (b_h : (-2147483648) ≤ h ∧ h ≤ 2147483647) (j : Int) (b_j : (-2147483648) ≤ j ∧ j ≤ 2147483647) : xe none 208 0 (lv_args 0 [.ref 256, vi a, vi b, vi d, vi e, vi h, vi j]) [] s0 0 0 (fun s' v => GI s' ∧ FL [5312, 5376, 4123, 5440, 5504, 5568, 5632, 5696, 5760, 4150, 4151, 4152, 4153] s0 s' ∧ ∃ z, v = some (vi z) ∧ ((-1004) ≤ z ∧ z ≤ 120)) := by
  have f0 : FL [5312, 5376, 4123, 5440, 5504, 5568, 5632, 5696, 5760, 4150, 4151, 4152, 4153] s0 s0 := FL.rf
  show xe none 208 0 [(0, .ref 256), (1, vi a), (2, vi b), (3, vi d), (4, vi e), (5, vi h), (6, vi j)] [] s0 0 0 _
  refine x_A k208_0 (fun _ => rfl) ?_
  refine x_A k208_1 (fun _ => rfl) ?_
  obtain ⟨z1, e_z1⟩ : ∃ z, z = s0 256 1 := ⟨_, rfl⟩
  have g_z1 : (1 : Int) ≤ s0 256 1 ∧ s0 256 1 ≤ 40 := hG0 256 1
  refine x_callV k208_2 (y := 137) (n := 1) (w0 := 0) (w1 := 1) (as := [vi a]) (rest := []) (by decide +kernel) (q := 256) (nq := 62) (kq := 15) ⟨by decide, rfl⟩ rfl rfl rfl rfl (xe_mono (C_X11_isMark_256 s0 hG0 a (by first | exact x_rb b_a rfl rfl | exact ⟨by omega, by omega⟩)) ?_)
  rintro s3 v ⟨h_s3, z2, rfl, hz_z2⟩
  rw [h_s3]
  rcases hz_z2 with ⟨c_z2, e_z2⟩ | ⟨c_z2, e_z2⟩
  · rw [e_z2]
    show xe none 208 5 [(0, .ref 256), (1, vi a), (2, vi b), (3, vi d), (4, vi e), (5, vi h), (6, vi j)] [vi 1] s0 0 0 _
    refine x_if_eq k208_5 (t := 16) rfl ⟨by decide, by decide⟩ (fun c4 => by exfalso; omega) (fun c4 => ?_)
    refine x_A k208_8 (fun _ => rfl) ?_
    refine x_A k208_9 (fun _ => rfl) ?_
    refine x_callV k208_10 (y := 137) (n := 1) (w0 := 0) (w1 := 1) (as := [vi b]) (rest := []) (by decide +kernel) (q := 256) (nq := 62) (kq := 15) ⟨by decide, rfl⟩ rfl rfl rfl rfl (xe_mono (C_X11_isMark_256 s0 hG0 b (by first | exact x_rb b_b rfl rfl | exact ⟨by omega, by omega⟩)) ?_)
    rintro s6 v ⟨h_s6, z5, rfl, hz_z5⟩
    rw [h_s6]
    rcases hz_z5 with ⟨c_z5, e_z5⟩ | ⟨c_z5, e_z5⟩
    · rw [e_z5]
      show xe none 208 13 [(0, .ref 256), (1, vi a), (2, vi b), (3, vi d), (4, vi e), (5, vi h), (6, vi j)] [vi 1] s0 0 0 _
      refine x_if_ne k208_13 (t := 20) rfl ⟨by decide, by decide⟩ (fun c7 => ?_) (fun c7 => by exfalso; omega)
      refine x_A k208_20 (fun _ => rfl) ?_
      refine x_A k208_21 (fun _ => rfl) ?_
      obtain ⟨z8, e_z8⟩ : ∃ z, z = s0 256 0 := ⟨_, rfl⟩
      have g_z8 : (0 : Int) ≤ s0 256 0 ∧ s0 256 0 ≤ 9 := hG0 256 0
      refine x_callV k208_22 (y := 138) (n := 1) (w0 := 0) (w1 := 1) (as := [vi d]) (rest := []) (by decide +kernel) (q := 256) (nq := 62) (kq := 15) ⟨by decide, rfl⟩ rfl rfl rfl rfl (xe_mono (C_X11_isEdition_256 s0 hG0 d (by first | exact x_rb b_d rfl rfl | exact ⟨by omega, by omega⟩)) ?_)
      rintro s10 v ⟨h_s10, z9, rfl, hz_z9⟩
      rw [h_s10]
      rcases hz_z9 with ⟨c_z9, e_z9⟩ | ⟨c_z9, e_z9⟩
      · rw [e_z9]
        show xe none 208 25 [(0, .ref 256), (1, vi a), (2, vi b), (3, vi d), (4, vi e), (5, vi h), (6, vi j)] [vi 1] s0 0 0 _
        refine x_if_eq k208_25 (t := 67) rfl ⟨by decide, by decide⟩ (fun c11 => by exfalso; omega) (fun c11 => ?_)
        refine x_A k208_28 (fun _ => rfl) ?_
        refine x_i2l k208_30 (by first | exact x_rb b_h rfl rfl | exact ⟨by omega, by omega⟩) ?_
        refine x_lconst k208_31 (z := 0) (by decide +kernel) ?_
        refine x_ldc2 k208_32 (z := 999) rfl (by decide +kernel) ?_
        refine x_callS k208_35 (y := 136) (n := 3) (w0 := 0) (w1 := 6) (as := [vj h, vj 0, vj 999]) (rest := []) (by decide +kernel) rfl rfl rfl rfl (xe_mono (C_X11_in s0 hG0 h ⟨by omega, by omega⟩ 0 ⟨by omega, by omega⟩ 999 ⟨by omega, by omega⟩) ?_)
        rintro s13 v ⟨h_s13, z12, rfl, hz_z12⟩
        rw [h_s13]
        rcases hz_z12 with ⟨c_z12, e_z12⟩ | ⟨c_z12, e_z12⟩
        · rw [e_z12]
          show xe none 208 38 [(0, .ref 256), (1, vi a), (2, vi b), (3, vi d), (4, vi e), (5, vi h), (6, vi j)] [vi 1] s0 0 0 _
          refine x_if_eq k208_38 (t := 67) rfl ⟨by decide, by decide⟩ (fun c14 => by exfalso; omega) (fun c14 => ?_)
          refine x_A k208_41 (fun _ => rfl) ?_
          refine x_i2l k208_43 (by first | exact x_rb b_e rfl rfl | exact ⟨by omega, by omega⟩) ?_
          refine x_lconst k208_44 (z := 0) (by decide +kernel) ?_
          refine x_A k208_45 (fun _ => rfl) ?_
          refine x_i2l k208_47 (by first | exact x_rb b_h rfl rfl | exact ⟨by omega, by omega⟩) ?_
          refine x_callS k208_48 (y := 136) (n := 3) (w0 := 0) (w1 := 6) (as := [vj e, vj 0, vj h]) (rest := []) (by decide +kernel) rfl rfl rfl rfl (xe_mono (C_X11_in s0 hG0 e ⟨by omega, by omega⟩ 0 ⟨by omega, by omega⟩ h ⟨by omega, by omega⟩) ?_)
          rintro s16 v ⟨h_s16, z15, rfl, hz_z15⟩
          rw [h_s16]
          rcases hz_z15 with ⟨c_z15, e_z15⟩ | ⟨c_z15, e_z15⟩
          · rw [e_z15]
            show xe none 208 51 [(0, .ref 256), (1, vi a), (2, vi b), (3, vi d), (4, vi e), (5, vi h), (6, vi j)] [vi 1] s0 0 0 _
            refine x_if_eq k208_51 (t := 67) rfl ⟨by decide, by decide⟩ (fun c17 => by exfalso; omega) (fun c17 => ?_)
            refine x_A k208_54 (fun _ => rfl) ?_
            refine x_i2l k208_56 (by first | exact x_rb b_j rfl rfl | exact ⟨by omega, by omega⟩) ?_
            refine x_lconst k208_57 (z := 0) (by decide +kernel) ?_
            refine x_ldc2 k208_58 (z := 4) rfl (by decide +kernel) ?_
            refine x_callS k208_61 (y := 136) (n := 3) (w0 := 0) (w1 := 6) (as := [vj j, vj 0, vj 4]) (rest := []) (by decide +kernel) rfl rfl rfl rfl (xe_mono (C_X11_in s0 hG0 j ⟨by omega, by omega⟩ 0 ⟨by omega, by omega⟩ 4 ⟨by omega, by omega⟩) ?_)
            rintro s19 v ⟨h_s19, z18, rfl, hz_z18⟩
            rw [h_s19]
            rcases hz_z18 with ⟨c_z18, e_z18⟩ | ⟨c_z18, e_z18⟩
            · rw [e_z18]
              show xe none 208 64 [(0, .ref 256), (1, vi a), (2, vi b), (3, vi d), (4, vi e), (5, vi h), (6, vi j)] [vi 1] s0 0 0 _
              refine x_if_ne k208_64 (t := 71) rfl ⟨by decide, by decide⟩ (fun c20 => ?_) (fun c20 => by exfalso; omega)
              refine x_A k208_71 (fun _ => rfl) ?_
              refine x_A k208_72 (fun _ => rfl) ?_
              refine x_callV k208_73 (y := 168) (n := 1) (w0 := 0) (w1 := 1) (as := [vi d]) (rest := []) (by decide +kernel) (q := 256) (nq := 62) (kq := 15) ⟨by decide, rfl⟩ rfl rfl rfl rfl (xe_mono (C_X11_find_256 s0 hG0 (hJ0.fl f0 (by decide +kernel)) d (by first | exact x_rb b_d rfl rfl | exact ⟨by omega, by omega⟩)) ?_)
              rintro s22 v ⟨hG_s22, t_s22, rfl⟩
              have f_s22 : FL [5312, 5376, 4123, 5440, 5504, 5568, 5632, 5696, 5760, 4150, 4151, 4152, 4153] s0 s22 := f0.tr t_s22 (by decide +kernel)
              have q23 : s22 256 1 = z1 := (t_s22 256 1 (show 4098 ∉ [5312, 5376, 4123, 5440, 5504, 5568, 5632, 5696, 5760] from by decide +kernel)).trans e_z1.symm
              have q24 : s22 256 0 = z8 := (t_s22 256 0 (show 4097 ∉ [5312, 5376, 4123, 5440, 5504, 5568, 5632, 5696, 5760] from by decide +kernel)).trans e_z8.symm
              show xe none 208 76 [(0, .ref 256), (1, vi a), (2, vi b), (3, vi d), (4, vi e), (5, vi h), (6, vi j)] [] s22 0 0 _
              refine x_A k208_76 (fun _ => rfl) ?_
              refine x_A k208_77 (fun _ => rfl) ?_
              refine x_A k208_78 (fun _ => rfl) ?_
              refine x_A k208_79 (fun _ => rfl) ?_
              refine x_A k208_81 (fun _ => rfl) ?_
              refine x_callV k208_83 (y := 207) (n := 4) (w0 := 0) (w1 := 4) (as := [vi a, vi b, vi e, vi h]) (rest := []) (by decide +kernel) (q := 256) (nq := 62) (kq := 15) ⟨by decide, rfl⟩ rfl rfl rfl rfl (xe_mono (C_X11_isBeyond_256 s22 hG_s22 a (by first | exact x_rb b_a rfl rfl | exact ⟨by omega, by omega⟩) b (by first | exact x_rb b_b rfl rfl | exact ⟨by omega, by omega⟩) e (by first | exact x_rb b_e rfl rfl | exact ⟨by omega, by omega⟩) h (by first | exact x_rb b_h rfl rfl | exact ⟨by omega, by omega⟩)) ?_)
              rintro s26 v ⟨hG_s26, t_s26, z25, rfl, g_z25⟩
              have f_s26 : FL [5312, 5376, 4123, 5440, 5504, 5568, 5632, 5696, 5760, 4150, 4151, 4152, 4153] s0 s26 := f_s22.tr t_s26 (by decide +kernel)
              have q27 : s26 256 1 = z1 := (t_s26 256 1 (show 4098 ∉ [4150, 4151, 4152, 4153] from by decide +kernel)).trans q23
              have q28 : s26 256 0 = z8 := (t_s26 256 0 (show 4097 ∉ [4150, 4151, 4152, 4153] from by decide +kernel)).trans q24
              show xe none 208 86 [(0, .ref 256), (1, vi a), (2, vi b), (3, vi d), (4, vi e), (5, vi h), (6, vi j)] [vi z25] s26 0 0 _
              refine x_istore k208_86 (ls' := [(7, vi z25), (0, .ref 256), (1, vi a), (2, vi b), (3, vi d), (4, vi e), (5, vi h), (6, vi j)]) (by decide) rfl ?_
              refine x_A k208_88 (fun _ => rfl) ?_
              refine x_if_ne k208_90 (t := 100) rfl (by first | exact x_rb b_j rfl rfl | exact ⟨by omega, by omega⟩) (fun c29 => ?_) (fun c29 => ?_)
              · skip
                refine x_A k208_100 (fun _ => rfl) ?_
                refine x_A k208_102 (fun _ => rfl) ?_
                refine x_ic_ne k208_103 (t := 113) rfl (by first | exact x_rb b_j rfl rfl | exact ⟨by omega, by omega⟩) ⟨by decide, by decide⟩ (fun c30 => ?_) (fun c30 => ?_)
                · skip
                  refine x_A k208_113 (fun _ => rfl) ?_
                  refine x_A k208_115 (fun _ => rfl) ?_
                  refine x_ic_ne k208_116 (t := 126) rfl (by first | exact x_rb b_j rfl rfl | exact ⟨by omega, by omega⟩) ⟨by decide, by decide⟩ (fun c31 => ?_) (fun c31 => ?_)
                  · skip
                    refine x_A k208_126 (fun _ => rfl) ?_
                    refine x_A k208_128 (fun _ => rfl) ?_
                    refine x_ic_ne k208_129 (t := 139) rfl (by first | exact x_rb b_j rfl rfl | exact ⟨by omega, by omega⟩) ⟨by decide, by decide⟩ (fun c32 => ?_) (fun c32 => ?_)
                    · skip
                      refine x_A k208_139 (fun _ => rfl) ?_
                      refine x_if_eq k208_141 (t := 148) rfl (by first | exact x_rbe e_z25 g_z25 rfl rfl | exact x_rb g_z25 rfl rfl | exact ⟨by omega, by omega⟩) (fun c33 => ?_) (fun c33 => ?_)
                      · skip
                        refine x_A k208_148 (fun _ => rfl) ?_
                        exact x_iret k208_149 rfl ⟨hG_s26, f_s26, 0, rfl, ⟨by decide, by decide⟩⟩
                      · skip
                        refine x_A k208_144 (fun _ => rfl) ?_
                        refine x_goto k208_145 (t := 149) rfl ?_
                        exact x_iret k208_149 rfl ⟨hG_s26, f_s26, 1, rfl, ⟨by decide, by decide⟩⟩
                    · skip
                      refine x_A k208_132 (fun _ => rfl) ?_
                      refine x_getI k208_133 (f := 56) rfl (q := 256) (n := 62) (kd := 15) ⟨by decide, rfl⟩ (by decide) rfl ?_
                      refine x_top (fun z34 e_z34 => ?_)
                      have g_z34 : (0 : Int) ≤ s26 256 56 ∧ s26 256 56 ≤ 40 := hG_s26 256 56
                      refine x_goto k208_136 (t := 149) rfl ?_
                      exact x_iret k208_149 rfl ⟨hG_s26, f_s26, z34, rfl, (by first | exact x_rbe e_z34 g_z34 rfl rfl | exact x_rb g_z34 rfl rfl | exact ⟨by omega, by omega⟩)⟩
                  · skip
                    refine x_A k208_119 (fun _ => rfl) ?_
                    refine x_getI k208_120 (f := 55) rfl (q := 256) (n := 62) (kd := 15) ⟨by decide, rfl⟩ (by decide) rfl ?_
                    refine x_top (fun z35 e_z35 => ?_)
                    have g_z35 : (0 : Int) ≤ s26 256 55 ∧ s26 256 55 ≤ 40 := hG_s26 256 55
                    refine x_goto k208_123 (t := 149) rfl ?_
                    exact x_iret k208_149 rfl ⟨hG_s26, f_s26, z35, rfl, (by first | exact x_rbe e_z35 g_z35 rfl rfl | exact x_rb g_z35 rfl rfl | exact ⟨by omega, by omega⟩)⟩
                · skip
                  refine x_A k208_106 (fun _ => rfl) ?_
                  refine x_getI k208_107 (f := 54) rfl (q := 256) (n := 62) (kd := 15) ⟨by decide, rfl⟩ (by decide) rfl ?_
                  refine x_top (fun z36 e_z36 => ?_)
                  have g_z36 : (0 : Int) ≤ s26 256 54 ∧ s26 256 54 ≤ 40 := hG_s26 256 54
                  refine x_goto k208_110 (t := 149) rfl ?_
                  exact x_iret k208_149 rfl ⟨hG_s26, f_s26, z36, rfl, (by first | exact x_rbe e_z36 g_z36 rfl rfl | exact x_rb g_z36 rfl rfl | exact ⟨by omega, by omega⟩)⟩
              · skip
                refine x_A k208_93 (fun _ => rfl) ?_
                refine x_getI k208_94 (f := 53) rfl (q := 256) (n := 62) (kd := 15) ⟨by decide, rfl⟩ (by decide) rfl ?_
                refine x_top (fun z37 e_z37 => ?_)
                have g_z37 : (0 : Int) ≤ s26 256 53 ∧ s26 256 53 ≤ 40 := hG_s26 256 53
                refine x_goto k208_97 (t := 149) rfl ?_
                exact x_iret k208_149 rfl ⟨hG_s26, f_s26, z37, rfl, (by first | exact x_rbe e_z37 g_z37 rfl rfl | exact x_rb g_z37 rfl rfl | exact ⟨by omega, by omega⟩)⟩
            · rw [e_z18]
              show xe none 208 64 [(0, .ref 256), (1, vi a), (2, vi b), (3, vi d), (4, vi e), (5, vi h), (6, vi j)] [vi 0] s0 0 0 _
              refine x_if_ne k208_64 (t := 71) rfl ⟨by decide, by decide⟩ (fun c38 => by exfalso; omega) (fun c38 => ?_)
              refine x_sipush k208_67 (by decide +kernel) ?_
              exact x_iret k208_70 rfl ⟨hG0, f0, (-1002), rfl, ⟨by decide, by decide⟩⟩
          · rw [e_z15]
            show xe none 208 51 [(0, .ref 256), (1, vi a), (2, vi b), (3, vi d), (4, vi e), (5, vi h), (6, vi j)] [vi 0] s0 0 0 _
            refine x_if_eq k208_51 (t := 67) rfl ⟨by decide, by decide⟩ (fun c39 => ?_) (fun c39 => by exfalso; omega)
            refine x_sipush k208_67 (by decide +kernel) ?_
            exact x_iret k208_70 rfl ⟨hG0, f0, (-1002), rfl, ⟨by decide, by decide⟩⟩
        · rw [e_z12]
          show xe none 208 38 [(0, .ref 256), (1, vi a), (2, vi b), (3, vi d), (4, vi e), (5, vi h), (6, vi j)] [vi 0] s0 0 0 _
          refine x_if_eq k208_38 (t := 67) rfl ⟨by decide, by decide⟩ (fun c40 => ?_) (fun c40 => by exfalso; omega)
          refine x_sipush k208_67 (by decide +kernel) ?_
          exact x_iret k208_70 rfl ⟨hG0, f0, (-1002), rfl, ⟨by decide, by decide⟩⟩
      · rw [e_z9]
        show xe none 208 25 [(0, .ref 256), (1, vi a), (2, vi b), (3, vi d), (4, vi e), (5, vi h), (6, vi j)] [vi 0] s0 0 0 _
        refine x_if_eq k208_25 (t := 67) rfl ⟨by decide, by decide⟩ (fun c41 => ?_) (fun c41 => by exfalso; omega)
        refine x_sipush k208_67 (by decide +kernel) ?_
        exact x_iret k208_70 rfl ⟨hG0, f0, (-1002), rfl, ⟨by decide, by decide⟩⟩
    · rw [e_z5]
      show xe none 208 13 [(0, .ref 256), (1, vi a), (2, vi b), (3, vi d), (4, vi e), (5, vi h), (6, vi j)] [vi 0] s0 0 0 _
      refine x_if_ne k208_13 (t := 20) rfl ⟨by decide, by decide⟩ (fun c42 => by exfalso; omega) (fun c42 => ?_)
      refine x_sipush k208_16 (by decide +kernel) ?_
      exact x_iret k208_19 rfl ⟨hG0, f0, (-1001), rfl, ⟨by decide, by decide⟩⟩
  · rw [e_z2]
    show xe none 208 5 [(0, .ref 256), (1, vi a), (2, vi b), (3, vi d), (4, vi e), (5, vi h), (6, vi j)] [vi 0] s0 0 0 _
    refine x_if_eq k208_5 (t := 16) rfl ⟨by decide, by decide⟩ (fun c43 => ?_) (fun c43 => by exfalso; omega)
    refine x_sipush k208_16 (by decide +kernel) ?_
    exact x_iret k208_19 rfl ⟨hG0, f0, (-1001), rfl, ⟨by decide, by decide⟩⟩
theorem C_X11_areApart_256 (s0 : xS) (hG0 : GI s0) (hJ0 : J s0) (a : Int) (b_a : (-2147483648) ≤ a ∧ a ≤ 2147483647) (b : Int) (b_b : (-2147483648) ≤ b ∧ b ≤ 2147483647) (d : Int) (b_d : 0 ≤ d ∧ d ≤ 9) : xe none 209 0 (lv_args 0 [.ref 256, vi a, vi b, vi d]) [] s0 0 0 (fun s' v => GI s' ∧ FL [] s0 s' ∧ ∃ z, v = some (vi z) ∧ (0 ≤ z ∧ z ≤ 1)) := by
  have f0 : FL [] s0 s0 := FL.rf
  show xe none 209 0 [(0, .ref 256), (1, vi a), (2, vi b), (3, vi d)] [] s0 0 0 _
  refine x_A k209_0 (fun _ => rfl) ?_
  refine x_A k209_1 (fun _ => rfl) ?_
  refine x_A k209_2 (fun _ => rfl) ?_
  obtain ⟨z1, e_z1⟩ : ∃ z, z = s0 256 1 := ⟨_, rfl⟩
  have g_z1 : (1 : Int) ≤ s0 256 1 ∧ s0 256 1 ≤ 40 := hG0 256 1
  refine x_callV k209_3 (y := 142) (n := 2) (w0 := 0) (w1 := 2) (as := [vi b, vi d]) (rest := []) (by decide +kernel) (q := 256) (nq := 62) (kq := 15) ⟨by decide, rfl⟩ rfl rfl rfl rfl (xe_mono (C_X11_isThere_256 s0 hG0 b (by first | exact x_rb b_b rfl rfl | exact ⟨by omega, by omega⟩) d (by first | exact x_rb b_d rfl rfl | exact ⟨by omega, by omega⟩)) ?_)
  rintro s3 v ⟨h_s3, z2, rfl, hz_z2⟩
  rw [h_s3]
  rcases hz_z2 with ⟨c_z2, e_z2, m_z2⟩ | ⟨e_z2, m_z2⟩
  · rw [e_z2]
    show xe none 209 6 [(0, .ref 256), (1, vi a), (2, vi b), (3, vi d)] [vi 1] s0 0 0 _
    refine x_if_eq k209_6 (t := 33) rfl ⟨by decide, by decide⟩ (fun c4 => by exfalso; omega) (fun c4 => ?_)
    refine x_A k209_9 (fun _ => rfl) ?_
    refine x_A k209_10 (fun _ => rfl) ?_
    refine x_A k209_11 (fun _ => rfl) ?_
    refine x_A k209_12 (fun _ => rfl) ?_
    refine x_callV k209_13 (y := 143) (n := 3) (w0 := 0) (w1 := 3) (as := [vi b, vi a, vi d]) (rest := []) (by decide +kernel) (q := 256) (nq := 62) (kq := 15) ⟨by decide, rfl⟩ rfl rfl rfl rfl (xe_mono (C_X11_isBelow_256 s0 hG0 (hJ0.fl f0 (by decide +kernel)) b (by first | exact x_rb b_b rfl rfl | exact ⟨by omega, by omega⟩) a (by first | exact x_rb b_a rfl rfl | exact ⟨by omega, by omega⟩) d (by first | exact x_rb b_d rfl rfl | exact ⟨by omega, by omega⟩)) ?_)
    rintro s6 v ⟨-, t_s6, z5, rfl, g_z5⟩
    rw [t_s6.nil]
    show xe none 209 16 [(0, .ref 256), (1, vi a), (2, vi b), (3, vi d)] [vi z5] s0 0 0 _
    refine x_if_ne k209_16 (t := 33) rfl (by first | exact x_rbe e_z5 g_z5 rfl rfl | exact x_rb g_z5 rfl rfl | exact ⟨by omega, by omega⟩) (fun c7 => ?_) (fun c7 => ?_)
    · skip
      refine x_A k209_33 (fun _ => rfl) ?_
      exact x_zret k209_34 rfl ⟨by omega, by omega⟩ ⟨hG0, f0, 0, rfl, ⟨by decide, by decide⟩⟩
    · skip
      refine x_A k209_19 (fun _ => rfl) ?_
      refine x_A k209_20 (fun _ => rfl) ?_
      refine x_A k209_21 (fun _ => rfl) ?_
      refine x_A k209_22 (fun _ => rfl) ?_
      refine x_callV k209_23 (y := 143) (n := 3) (w0 := 0) (w1 := 3) (as := [vi a, vi b, vi d]) (rest := []) (by decide +kernel) (q := 256) (nq := 62) (kq := 15) ⟨by decide, rfl⟩ rfl rfl rfl rfl (xe_mono (C_X11_isBelow_256 s0 hG0 (hJ0.fl f0 (by decide +kernel)) a (by first | exact x_rb b_a rfl rfl | exact ⟨by omega, by omega⟩) b (by first | exact x_rb b_b rfl rfl | exact ⟨by omega, by omega⟩) d (by first | exact x_rb b_d rfl rfl | exact ⟨by omega, by omega⟩)) ?_)
      rintro s9 v ⟨-, t_s9, z8, rfl, g_z8⟩
      rw [t_s9.nil]
      show xe none 209 26 [(0, .ref 256), (1, vi a), (2, vi b), (3, vi d)] [vi z8] s0 0 0 _
      refine x_if_ne k209_26 (t := 33) rfl (by first | exact x_rbe e_z8 g_z8 rfl rfl | exact x_rb g_z8 rfl rfl | exact ⟨by omega, by omega⟩) (fun c10 => ?_) (fun c10 => ?_)
      · skip
        refine x_A k209_33 (fun _ => rfl) ?_
        exact x_zret k209_34 rfl ⟨by omega, by omega⟩ ⟨hG0, f0, 0, rfl, ⟨by decide, by decide⟩⟩
      · skip
        refine x_A k209_29 (fun _ => rfl) ?_
        refine x_goto k209_30 (t := 34) rfl ?_
        exact x_zret k209_34 rfl ⟨by omega, by omega⟩ ⟨hG0, f0, 1, rfl, ⟨by decide, by decide⟩⟩
  · rw [e_z2]
    show xe none 209 6 [(0, .ref 256), (1, vi a), (2, vi b), (3, vi d)] [vi 0] s0 0 0 _
    refine x_if_eq k209_6 (t := 33) rfl ⟨by decide, by decide⟩ (fun c11 => ?_) (fun c11 => by exfalso; omega)
    refine x_A k209_33 (fun _ => rfl) ?_
    exact x_zret k209_34 rfl ⟨by omega, by omega⟩ ⟨hG0, f0, 0, rfl, ⟨by decide, by decide⟩⟩
theorem C_X11_goesAlong_256 (s0 : xS) (hG0 : GI s0) (hJ0 : J s0) (a : Int) (b_a : (-2147483648) ≤ a ∧ a ≤ 2147483647) (b : Int) (b_b : (-2147483648) ≤ b ∧ b ≤ 2147483647) (d : Int) (b_d : 0 ≤ d ∧ d ≤ 9) : xe none 210 0 (lv_args 0 [.ref 256, vi a, vi b, vi d]) [] s0 0 0 (fun s' v => GI s' ∧ FL [4150, 4151, 4152, 4153] s0 s' ∧ ∃ z, v = some (vi z) ∧ (0 ≤ z ∧ z ≤ 1)) := by
  have f0 : FL [4150, 4151, 4152, 4153] s0 s0 := FL.rf
  show xe none 210 0 [(0, .ref 256), (1, vi a), (2, vi b), (3, vi d)] [] s0 0 0 _
  refine x_A k210_0 (fun _ => rfl) ?_
  refine x_A k210_1 (fun _ => rfl) ?_
  refine x_A k210_2 (fun _ => rfl) ?_
  refine x_A k210_3 (fun _ => rfl) ?_
  refine x_callV k210_4 (y := 209) (n := 3) (w0 := 0) (w1 := 3) (as := [vi a, vi b, vi d]) (rest := []) (by decide +kernel) (q := 256) (nq := 62) (kq := 15) ⟨by decide, rfl⟩ rfl rfl rfl rfl (xe_mono (C_X11_areApart_256 s0 hG0 (hJ0.fl f0 (by decide +kernel)) a (by first | exact x_rb b_a rfl rfl | exact ⟨by omega, by omega⟩) b (by first | exact x_rb b_b rfl rfl | exact ⟨by omega, by omega⟩) d (by first | exact x_rb b_d rfl rfl | exact ⟨by omega, by omega⟩)) ?_)
  rintro s2 v ⟨-, t_s2, z1, rfl, g_z1⟩
  rw [t_s2.nil]
  show xe none 210 7 [(0, .ref 256), (1, vi a), (2, vi b), (3, vi d)] [vi z1] s0 0 0 _
  refine x_if_eq k210_7 (t := 27) rfl (by first | exact x_rbe e_z1 g_z1 rfl rfl | exact x_rb g_z1 rfl rfl | exact ⟨by omega, by omega⟩) (fun c3 => ?_) (fun c3 => ?_)
  · skip
    refine x_A k210_27 (fun _ => rfl) ?_
    exact x_zret k210_28 rfl ⟨by omega, by omega⟩ ⟨hG0, f0, 0, rfl, ⟨by decide, by decide⟩⟩
  · skip
    refine x_A k210_10 (fun _ => rfl) ?_
    refine x_A k210_11 (fun _ => rfl) ?_
    refine x_A k210_12 (fun _ => rfl) ?_
    refine x_A k210_13 (fun _ => rfl) ?_
    refine x_sipush k210_14 (by decide +kernel) ?_
    refine x_callV k210_17 (y := 207) (n := 4) (w0 := 0) (w1 := 4) (as := [vi a, vi b, vi 0, vi 999]) (rest := []) (by decide +kernel) (q := 256) (nq := 62) (kq := 15) ⟨by decide, rfl⟩ rfl rfl rfl rfl (xe_mono (C_X11_isBeyond_256 s0 hG0 a (by first | exact x_rb b_a rfl rfl | exact ⟨by omega, by omega⟩) b (by first | exact x_rb b_b rfl rfl | exact ⟨by omega, by omega⟩) 0 ⟨by decide, by decide⟩ 999 ⟨by decide, by decide⟩) ?_)
    rintro s5 v ⟨hG_s5, t_s5, z4, rfl, g_z4⟩
    have f_s5 : FL [4150, 4151, 4152, 4153] s0 s5 := f0.tr t_s5 (by decide +kernel)
    show xe none 210 20 [(0, .ref 256), (1, vi a), (2, vi b), (3, vi d)] [vi z4] s5 0 0 _
    refine x_if_eq k210_20 (t := 27) rfl (by first | exact x_rbe e_z4 g_z4 rfl rfl | exact x_rb g_z4 rfl rfl | exact ⟨by omega, by omega⟩) (fun c6 => ?_) (fun c6 => ?_)
    · skip
      refine x_A k210_27 (fun _ => rfl) ?_
      exact x_zret k210_28 rfl ⟨by omega, by omega⟩ ⟨hG_s5, f_s5, 0, rfl, ⟨by decide, by decide⟩⟩
    · skip
      refine x_A k210_23 (fun _ => rfl) ?_
      refine x_goto k210_24 (t := 28) rfl ?_
      exact x_zret k210_28 rfl ⟨by omega, by omega⟩ ⟨hG_s5, f_s5, 1, rfl, ⟨by decide, by decide⟩⟩
theorem L_C_X11_along_256_35 (s0 : xS) (hJ0 : J s0)  : ∀ (n : Nat) (s : xS) (x1 : Int) (x2 : Int) (x3 : Int) (x4 : Int) (x5 : Int) (hG : GI s) (f : FL [5312, 5376, 4123, 5440, 5504, 5568, 5632, 5696, 5760, 4150, 4151, 4152, 4153] s0 s) (b_x1 : 0 ≤ x1 ∧ x1 ≤ 39) (b_x2 : 0 ≤ x2 ∧ x2 ≤ 9) (b_x3 : (-2147483648) ≤ x3 ∧ x3 ≤ 2147483647) (b_x4 : 0 ≤ x4 ∧ x4 ≤ 60) (b_x5 : 0 ≤ x5 ∧ x5 ≤ 40) (r_4_5 : x4 ≤ x5 + 0)  (hm : (40 - x5) < (n : Int)), xe none 211 35 [(0, .ref 256), (1, vi x1), (2, vi x2), (3, vi x3), (4, vi x4), (5, vi x5)] [] s 0 0 (fun s' v => GI s' ∧ FL [5312, 5376, 4123, 5440, 5504, 5568, 5632, 5696, 5760, 4150, 4151, 4152, 4153] s0 s' ∧ ∃ z, v = some (vi z) ∧ ((-1004) ≤ z ∧ z ≤ 120)) := by
  intro n
  induction n with
  | zero => intro s x1 x2 x3 x4 x5 hG f b_x1 b_x2 b_x3 b_x4 b_x5 r_4_5  hm; exfalso; omega
  | succ n ih =>
    intro s x1 x2 x3 x4 x5 hG f b_x1 b_x2 b_x3 b_x4 b_x5 r_4_5  hm
    refine x_A k211_35 (fun _ => rfl) ?_
    refine x_A k211_37 (fun _ => rfl) ?_
    refine x_getI k211_38 (f := 1) rfl (q := 256) (n := 62) (kd := 15) ⟨by decide, rfl⟩ (by decide) rfl ?_
    refine x_top (fun z316 e_z316 => ?_)
    have g_z316 : (1 : Int) ≤ s 256 1 ∧ s 256 1 ≤ 40 := hG 256 1
    refine x_ic_ge k211_41 (t := 73) rfl (by first | exact x_rb b_x5 rfl rfl | exact ⟨by omega, by omega⟩) (by first | exact x_rbe e_z316 g_z316 rfl rfl | exact x_rb g_z316 rfl rfl | exact ⟨by omega, by omega⟩) (fun c317 => ?_) (fun c317 => ?_)
    · skip
      refine x_A k211_73 (fun _ => rfl) ?_
      refine x_A k211_74 (fun _ => rfl) ?_
      refine x_ic_ne k211_75 (t := 83) rfl (by first | exact x_rb b_x3 rfl rfl | exact ⟨by omega, by omega⟩) ⟨by decide, by decide⟩ (fun c318 => ?_) (fun c318 => ?_)
      · skip
        refine x_A k211_83 (fun _ => rfl) ?_
        exact x_iret k211_84 rfl ⟨hG, f, (-1), rfl, ⟨by decide, by decide⟩⟩
      · skip
        refine x_A k211_78 (fun _ => rfl) ?_
        refine x_goto k211_80 (t := 84) rfl ?_
        exact x_iret k211_84 rfl ⟨hG, f, x4, rfl, (by first | exact x_rb b_x4 rfl rfl | exact ⟨by omega, by omega⟩)⟩
    · skip
      refine x_A k211_44 (fun _ => rfl) ?_
      refine x_A k211_45 (fun _ => rfl) ?_
      refine x_A k211_46 (fun _ => rfl) ?_
      refine x_A k211_48 (fun _ => rfl) ?_
      refine x_callV k211_49 (y := 210) (n := 3) (w0 := 0) (w1 := 3) (as := [vi x1, vi x5, vi x2]) (rest := []) (by decide +kernel) (q := 256) (nq := 62) (kq := 15) ⟨by decide, rfl⟩ rfl rfl rfl rfl (xe_mono (C_X11_goesAlong_256 s hG (hJ0.fl f (by decide +kernel)) x1 (by first | exact x_rb b_x1 rfl rfl | exact ⟨by omega, by omega⟩) x5 (by first | exact x_rb b_x5 rfl rfl | exact ⟨by omega, by omega⟩) x2 (by first | exact x_rb b_x2 rfl rfl | exact ⟨by omega, by omega⟩)) ?_)
      rintro s320 v ⟨hG_s320, t_s320, z319, rfl, g_z319⟩
      have f_s320 : FL [5312, 5376, 4123, 5440, 5504, 5568, 5632, 5696, 5760, 4150, 4151, 4152, 4153] s0 s320 := f.tr t_s320 (by decide +kernel)
      have q321 : s320 256 1 = z316 := (t_s320 256 1 (show 4098 ∉ [4150, 4151, 4152, 4153] from by decide +kernel)).trans e_z316.symm
      show xe none 211 52 [(0, .ref 256), (1, vi x1), (2, vi x2), (3, vi x3), (4, vi x4), (5, vi x5)] [vi z319] s320 0 0 _
      refine x_if_eq k211_52 (t := 67) rfl (by first | exact x_rbe e_z319 g_z319 rfl rfl | exact x_rb g_z319 rfl rfl | exact ⟨by omega, by omega⟩) (fun c322 => ?_) (fun c322 => ?_)
      · skip
        refine x_iinc k211_67 (ls' := [(5, vi (x5 + 1)), (0, .ref 256), (1, vi x1), (2, vi x2), (3, vi x3), (4, vi x4)]) rfl (by decide) rfl ?_
        refine x_goto k211_70 (t := 35) rfl ?_
        refine x_ls (l := [(0, .ref 256), (1, vi x1), (2, vi x2), (3, vi x3), (4, vi x4), (5, vi (x5 + 1))]) (show ([0, 1, 2, 3, 4, 5] : List Nat).Nodup from by decide +kernel) ⟨rfl, rfl, rfl, rfl, rfl, rfl, trivial⟩ ?_
        exact ih s320 x1 x2 x3 x4 (x5 + 1) hG_s320 f_s320 (by first | exact x_rb b_x1 rfl rfl | exact ⟨by omega, by omega⟩) (by first | exact x_rb b_x2 rfl rfl | exact ⟨by omega, by omega⟩) (by first | exact x_rb b_x3 rfl rfl | exact ⟨by omega, by omega⟩) (by first | exact x_rb b_x4 rfl rfl | exact ⟨by omega, by omega⟩) ⟨by omega, by omega⟩ (by omega)  (by omega)
      · skip
        refine x_A k211_55 (fun _ => rfl) ?_
        refine x_A k211_57 (fun _ => rfl) ?_
        refine x_ic_ne k211_58 (t := 64) rfl (by first | exact x_rb b_x4 rfl rfl | exact ⟨by omega, by omega⟩) (by first | exact x_rb b_x3 rfl rfl | exact ⟨by omega, by omega⟩) (fun c323 => ?_) (fun c323 => ?_)
        · skip
          refine x_iinc k211_64 (ls' := [(4, vi (x4 + 1)), (0, .ref 256), (1, vi x1), (2, vi x2), (3, vi x3), (5, vi x5)]) rfl (by decide) rfl ?_
          refine x_iinc k211_67 (ls' := [(5, vi (x5 + 1)), (4, vi (x4 + 1)), (0, .ref 256), (1, vi x1), (2, vi x2), (3, vi x3)]) rfl (by decide) rfl ?_
          refine x_goto k211_70 (t := 35) rfl ?_
          refine x_ls (l := [(0, .ref 256), (1, vi x1), (2, vi x2), (3, vi x3), (4, vi (x4 + 1)), (5, vi (x5 + 1))]) (show ([0, 1, 2, 3, 4, 5] : List Nat).Nodup from by decide +kernel) ⟨rfl, rfl, rfl, rfl, rfl, rfl, trivial⟩ ?_
          exact ih s320 x1 x2 x3 (x4 + 1) (x5 + 1) hG_s320 f_s320 (by first | exact x_rb b_x1 rfl rfl | exact ⟨by omega, by omega⟩) (by first | exact x_rb b_x2 rfl rfl | exact ⟨by omega, by omega⟩) (by first | exact x_rb b_x3 rfl rfl | exact ⟨by omega, by omega⟩) ⟨by omega, by omega⟩ ⟨by omega, by omega⟩ (by omega)  (by omega)
        · skip
          refine x_A k211_61 (fun _ => rfl) ?_
          exact x_iret k211_63 rfl ⟨hG_s320, f_s320, x5, rfl, (by first | exact x_rb b_x5 rfl rfl | exact ⟨by omega, by omega⟩)⟩
theorem C_X11_along_256 (s0 : xS) (hG0 : GI s0) (hJ0 : J s0) (a : Int) (b_a : (-2147483648) ≤ a ∧ a ≤ 2147483647) (b : Int) (b_b : (-2147483648) ≤ b ∧ b ≤ 2147483647) (d : Int) (b_d : (-2147483648) ≤ d ∧ d ≤ 2147483647) : xe none 211 0 (lv_args 0 [.ref 256, vi a, vi b, vi d]) [] s0 0 0 (fun s' v => GI s' ∧ FL [5312, 5376, 4123, 5440, 5504, 5568, 5632, 5696, 5760, 4150, 4151, 4152, 4153] s0 s' ∧ ∃ z, v = some (vi z) ∧ ((-1004) ≤ z ∧ z ≤ 120)) := by
  have f0 : FL [5312, 5376, 4123, 5440, 5504, 5568, 5632, 5696, 5760, 4150, 4151, 4152, 4153] s0 s0 := FL.rf
  show xe none 211 0 [(0, .ref 256), (1, vi a), (2, vi b), (3, vi d)] [] s0 0 0 _
  refine x_A k211_0 (fun _ => rfl) ?_
  refine x_A k211_1 (fun _ => rfl) ?_
  obtain ⟨z324, e_z324⟩ : ∃ z, z = s0 256 1 := ⟨_, rfl⟩
  have g_z324 : (1 : Int) ≤ s0 256 1 ∧ s0 256 1 ≤ 40 := hG0 256 1
  refine x_callV k211_2 (y := 137) (n := 1) (w0 := 0) (w1 := 1) (as := [vi a]) (rest := []) (by decide +kernel) (q := 256) (nq := 62) (kq := 15) ⟨by decide, rfl⟩ rfl rfl rfl rfl (xe_mono (C_X11_isMark_256 s0 hG0 a (by first | exact x_rb b_a rfl rfl | exact ⟨by omega, by omega⟩)) ?_)
  rintro s326 v ⟨h_s326, z325, rfl, hz_z325⟩
  rw [h_s326]
  rcases hz_z325 with ⟨c_z325, e_z325⟩ | ⟨c_z325, e_z325⟩
  · rw [e_z325]
    show xe none 211 5 [(0, .ref 256), (1, vi a), (2, vi b), (3, vi d)] [vi 1] s0 0 0 _
    refine x_if_ne k211_5 (t := 12) rfl ⟨by decide, by decide⟩ (fun c327 => ?_) (fun c327 => by exfalso; omega)
    refine x_A k211_12 (fun _ => rfl) ?_
    refine x_A k211_13 (fun _ => rfl) ?_
    obtain ⟨z328, e_z328⟩ : ∃ z, z = s0 256 0 := ⟨_, rfl⟩
    have g_z328 : (0 : Int) ≤ s0 256 0 ∧ s0 256 0 ≤ 9 := hG0 256 0
    refine x_callV k211_14 (y := 138) (n := 1) (w0 := 0) (w1 := 1) (as := [vi b]) (rest := []) (by decide +kernel) (q := 256) (nq := 62) (kq := 15) ⟨by decide, rfl⟩ rfl rfl rfl rfl (xe_mono (C_X11_isEdition_256 s0 hG0 b (by first | exact x_rb b_b rfl rfl | exact ⟨by omega, by omega⟩)) ?_)
    rintro s330 v ⟨h_s330, z329, rfl, hz_z329⟩
    rw [h_s330]
    rcases hz_z329 with ⟨c_z329, e_z329⟩ | ⟨c_z329, e_z329⟩
    · rw [e_z329]
      show xe none 211 17 [(0, .ref 256), (1, vi a), (2, vi b), (3, vi d)] [vi 1] s0 0 0 _
      refine x_if_ne k211_17 (t := 24) rfl ⟨by decide, by decide⟩ (fun c331 => ?_) (fun c331 => by exfalso; omega)
      refine x_A k211_24 (fun _ => rfl) ?_
      refine x_A k211_25 (fun _ => rfl) ?_
      refine x_callV k211_26 (y := 168) (n := 1) (w0 := 0) (w1 := 1) (as := [vi b]) (rest := []) (by decide +kernel) (q := 256) (nq := 62) (kq := 15) ⟨by decide, rfl⟩ rfl rfl rfl rfl (xe_mono (C_X11_find_256 s0 hG0 (hJ0.fl f0 (by decide +kernel)) b (by first | exact x_rb b_b rfl rfl | exact ⟨by omega, by omega⟩)) ?_)
      rintro s333 v ⟨hG_s333, t_s333, rfl⟩
      have f_s333 : FL [5312, 5376, 4123, 5440, 5504, 5568, 5632, 5696, 5760, 4150, 4151, 4152, 4153] s0 s333 := f0.tr t_s333 (by decide +kernel)
      have q334 : s333 256 1 = z324 := (t_s333 256 1 (show 4098 ∉ [5312, 5376, 4123, 5440, 5504, 5568, 5632, 5696, 5760] from by decide +kernel)).trans e_z324.symm
      have q335 : s333 256 0 = z328 := (t_s333 256 0 (show 4097 ∉ [5312, 5376, 4123, 5440, 5504, 5568, 5632, 5696, 5760] from by decide +kernel)).trans e_z328.symm
      show xe none 211 29 [(0, .ref 256), (1, vi a), (2, vi b), (3, vi d)] [] s333 0 0 _
      refine x_A k211_29 (fun _ => rfl) ?_
      refine x_istore k211_30 (ls' := [(4, vi 0), (0, .ref 256), (1, vi a), (2, vi b), (3, vi d)]) (by decide) rfl ?_
      refine x_A k211_32 (fun _ => rfl) ?_
      refine x_istore k211_33 (ls' := [(5, vi 0), (4, vi 0), (0, .ref 256), (1, vi a), (2, vi b), (3, vi d)]) (by decide) rfl ?_
      refine x_ls (l := [(0, .ref 256), (1, vi a), (2, vi b), (3, vi d), (4, vi 0), (5, vi 0)]) (show ([0, 1, 2, 3, 4, 5] : List Nat).Nodup from by decide +kernel) ⟨rfl, rfl, rfl, rfl, rfl, rfl, trivial⟩ ?_
      exact L_C_X11_along_256_35 s0 hJ0  (((40 - 0) + 1 : Int)).toNat s333 a b d 0 0 hG_s333 f_s333 (by first | exact x_rb b_a rfl rfl | exact ⟨by omega, by omega⟩) (by first | exact x_rb b_b rfl rfl | exact ⟨by omega, by omega⟩) (by first | exact x_rb b_d rfl rfl | exact ⟨by omega, by omega⟩) ⟨by decide, by decide⟩ ⟨by decide, by decide⟩ (by omega)  (by omega)
    · rw [e_z329]
      show xe none 211 17 [(0, .ref 256), (1, vi a), (2, vi b), (3, vi d)] [vi 0] s0 0 0 _
      refine x_if_ne k211_17 (t := 24) rfl ⟨by decide, by decide⟩ (fun c336 => by exfalso; omega) (fun c336 => ?_)
      refine x_sipush k211_20 (by decide +kernel) ?_
      exact x_iret k211_23 rfl ⟨hG0, f0, (-1002), rfl, ⟨by decide, by decide⟩⟩
  · rw [e_z325]
    show xe none 211 5 [(0, .ref 256), (1, vi a), (2, vi b), (3, vi d)] [vi 0] s0 0 0 _
    refine x_if_ne k211_5 (t := 12) rfl ⟨by decide, by decide⟩ (fun c337 => by exfalso; omega) (fun c337 => ?_)
    refine x_sipush k211_8 (by decide +kernel) ?_
    exact x_iret k211_11 rfl ⟨hG0, f0, (-1001), rfl, ⟨by decide, by decide⟩⟩
theorem L_C_X11_likely_256_157 (s0 : xS) (hJ0 : J s0) (n_149 : Nat) (ih_149 : ∀ (s : xS) (x1 : Int) (x2 : Int) (x3 : Int) (x4 : Int) (x5 : Int) (hG : GI s) (f : FL [5312, 5376, 4123, 5440, 5504, 5568, 5632, 5696, 5760, 4150, 4151, 4152, 4153, 6336] s0 s) (b_x1 : 0 ≤ x1 ∧ x1 ≤ 39) (b_x2 : 0 ≤ x2 ∧ x2 ≤ 9) (b_x3 : (-2147483648) ≤ x3 ∧ x3 ≤ 2147483647) (b_x4 : (-2147483648) ≤ x4 ∧ x4 ≤ 2147483647) (b_x5 : 0 ≤ x5 ∧ x5 ≤ 40) (hm : (x5 - 0) < (n_149 : Int)), xe none 212 149 [(0, .ref 256), (1, vi x1), (2, vi x2), (3, vi x3), (4, vi x4), (5, vi x5)] [] s 0 0 (fun s' v => GI s' ∧ FL [5312, 5376, 4123, 5440, 5504, 5568, 5632, 5696, 5760, 4150, 4151, 4152, 4153, 6336] s0 s' ∧ ∃ z, v = some (vi z) ∧ ((-2147483648) ≤ z ∧ z ≤ 2147483647))) : ∀ (n : Nat) (s : xS) (x1 : Int) (x2 : Int) (x3 : Int) (x4 : Int) (x5 : Int) (x6 : Int) (hG : GI s) (f : FL [5312, 5376, 4123, 5440, 5504, 5568, 5632, 5696, 5760, 4150, 4151, 4152, 4153, 6336] s0 s) (b_x1 : 0 ≤ x1 ∧ x1 ≤ 39) (b_x2 : 0 ≤ x2 ∧ x2 ≤ 9) (b_x3 : (-2147483648) ≤ x3 ∧ x3 ≤ 2147483647) (b_x4 : (-2147483648) ≤ x4 ∧ x4 ≤ 2147483647) (b_x5 : 1 ≤ x5 ∧ x5 ≤ 40) (b_x6 : 0 ≤ x6 ∧ x6 ≤ 40) (r_5_6 : x5 ≤ x6 + 40) (k_149 : (x5 - 0) < (n_149 : Int) + 1) (hm : (40 - x6) < (n : Int)), xe none 212 157 [(0, .ref 256), (1, vi x1), (2, vi x2), (3, vi x3), (4, vi x4), (5, vi x5), (6, vi x6)] [] s 0 0 (fun s' v => GI s' ∧ FL [5312, 5376, 4123, 5440, 5504, 5568, 5632, 5696, 5760, 4150, 4151, 4152, 4153, 6336] s0 s' ∧ ∃ z, v = some (vi z) ∧ ((-2147483648) ≤ z ∧ z ≤ 2147483647)) := by
  intro n
  induction n with
  | zero => intro s x1 x2 x3 x4 x5 x6 hG f b_x1 b_x2 b_x3 b_x4 b_x5 b_x6 r_5_6 k_149 hm; exfalso; omega
  | succ n ih =>
    intro s x1 x2 x3 x4 x5 x6 hG f b_x1 b_x2 b_x3 b_x4 b_x5 b_x6 r_5_6 k_149 hm
    refine x_A k212_157 (fun _ => rfl) ?_
    refine x_A k212_159 (fun _ => rfl) ?_
    refine x_getI k212_160 (f := 6) rfl (q := 256) (n := 62) (kd := 15) ⟨by decide, rfl⟩ (by decide) rfl ?_
    refine x_top (fun z1591 e_z1591 => ?_)
    have g_z1591 : (0 : Int) ≤ s 256 6 ∧ s 256 6 ≤ 40 := hG 256 6
    refine x_ic_ge k212_163 (t := 196) rfl (by first | exact x_rb b_x6 rfl rfl | exact ⟨by omega, by omega⟩) (by first | exact x_rbe e_z1591 g_z1591 rfl rfl | exact x_rb g_z1591 rfl rfl | exact ⟨by omega, by omega⟩) (fun c1592 => ?_) (fun c1592 => ?_)
    · skip
      refine x_iinc k212_196 (ls' := [(5, vi (x5 + (-1))), (0, .ref 256), (1, vi x1), (2, vi x2), (3, vi x3), (4, vi x4), (6, vi x6)]) rfl (by decide) rfl ?_
      refine x_goto k212_199 (t := 149) rfl ?_
      refine x_ls (l := [(0, .ref 256), (1, vi x1), (2, vi x2), (3, vi x3), (4, vi x4), (5, vi (x5 + (-1)))]) (show ([0, 1, 2, 3, 4, 5] : List Nat).Nodup from by decide +kernel) ⟨rfl, rfl, rfl, rfl, rfl, rfl, trivial⟩ ?_
      exact ih_149 s x1 x2 x3 x4 (x5 + (-1)) hG f (by first | exact x_rb b_x1 rfl rfl | exact ⟨by omega, by omega⟩) (by first | exact x_rb b_x2 rfl rfl | exact ⟨by omega, by omega⟩) (by first | exact x_rb b_x3 rfl rfl | exact ⟨by omega, by omega⟩) (by first | exact x_rb b_x4 rfl rfl | exact ⟨by omega, by omega⟩) ⟨by omega, by omega⟩ (by omega)
    · skip
      refine x_A k212_166 (fun _ => rfl) ?_
      refine x_getR k212_167 (f := 57) rfl (q := 256) (n := 62) (kd := 15) ⟨by decide, rfl⟩ (q2 := 291) (by decide) rfl ?_
      refine x_A k212_170 (fun _ => rfl) ?_
      refine x_iald k212_172 (q := 291) (n := 40) ⟨by decide, rfl⟩ (by decide) (by first | exact x_rbl b_x6 rfl rfl | exact ⟨by omega, by omega⟩) ?_
      refine x_top (fun z1593 e_z1593 => ?_)
      have g_z1593 : (-2147483648) ≤ s 291 x6.toNat ∧ s 291 x6.toNat ≤ 2147483647 := hG 291 x6.toNat
      refine x_A k212_173 (fun _ => rfl) ?_
      refine x_ic_ne k212_175 (t := 190) rfl (by first | exact x_rbe e_z1593 g_z1593 rfl rfl | exact x_rb g_z1593 rfl rfl | exact ⟨by omega, by omega⟩) (by first | exact x_rb b_x5 rfl rfl | exact ⟨by omega, by omega⟩) (fun c1594 => ?_) (fun c1594 => ?_)
      · skip
        refine x_iinc k212_190 (ls' := [(6, vi (x6 + 1)), (0, .ref 256), (1, vi x1), (2, vi x2), (3, vi x3), (4, vi x4), (5, vi x5)]) rfl (by decide) rfl ?_
        refine x_goto k212_193 (t := 157) rfl ?_
        refine x_ls (l := [(0, .ref 256), (1, vi x1), (2, vi x2), (3, vi x3), (4, vi x4), (5, vi x5), (6, vi (x6 + 1))]) (show ([0, 1, 2, 3, 4, 5, 6] : List Nat).Nodup from by decide +kernel) ⟨rfl, rfl, rfl, rfl, rfl, rfl, rfl, trivial⟩ ?_
        exact ih s x1 x2 x3 x4 x5 (x6 + 1) hG f (by first | exact x_rb b_x1 rfl rfl | exact ⟨by omega, by omega⟩) (by first | exact x_rb b_x2 rfl rfl | exact ⟨by omega, by omega⟩) (by first | exact x_rb b_x3 rfl rfl | exact ⟨by omega, by omega⟩) (by first | exact x_rb b_x4 rfl rfl | exact ⟨by omega, by omega⟩) (by first | exact x_rb b_x5 rfl rfl | exact ⟨by omega, by omega⟩) ⟨by omega, by omega⟩ (by omega) (by omega) (by omega)
      · skip
        refine x_A k212_178 (fun _ => rfl) ?_
        refine x_A k212_180 (fun _ => rfl) ?_
        refine x_ic_ne k212_181 (t := 187) rfl (by first | exact x_rb b_x4 rfl rfl | exact ⟨by omega, by omega⟩) (by first | exact x_rb b_x3 rfl rfl | exact ⟨by omega, by omega⟩) (fun c1595 => ?_) (fun c1595 => ?_)
        · skip
          refine x_iinc k212_187 (ls' := [(4, vi (x4 + 1)), (0, .ref 256), (1, vi x1), (2, vi x2), (3, vi x3), (5, vi x5), (6, vi x6)]) rfl (by decide) rfl ?_
          obtain ⟨z1596, g_z1596, e_z1596⟩ := x_wrap (x4 + 1)
          unfold in32 at g_z1596
          rw [e_z1596]
          refine x_iinc k212_190 (ls' := [(6, vi (x6 + 1)), (4, vi z1596), (0, .ref 256), (1, vi x1), (2, vi x2), (3, vi x3), (5, vi x5)]) rfl (by decide) rfl ?_
          refine x_goto k212_193 (t := 157) rfl ?_
          refine x_ls (l := [(0, .ref 256), (1, vi x1), (2, vi x2), (3, vi x3), (4, vi z1596), (5, vi x5), (6, vi (x6 + 1))]) (show ([0, 1, 2, 3, 4, 5, 6] : List Nat).Nodup from by decide +kernel) ⟨rfl, rfl, rfl, rfl, rfl, rfl, rfl, trivial⟩ ?_
          exact ih s x1 x2 x3 z1596 x5 (x6 + 1) hG f (by first | exact x_rb b_x1 rfl rfl | exact ⟨by omega, by omega⟩) (by first | exact x_rb b_x2 rfl rfl | exact ⟨by omega, by omega⟩) (by first | exact x_rb b_x3 rfl rfl | exact ⟨by omega, by omega⟩) (by first | exact x_rbe e_z1596 g_z1596 rfl rfl | exact x_rb g_z1596 rfl rfl | exact ⟨by omega, by omega⟩) (by first | exact x_rb b_x5 rfl rfl | exact ⟨by omega, by omega⟩) ⟨by omega, by omega⟩ (by omega) (by omega) (by omega)
        · skip
          refine x_A k212_184 (fun _ => rfl) ?_
          exact x_iret k212_186 rfl ⟨hG, f, x6, rfl, (by first | exact x_rb b_x6 rfl rfl | exact ⟨by omega, by omega⟩)⟩
theorem L_C_X11_likely_256_149 (s0 : xS) (hJ0 : J s0)  : ∀ (n : Nat) (s : xS) (x1 : Int) (x2 : Int) (x3 : Int) (x4 : Int) (x5 : Int) (hG : GI s) (f : FL [5312, 5376, 4123, 5440, 5504, 5568, 5632, 5696, 5760, 4150, 4151, 4152, 4153, 6336] s0 s) (b_x1 : 0 ≤ x1 ∧ x1 ≤ 39) (b_x2 : 0 ≤ x2 ∧ x2 ≤ 9) (b_x3 : (-2147483648) ≤ x3 ∧ x3 ≤ 2147483647) (b_x4 : (-2147483648) ≤ x4 ∧ x4 ≤ 2147483647) (b_x5 : 0 ≤ x5 ∧ x5 ≤ 40)  (hm : (x5 - 0) < (n : Int)), xe none 212 149 [(0, .ref 256), (1, vi x1), (2, vi x2), (3, vi x3), (4, vi x4), (5, vi x5)] [] s 0 0 (fun s' v => GI s' ∧ FL [5312, 5376, 4123, 5440, 5504, 5568, 5632, 5696, 5760, 4150, 4151, 4152, 4153, 6336] s0 s' ∧ ∃ z, v = some (vi z) ∧ ((-2147483648) ≤ z ∧ z ≤ 2147483647)) := by
  intro n
  induction n with
  | zero => intro s x1 x2 x3 x4 x5 hG f b_x1 b_x2 b_x3 b_x4 b_x5  hm; exfalso; omega
  | succ n ih =>
    intro s x1 x2 x3 x4 x5 hG f b_x1 b_x2 b_x3 b_x4 b_x5  hm
    refine x_A k212_149 (fun _ => rfl) ?_
    refine x_if_le k212_151 (t := 202) rfl (by first | exact x_rb b_x5 rfl rfl | exact ⟨by omega, by omega⟩) (fun c1597 => ?_) (fun c1597 => ?_)
    · skip
      refine x_A k212_202 (fun _ => rfl) ?_
      refine x_A k212_203 (fun _ => rfl) ?_
      refine x_ic_ne k212_204 (t := 212) rfl (by first | exact x_rb b_x3 rfl rfl | exact ⟨by omega, by omega⟩) ⟨by decide, by decide⟩ (fun c1598 => ?_) (fun c1598 => ?_)
      · skip
        refine x_A k212_212 (fun _ => rfl) ?_
        exact x_iret k212_213 rfl ⟨hG, f, (-1), rfl, ⟨by decide, by decide⟩⟩
      · skip
        refine x_A k212_207 (fun _ => rfl) ?_
        refine x_goto k212_209 (t := 213) rfl ?_
        exact x_iret k212_213 rfl ⟨hG, f, x4, rfl, (by first | exact x_rb b_x4 rfl rfl | exact ⟨by omega, by omega⟩)⟩
    · skip
      refine x_A k212_154 (fun _ => rfl) ?_
      refine x_istore k212_155 (ls' := [(6, vi 0), (0, .ref 256), (1, vi x1), (2, vi x2), (3, vi x3), (4, vi x4), (5, vi x5)]) (by decide) rfl ?_
      refine x_ls (l := [(0, .ref 256), (1, vi x1), (2, vi x2), (3, vi x3), (4, vi x4), (5, vi x5), (6, vi 0)]) (show ([0, 1, 2, 3, 4, 5, 6] : List Nat).Nodup from by decide +kernel) ⟨rfl, rfl, rfl, rfl, rfl, rfl, rfl, trivial⟩ ?_
      exact L_C_X11_likely_256_157 s0 hJ0 n (fun s x1 x2 x3 x4 x5 hG f b_x1 b_x2 b_x3 b_x4 b_x5 hm => ih s x1 x2 x3 x4 x5 hG f b_x1 b_x2 b_x3 b_x4 b_x5  hm) (((40 - 0) + 1 : Int)).toNat s x1 x2 x3 x4 x5 0 hG f (by first | exact x_rb b_x1 rfl rfl | exact ⟨by omega, by omega⟩) (by first | exact x_rb b_x2 rfl rfl | exact ⟨by omega, by omega⟩) (by first | exact x_rb b_x3 rfl rfl | exact ⟨by omega, by omega⟩) (by first | exact x_rb b_x4 rfl rfl | exact ⟨by omega, by omega⟩) (by first | exact x_rb b_x5 rfl rfl | exact ⟨by omega, by omega⟩) ⟨by decide, by decide⟩ (by omega) (by omega) (by omega)
theorem L_C_X11_likely_256_80 (s0 : xS) (hJ0 : J s0) (n_58 : Nat) (ih_58 : ∀ (s : xS) (x1 : Int) (x2 : Int) (x3 : Int) (x4 : Int) (hG : GI s) (f : FL [5312, 5376, 4123, 5440, 5504, 5568, 5632, 5696, 5760, 4150, 4151, 4152, 4153, 6336] s0 s) (b_x1 : 0 ≤ x1 ∧ x1 ≤ 39) (b_x2 : 0 ≤ x2 ∧ x2 ≤ 9) (b_x3 : (-2147483648) ≤ x3 ∧ x3 ≤ 2147483647) (b_x4 : 0 ≤ x4 ∧ x4 ≤ 40) (hm : (40 - x4) < (n_58 : Int)), xe none 212 58 [(0, .ref 256), (1, vi x1), (2, vi x2), (3, vi x3), (4, vi x4)] [] s 0 0 (fun s' v => GI s' ∧ FL [5312, 5376, 4123, 5440, 5504, 5568, 5632, 5696, 5760, 4150, 4151, 4152, 4153, 6336] s0 s' ∧ ∃ z, v = some (vi z) ∧ ((-2147483648) ≤ z ∧ z ≤ 2147483647))) : ∀ (n : Nat) (s : xS) (x1 : Int) (x2 : Int) (x3 : Int) (x4 : Int) (x5 : Int) (x6 : Int) (hG : GI s) (f : FL [5312, 5376, 4123, 5440, 5504, 5568, 5632, 5696, 5760, 4150, 4151, 4152, 4153, 6336] s0 s) (b_x1 : 0 ≤ x1 ∧ x1 ≤ 39) (b_x2 : 0 ≤ x2 ∧ x2 ≤ 9) (b_x3 : (-2147483648) ≤ x3 ∧ x3 ≤ 2147483647) (b_x4 : 0 ≤ x4 ∧ x4 ≤ 39) (b_x5 : 0 ≤ x5 ∧ x5 ≤ 1) (b_x6 : 0 ≤ x6 ∧ x6 ≤ 40) (k_58 : (40 - x4) < (n_58 : Int) + 1) (hm : (40 - x6) < (n : Int)), xe none 212 80 [(0, .ref 256), (1, vi x1), (2, vi x2), (3, vi x3), (4, vi x4), (5, vi x5), (6, vi x6)] [] s 0 0 (fun s' v => GI s' ∧ FL [5312, 5376, 4123, 5440, 5504, 5568, 5632, 5696, 5760, 4150, 4151, 4152, 4153, 6336] s0 s' ∧ ∃ z, v = some (vi z) ∧ ((-2147483648) ≤ z ∧ z ≤ 2147483647)) := by
  intro n
  induction n with
  | zero => intro s x1 x2 x3 x4 x5 x6 hG f b_x1 b_x2 b_x3 b_x4 b_x5 b_x6 k_58 hm; exfalso; omega
  | succ n ih =>
    intro s x1 x2 x3 x4 x5 x6 hG f b_x1 b_x2 b_x3 b_x4 b_x5 b_x6 k_58 hm
    refine x_A k212_80 (fun _ => rfl) ?_
    refine x_A k212_82 (fun _ => rfl) ?_
    refine x_getI k212_83 (f := 6) rfl (q := 256) (n := 62) (kd := 15) ⟨by decide, rfl⟩ (by decide) rfl ?_
    refine x_top (fun z1599 e_z1599 => ?_)
    have g_z1599 : (0 : Int) ≤ s 256 6 ∧ s 256 6 ≤ 40 := hG 256 6
    refine x_ic_ge k212_86 (t := 136) rfl (by first | exact x_rb b_x6 rfl rfl | exact ⟨by omega, by omega⟩) (by first | exact x_rbe e_z1599 g_z1599 rfl rfl | exact x_rb g_z1599 rfl rfl | exact ⟨by omega, by omega⟩) (fun c1600 => ?_) (fun c1600 => ?_)
    · skip
      refine x_iinc k212_136 (ls' := [(4, vi (x4 + 1)), (0, .ref 256), (1, vi x1), (2, vi x2), (3, vi x3), (5, vi x5), (6, vi x6)]) rfl (by decide) rfl ?_
      refine x_goto k212_139 (t := 58) rfl ?_
      refine x_ls (l := [(0, .ref 256), (1, vi x1), (2, vi x2), (3, vi x3), (4, vi (x4 + 1))]) (show ([0, 1, 2, 3, 4] : List Nat).Nodup from by decide +kernel) ⟨rfl, rfl, rfl, rfl, rfl, trivial⟩ ?_
      exact ih_58 s x1 x2 x3 (x4 + 1) hG f (by first | exact x_rb b_x1 rfl rfl | exact ⟨by omega, by omega⟩) (by first | exact x_rb b_x2 rfl rfl | exact ⟨by omega, by omega⟩) (by first | exact x_rb b_x3 rfl rfl | exact ⟨by omega, by omega⟩) ⟨by omega, by omega⟩ (by omega)
    · skip
      refine x_A k212_89 (fun _ => rfl) ?_
      refine x_if_eq k212_91 (t := 136) rfl (by first | exact x_rb b_x5 rfl rfl | exact ⟨by omega, by omega⟩) (fun c1601 => ?_) (fun c1601 => ?_)
      · skip
        refine x_iinc k212_136 (ls' := [(4, vi (x4 + 1)), (0, .ref 256), (1, vi x1), (2, vi x2), (3, vi x3), (5, vi x5), (6, vi x6)]) rfl (by decide) rfl ?_
        refine x_goto k212_139 (t := 58) rfl ?_
        refine x_ls (l := [(0, .ref 256), (1, vi x1), (2, vi x2), (3, vi x3), (4, vi (x4 + 1))]) (show ([0, 1, 2, 3, 4] : List Nat).Nodup from by decide +kernel) ⟨rfl, rfl, rfl, rfl, rfl, trivial⟩ ?_
        exact ih_58 s x1 x2 x3 (x4 + 1) hG f (by first | exact x_rb b_x1 rfl rfl | exact ⟨by omega, by omega⟩) (by first | exact x_rb b_x2 rfl rfl | exact ⟨by omega, by omega⟩) (by first | exact x_rb b_x3 rfl rfl | exact ⟨by omega, by omega⟩) ⟨by omega, by omega⟩ (by omega)
      · skip
        refine x_A k212_94 (fun _ => rfl) ?_
        refine x_getR k212_95 (f := 57) rfl (q := 256) (n := 62) (kd := 15) ⟨by decide, rfl⟩ (q2 := 291) (by decide) rfl ?_
        refine x_A k212_98 (fun _ => rfl) ?_
        refine x_A k212_100 (fun _ => rfl) ?_
        refine x_iald k212_101 (q := 291) (n := 40) ⟨by decide, rfl⟩ (by decide) (by first | exact x_rbl b_x6 rfl rfl | exact ⟨by omega, by omega⟩) ?_
        refine x_top (fun z1602 e_z1602 => ?_)
        have g_z1602 : (-2147483648) ≤ s 291 x6.toNat ∧ s 291 x6.toNat ≤ 2147483647 := hG 291 x6.toNat
        refine x_A k212_102 (fun _ => rfl) ?_
        refine x_A k212_103 (fun _ => rfl) ?_
        refine x_A k212_105 (fun _ => rfl) ?_
        refine x_callV k212_106 (y := 169) (n := 2) (w0 := 3) (w1 := 2) (as := [vi x6, vi x1]) (rest := [vi z1602, vi x6, .ref 291]) (by decide +kernel) (q := 256) (nq := 62) (kq := 15) ⟨by decide, rfl⟩ rfl rfl rfl rfl (xe_mono (C_X11_shows_256 s hG x6 (by first | exact x_rb b_x6 rfl rfl | exact ⟨by omega, by omega⟩) x1 (by first | exact x_rb b_x1 rfl rfl | exact ⟨by omega, by omega⟩)) ?_)
        rintro s1604 v ⟨-, t_s1604, z1603, rfl, g_z1603⟩
        rw [t_s1604.nil]
        show xe none 212 109 [(0, .ref 256), (1, vi x1), (2, vi x2), (3, vi x3), (4, vi x4), (5, vi x5), (6, vi x6)] [vi z1603, vi z1602, vi x6, .ref 291] s 0 0 _
        refine x_if_ne k212_109 (t := 127) rfl (by first | exact x_rbe e_z1603 g_z1603 rfl rfl | exact x_rb g_z1603 rfl rfl | exact ⟨by omega, by omega⟩) (fun c1605 => ?_) (fun c1605 => ?_)
        · skip
          refine x_A k212_127 (fun _ => rfl) ?_
          refine x_iadd k212_128 ?_
          refine x_top (fun z1606 e_z1606 => ?_)
          refine x_iast k212_129 (q := 291) (n := 40) ⟨by decide, rfl⟩ (by decide) (by first | exact x_rbl b_x6 rfl rfl | exact ⟨by omega, by omega⟩) ?_
          refine x_nh (fun s1607 e_s1607 => ?_)
          have hG_s1607 : GI s1607 := by rw [e_s1607]; exact hG.up (show (-2147483648) ≤ z1606 ∧ z1606 ≤ 2147483647 from (by first | exact x_rbe e_z1606 g_z1606 rfl rfl | exact x_rb g_z1606 rfl rfl | exact ⟨by omega, by omega⟩))
          have f_s1607 : FL [5312, 5376, 4123, 5440, 5504, 5568, 5632, 5696, 5760, 4150, 4151, 4152, 4153, 6336] s0 s1607 := by rw [e_s1607]; exact f.up (show 6336 ∈ [5312, 5376, 4123, 5440, 5504, 5568, 5632, 5696, 5760, 4150, 4151, 4152, 4153, 6336] from by decide +kernel)
          have q1608 : s1607 256 6 = z1599 := by rw [e_s1607, x_up_q (by decide)]; exact e_z1599.symm
          have q1609 : s1607 291 x6.toNat = z1606 := by rw [e_s1607]; exact x_up_same
          refine x_iinc k212_130 (ls' := [(6, vi (x6 + 1)), (0, .ref 256), (1, vi x1), (2, vi x2), (3, vi x3), (4, vi x4), (5, vi x5)]) rfl (by decide) rfl ?_
          refine x_goto k212_133 (t := 80) rfl ?_
          refine x_ls (l := [(0, .ref 256), (1, vi x1), (2, vi x2), (3, vi x3), (4, vi x4), (5, vi x5), (6, vi (x6 + 1))]) (show ([0, 1, 2, 3, 4, 5, 6] : List Nat).Nodup from by decide +kernel) ⟨rfl, rfl, rfl, rfl, rfl, rfl, rfl, trivial⟩ ?_
          exact ih s1607 x1 x2 x3 x4 x5 (x6 + 1) hG_s1607 f_s1607 (by first | exact x_rb b_x1 rfl rfl | exact ⟨by omega, by omega⟩) (by first | exact x_rb b_x2 rfl rfl | exact ⟨by omega, by omega⟩) (by first | exact x_rb b_x3 rfl rfl | exact ⟨by omega, by omega⟩) (by first | exact x_rb b_x4 rfl rfl | exact ⟨by omega, by omega⟩) (by first | exact x_rb b_x5 rfl rfl | exact ⟨by omega, by omega⟩) ⟨by omega, by omega⟩ (by omega) (by omega)
        · skip
          refine x_A k212_112 (fun _ => rfl) ?_
          refine x_A k212_113 (fun _ => rfl) ?_
          refine x_A k212_115 (fun _ => rfl) ?_
          refine x_callV k212_117 (y := 169) (n := 2) (w0 := 3) (w1 := 2) (as := [vi x6, vi x4]) (rest := [vi z1602, vi x6, .ref 291]) (by decide +kernel) (q := 256) (nq := 62) (kq := 15) ⟨by decide, rfl⟩ rfl rfl rfl rfl (xe_mono (C_X11_shows_256 s hG x6 (by first | exact x_rb b_x6 rfl rfl | exact ⟨by omega, by omega⟩) x4 (by first | exact x_rb b_x4 rfl rfl | exact ⟨by omega, by omega⟩)) ?_)
          rintro s1611 v ⟨-, t_s1611, z1610, rfl, g_z1610⟩
          rw [t_s1611.nil]
          show xe none 212 120 [(0, .ref 256), (1, vi x1), (2, vi x2), (3, vi x3), (4, vi x4), (5, vi x5), (6, vi x6)] [vi z1610, vi z1602, vi x6, .ref 291] s 0 0 _
          refine x_if_eq k212_120 (t := 127) rfl (by first | exact x_rbe e_z1610 g_z1610 rfl rfl | exact x_rb g_z1610 rfl rfl | exact ⟨by omega, by omega⟩) (fun c1612 => ?_) (fun c1612 => ?_)
          · skip
            refine x_A k212_127 (fun _ => rfl) ?_
            refine x_iadd k212_128 ?_
            refine x_top (fun z1613 e_z1613 => ?_)
            refine x_iast k212_129 (q := 291) (n := 40) ⟨by decide, rfl⟩ (by decide) (by first | exact x_rbl b_x6 rfl rfl | exact ⟨by omega, by omega⟩) ?_
            refine x_nh (fun s1614 e_s1614 => ?_)
            have hG_s1614 : GI s1614 := by rw [e_s1614]; exact hG.up (show (-2147483648) ≤ z1613 ∧ z1613 ≤ 2147483647 from (by first | exact x_rbe e_z1613 g_z1613 rfl rfl | exact x_rb g_z1613 rfl rfl | exact ⟨by omega, by omega⟩))
            have f_s1614 : FL [5312, 5376, 4123, 5440, 5504, 5568, 5632, 5696, 5760, 4150, 4151, 4152, 4153, 6336] s0 s1614 := by rw [e_s1614]; exact f.up (show 6336 ∈ [5312, 5376, 4123, 5440, 5504, 5568, 5632, 5696, 5760, 4150, 4151, 4152, 4153, 6336] from by decide +kernel)
            have q1615 : s1614 256 6 = z1599 := by rw [e_s1614, x_up_q (by decide)]; exact e_z1599.symm
            have q1616 : s1614 291 x6.toNat = z1613 := by rw [e_s1614]; exact x_up_same
            refine x_iinc k212_130 (ls' := [(6, vi (x6 + 1)), (0, .ref 256), (1, vi x1), (2, vi x2), (3, vi x3), (4, vi x4), (5, vi x5)]) rfl (by decide) rfl ?_
            refine x_goto k212_133 (t := 80) rfl ?_
            refine x_ls (l := [(0, .ref 256), (1, vi x1), (2, vi x2), (3, vi x3), (4, vi x4), (5, vi x5), (6, vi (x6 + 1))]) (show ([0, 1, 2, 3, 4, 5, 6] : List Nat).Nodup from by decide +kernel) ⟨rfl, rfl, rfl, rfl, rfl, rfl, rfl, trivial⟩ ?_
            exact ih s1614 x1 x2 x3 x4 x5 (x6 + 1) hG_s1614 f_s1614 (by first | exact x_rb b_x1 rfl rfl | exact ⟨by omega, by omega⟩) (by first | exact x_rb b_x2 rfl rfl | exact ⟨by omega, by omega⟩) (by first | exact x_rb b_x3 rfl rfl | exact ⟨by omega, by omega⟩) (by first | exact x_rb b_x4 rfl rfl | exact ⟨by omega, by omega⟩) (by first | exact x_rb b_x5 rfl rfl | exact ⟨by omega, by omega⟩) ⟨by omega, by omega⟩ (by omega) (by omega)
          · skip
            refine x_A k212_123 (fun _ => rfl) ?_
            refine x_goto k212_124 (t := 128) rfl ?_
            refine x_iadd k212_128 ?_
            refine x_topW (fun z1617 g_z1617 => ?_)
            unfold in32 at g_z1617
            refine x_iast k212_129 (q := 291) (n := 40) ⟨by decide, rfl⟩ (by decide) (by first | exact x_rbl b_x6 rfl rfl | exact ⟨by omega, by omega⟩) ?_
            refine x_nh (fun s1618 e_s1618 => ?_)
            have hG_s1618 : GI s1618 := by rw [e_s1618]; exact hG.up (show (-2147483648) ≤ z1617 ∧ z1617 ≤ 2147483647 from (by first | exact x_rbe e_z1617 g_z1617 rfl rfl | exact x_rb g_z1617 rfl rfl | exact ⟨by omega, by omega⟩))
            have f_s1618 : FL [5312, 5376, 4123, 5440, 5504, 5568, 5632, 5696, 5760, 4150, 4151, 4152, 4153, 6336] s0 s1618 := by rw [e_s1618]; exact f.up (show 6336 ∈ [5312, 5376, 4123, 5440, 5504, 5568, 5632, 5696, 5760, 4150, 4151, 4152, 4153, 6336] from by decide +kernel)
            have q1619 : s1618 256 6 = z1599 := by rw [e_s1618, x_up_q (by decide)]; exact e_z1599.symm
            have q1620 : s1618 291 x6.toNat = z1617 := by rw [e_s1618]; exact x_up_same
            refine x_iinc k212_130 (ls' := [(6, vi (x6 + 1)), (0, .ref 256), (1, vi x1), (2, vi x2), (3, vi x3), (4, vi x4), (5, vi x5)]) rfl (by decide) rfl ?_
            refine x_goto k212_133 (t := 80) rfl ?_
            refine x_ls (l := [(0, .ref 256), (1, vi x1), (2, vi x2), (3, vi x3), (4, vi x4), (5, vi x5), (6, vi (x6 + 1))]) (show ([0, 1, 2, 3, 4, 5, 6] : List Nat).Nodup from by decide +kernel) ⟨rfl, rfl, rfl, rfl, rfl, rfl, rfl, trivial⟩ ?_
            exact ih s1618 x1 x2 x3 x4 x5 (x6 + 1) hG_s1618 f_s1618 (by first | exact x_rb b_x1 rfl rfl | exact ⟨by omega, by omega⟩) (by first | exact x_rb b_x2 rfl rfl | exact ⟨by omega, by omega⟩) (by first | exact x_rb b_x3 rfl rfl | exact ⟨by omega, by omega⟩) (by first | exact x_rb b_x4 rfl rfl | exact ⟨by omega, by omega⟩) (by first | exact x_rb b_x5 rfl rfl | exact ⟨by omega, by omega⟩) ⟨by omega, by omega⟩ (by omega) (by omega)
theorem L_C_X11_likely_256_58 (s0 : xS) (hJ0 : J s0)  : ∀ (n : Nat) (s : xS) (x1 : Int) (x2 : Int) (x3 : Int) (x4 : Int) (hG : GI s) (f : FL [5312, 5376, 4123, 5440, 5504, 5568, 5632, 5696, 5760, 4150, 4151, 4152, 4153, 6336] s0 s) (b_x1 : 0 ≤ x1 ∧ x1 ≤ 39) (b_x2 : 0 ≤ x2 ∧ x2 ≤ 9) (b_x3 : (-2147483648) ≤ x3 ∧ x3 ≤ 2147483647) (b_x4 : 0 ≤ x4 ∧ x4 ≤ 40)  (hm : (40 - x4) < (n : Int)), xe none 212 58 [(0, .ref 256), (1, vi x1), (2, vi x2), (3, vi x3), (4, vi x4)] [] s 0 0 (fun s' v => GI s' ∧ FL [5312, 5376, 4123, 5440, 5504, 5568, 5632, 5696, 5760, 4150, 4151, 4152, 4153, 6336] s0 s' ∧ ∃ z, v = some (vi z) ∧ ((-2147483648) ≤ z ∧ z ≤ 2147483647)) := by
  intro n
  induction n with
  | zero => intro s x1 x2 x3 x4 hG f b_x1 b_x2 b_x3 b_x4  hm; exfalso; omega
  | succ n ih =>
    intro s x1 x2 x3 x4 hG f b_x1 b_x2 b_x3 b_x4  hm
    refine x_A k212_58 (fun _ => rfl) ?_
    refine x_A k212_60 (fun _ => rfl) ?_
    refine x_getI k212_61 (f := 1) rfl (q := 256) (n := 62) (kd := 15) ⟨by decide, rfl⟩ (by decide) rfl ?_
    refine x_top (fun z1621 e_z1621 => ?_)
    have g_z1621 : (1 : Int) ≤ s 256 1 ∧ s 256 1 ≤ 40 := hG 256 1
    refine x_ic_ge k212_64 (t := 142) rfl (by first | exact x_rb b_x4 rfl rfl | exact ⟨by omega, by omega⟩) (by first | exact x_rbe e_z1621 g_z1621 rfl rfl | exact x_rb g_z1621 rfl rfl | exact ⟨by omega, by omega⟩) (fun c1622 => ?_) (fun c1622 => ?_)
    · skip
      refine x_A k212_142 (fun _ => rfl) ?_
      refine x_istore k212_143 (ls' := [(4, vi 0), (0, .ref 256), (1, vi x1), (2, vi x2), (3, vi x3)]) (by decide) rfl ?_
      refine x_bipush k212_145 (by decide +kernel) ?_
      refine x_istore k212_147 (ls' := [(5, vi 40), (4, vi 0), (0, .ref 256), (1, vi x1), (2, vi x2), (3, vi x3)]) (by decide) rfl ?_
      refine x_ls (l := [(0, .ref 256), (1, vi x1), (2, vi x2), (3, vi x3), (4, vi 0), (5, vi 40)]) (show ([0, 1, 2, 3, 4, 5] : List Nat).Nodup from by decide +kernel) ⟨rfl, rfl, rfl, rfl, rfl, rfl, trivial⟩ ?_
      exact L_C_X11_likely_256_149 s0 hJ0  (((40 - 0) + 1 : Int)).toNat s x1 x2 x3 0 40 hG f (by first | exact x_rb b_x1 rfl rfl | exact ⟨by omega, by omega⟩) (by first | exact x_rb b_x2 rfl rfl | exact ⟨by omega, by omega⟩) (by first | exact x_rb b_x3 rfl rfl | exact ⟨by omega, by omega⟩) ⟨by decide, by decide⟩ ⟨by decide, by decide⟩  (by omega)
    · skip
      refine x_A k212_67 (fun _ => rfl) ?_
      refine x_A k212_68 (fun _ => rfl) ?_
      refine x_A k212_69 (fun _ => rfl) ?_
      refine x_A k212_71 (fun _ => rfl) ?_
      refine x_callV k212_72 (y := 210) (n := 3) (w0 := 0) (w1 := 3) (as := [vi x1, vi x4, vi x2]) (rest := []) (by decide +kernel) (q := 256) (nq := 62) (kq := 15) ⟨by decide, rfl⟩ rfl rfl rfl rfl (xe_mono (C_X11_goesAlong_256 s hG (hJ0.fl f (by decide +kernel)) x1 (by first | exact x_rb b_x1 rfl rfl | exact ⟨by omega, by omega⟩) x4 (by first | exact x_rb b_x4 rfl rfl | exact ⟨by omega, by omega⟩) x2 (by first | exact x_rb b_x2 rfl rfl | exact ⟨by omega, by omega⟩)) ?_)
      rintro s1624 v ⟨hG_s1624, t_s1624, z1623, rfl, g_z1623⟩
      have f_s1624 : FL [5312, 5376, 4123, 5440, 5504, 5568, 5632, 5696, 5760, 4150, 4151, 4152, 4153, 6336] s0 s1624 := f.tr t_s1624 (by decide +kernel)
      have q1625 : s1624 256 1 = z1621 := (t_s1624 256 1 (show 4098 ∉ [4150, 4151, 4152, 4153] from by decide +kernel)).trans e_z1621.symm
      show xe none 212 75 [(0, .ref 256), (1, vi x1), (2, vi x2), (3, vi x3), (4, vi x4)] [vi z1623] s1624 0 0 _
      refine x_istore k212_75 (ls' := [(5, vi z1623), (0, .ref 256), (1, vi x1), (2, vi x2), (3, vi x3), (4, vi x4)]) (by decide) rfl ?_
      refine x_A k212_77 (fun _ => rfl) ?_
      refine x_istore k212_78 (ls' := [(6, vi 0), (5, vi z1623), (0, .ref 256), (1, vi x1), (2, vi x2), (3, vi x3), (4, vi x4)]) (by decide) rfl ?_
      refine x_ls (l := [(0, .ref 256), (1, vi x1), (2, vi x2), (3, vi x3), (4, vi x4), (5, vi z1623), (6, vi 0)]) (show ([0, 1, 2, 3, 4, 5, 6] : List Nat).Nodup from by decide +kernel) ⟨rfl, rfl, rfl, rfl, rfl, rfl, rfl, trivial⟩ ?_
      exact L_C_X11_likely_256_80 s0 hJ0 n (fun s x1 x2 x3 x4 hG f b_x1 b_x2 b_x3 b_x4 hm => ih s x1 x2 x3 x4 hG f b_x1 b_x2 b_x3 b_x4  hm) (((40 - 0) + 1 : Int)).toNat s1624 x1 x2 x3 x4 z1623 0 hG_s1624 f_s1624 (by first | exact x_rb b_x1 rfl rfl | exact ⟨by omega, by omega⟩) (by first | exact x_rb b_x2 rfl rfl | exact ⟨by omega, by omega⟩) (by first | exact x_rb b_x3 rfl rfl | exact ⟨by omega, by omega⟩) (by first | exact x_rb b_x4 rfl rfl | exact ⟨by omega, by omega⟩) (by first | exact x_rbe e_z1623 g_z1623 rfl rfl | exact x_rb g_z1623 rfl rfl | exact ⟨by omega, by omega⟩) ⟨by decide, by decide⟩ (by omega) (by omega)
theorem L_C_X11_likely_256_32 (s0 : xS) (hJ0 : J s0)  : ∀ (n : Nat) (s : xS) (x1 : Int) (x2 : Int) (x3 : Int) (x4 : Int) (hG : GI s) (f : FL [5312, 5376, 4123, 5440, 5504, 5568, 5632, 5696, 5760, 4150, 4151, 4152, 4153, 6336] s0 s) (b_x1 : 0 ≤ x1 ∧ x1 ≤ 39) (b_x2 : 0 ≤ x2 ∧ x2 ≤ 9) (b_x3 : (-2147483648) ≤ x3 ∧ x3 ≤ 2147483647) (b_x4 : 0 ≤ x4 ∧ x4 ≤ 40)  (hm : (40 - x4) < (n : Int)), xe none 212 32 [(0, .ref 256), (1, vi x1), (2, vi x2), (3, vi x3), (4, vi x4)] [] s 0 0 (fun s' v => GI s' ∧ FL [5312, 5376, 4123, 5440, 5504, 5568, 5632, 5696, 5760, 4150, 4151, 4152, 4153, 6336] s0 s' ∧ ∃ z, v = some (vi z) ∧ ((-2147483648) ≤ z ∧ z ≤ 2147483647)) := by
  intro n
  induction n with
  | zero => intro s x1 x2 x3 x4 hG f b_x1 b_x2 b_x3 b_x4  hm; exfalso; omega
  | succ n ih =>
    intro s x1 x2 x3 x4 hG f b_x1 b_x2 b_x3 b_x4  hm
    refine x_A k212_32 (fun _ => rfl) ?_
    refine x_A k212_34 (fun _ => rfl) ?_
    refine x_getI k212_35 (f := 6) rfl (q := 256) (n := 62) (kd := 15) ⟨by decide, rfl⟩ (by decide) rfl ?_
    refine x_top (fun z1626 e_z1626 => ?_)
    have g_z1626 : (0 : Int) ≤ s 256 6 ∧ s 256 6 ≤ 40 := hG 256 6
    refine x_ic_ge k212_38 (t := 55) rfl (by first | exact x_rb b_x4 rfl rfl | exact ⟨by omega, by omega⟩) (by first | exact x_rbe e_z1626 g_z1626 rfl rfl | exact x_rb g_z1626 rfl rfl | exact ⟨by omega, by omega⟩) (fun c1627 => ?_) (fun c1627 => ?_)
    · skip
      refine x_A k212_55 (fun _ => rfl) ?_
      refine x_istore k212_56 (ls' := [(4, vi 0), (0, .ref 256), (1, vi x1), (2, vi x2), (3, vi x3)]) (by decide) rfl ?_
      refine x_ls (l := [(0, .ref 256), (1, vi x1), (2, vi x2), (3, vi x3), (4, vi 0)]) (show ([0, 1, 2, 3, 4] : List Nat).Nodup from by decide +kernel) ⟨rfl, rfl, rfl, rfl, rfl, trivial⟩ ?_
      exact L_C_X11_likely_256_58 s0 hJ0  (((40 - 0) + 1 : Int)).toNat s x1 x2 x3 0 hG f (by first | exact x_rb b_x1 rfl rfl | exact ⟨by omega, by omega⟩) (by first | exact x_rb b_x2 rfl rfl | exact ⟨by omega, by omega⟩) (by first | exact x_rb b_x3 rfl rfl | exact ⟨by omega, by omega⟩) ⟨by decide, by decide⟩  (by omega)
    · skip
      refine x_A k212_41 (fun _ => rfl) ?_
      refine x_getR k212_42 (f := 57) rfl (q := 256) (n := 62) (kd := 15) ⟨by decide, rfl⟩ (q2 := 291) (by decide) rfl ?_
      refine x_A k212_45 (fun _ => rfl) ?_
      refine x_A k212_47 (fun _ => rfl) ?_
      refine x_iast k212_48 (q := 291) (n := 40) ⟨by decide, rfl⟩ (by decide) (by first | exact x_rbl b_x4 rfl rfl | exact ⟨by omega, by omega⟩) ?_
      refine x_nh (fun s1628 e_s1628 => ?_)
      have hG_s1628 : GI s1628 := by rw [e_s1628]; exact hG.up (show (-2147483648) ≤ 0 ∧ 0 ≤ 2147483647 from ⟨by decide, by decide⟩)
      have f_s1628 : FL [5312, 5376, 4123, 5440, 5504, 5568, 5632, 5696, 5760, 4150, 4151, 4152, 4153, 6336] s0 s1628 := by rw [e_s1628]; exact f.up (show 6336 ∈ [5312, 5376, 4123, 5440, 5504, 5568, 5632, 5696, 5760, 4150, 4151, 4152, 4153, 6336] from by decide +kernel)
      have q1629 : s1628 256 6 = z1626 := by rw [e_s1628, x_up_q (by decide)]; exact e_z1626.symm
      have q1630 : s1628 291 x4.toNat = 0 := by rw [e_s1628]; exact x_up_same
      refine x_iinc k212_49 (ls' := [(4, vi (x4 + 1)), (0, .ref 256), (1, vi x1), (2, vi x2), (3, vi x3)]) rfl (by decide) rfl ?_
      refine x_goto k212_52 (t := 32) rfl ?_
      refine x_ls (l := [(0, .ref 256), (1, vi x1), (2, vi x2), (3, vi x3), (4, vi (x4 + 1))]) (show ([0, 1, 2, 3, 4] : List Nat).Nodup from by decide +kernel) ⟨rfl, rfl, rfl, rfl, rfl, trivial⟩ ?_
      exact ih s1628 x1 x2 x3 (x4 + 1) hG_s1628 f_s1628 (by first | exact x_rb b_x1 rfl rfl | exact ⟨by omega, by omega⟩) (by first | exact x_rb b_x2 rfl rfl | exact ⟨by omega, by omega⟩) (by first | exact x_rb b_x3 rfl rfl | exact ⟨by omega, by omega⟩) ⟨by omega, by omega⟩  (by omega)
theorem C_X11_likely_256 (s0 : xS) (hG0 : GI s0) (hJ0 : J s0) (a : Int) (b_a : (-2147483648) ≤ a ∧ a ≤ 2147483647) (b : Int) (b_b : (-2147483648) ≤ b ∧ b ≤ 2147483647) (d : Int) (b_d : (-2147483648) ≤ d ∧ d ≤ 2147483647) : xe none 212 0 (lv_args 0 [.ref 256, vi a, vi b, vi d]) [] s0 0 0 (fun s' v => GI s' ∧ FL [5312, 5376, 4123, 5440, 5504, 5568, 5632, 5696, 5760, 4150, 4151, 4152, 4153, 6336] s0 s' ∧ ∃ z, v = some (vi z) ∧ ((-2147483648) ≤ z ∧ z ≤ 2147483647)) := by
  have f0 : FL [5312, 5376, 4123, 5440, 5504, 5568, 5632, 5696, 5760, 4150, 4151, 4152, 4153, 6336] s0 s0 := FL.rf
  show xe none 212 0 [(0, .ref 256), (1, vi a), (2, vi b), (3, vi d)] [] s0 0 0 _
  refine x_A k212_0 (fun _ => rfl) ?_
  refine x_A k212_1 (fun _ => rfl) ?_
  obtain ⟨z1631, e_z1631⟩ : ∃ z, z = s0 256 1 := ⟨_, rfl⟩
  have g_z1631 : (1 : Int) ≤ s0 256 1 ∧ s0 256 1 ≤ 40 := hG0 256 1
  refine x_callV k212_2 (y := 137) (n := 1) (w0 := 0) (w1 := 1) (as := [vi a]) (rest := []) (by decide +kernel) (q := 256) (nq := 62) (kq := 15) ⟨by decide, rfl⟩ rfl rfl rfl rfl (xe_mono (C_X11_isMark_256 s0 hG0 a (by first | exact x_rb b_a rfl rfl | exact ⟨by omega, by omega⟩)) ?_)
  rintro s1633 v ⟨h_s1633, z1632, rfl, hz_z1632⟩
  rw [h_s1633]
  rcases hz_z1632 with ⟨c_z1632, e_z1632⟩ | ⟨c_z1632, e_z1632⟩
  · rw [e_z1632]
    show xe none 212 5 [(0, .ref 256), (1, vi a), (2, vi b), (3, vi d)] [vi 1] s0 0 0 _
    refine x_if_ne k212_5 (t := 12) rfl ⟨by decide, by decide⟩ (fun c1634 => ?_) (fun c1634 => by exfalso; omega)
    refine x_A k212_12 (fun _ => rfl) ?_
    refine x_A k212_13 (fun _ => rfl) ?_
    obtain ⟨z1635, e_z1635⟩ : ∃ z, z = s0 256 0 := ⟨_, rfl⟩
    have g_z1635 : (0 : Int) ≤ s0 256 0 ∧ s0 256 0 ≤ 9 := hG0 256 0
    refine x_callV k212_14 (y := 138) (n := 1) (w0 := 0) (w1 := 1) (as := [vi b]) (rest := []) (by decide +kernel) (q := 256) (nq := 62) (kq := 15) ⟨by decide, rfl⟩ rfl rfl rfl rfl (xe_mono (C_X11_isEdition_256 s0 hG0 b (by first | exact x_rb b_b rfl rfl | exact ⟨by omega, by omega⟩)) ?_)
    rintro s1637 v ⟨h_s1637, z1636, rfl, hz_z1636⟩
    rw [h_s1637]
    rcases hz_z1636 with ⟨c_z1636, e_z1636⟩ | ⟨c_z1636, e_z1636⟩
    · rw [e_z1636]
      show xe none 212 17 [(0, .ref 256), (1, vi a), (2, vi b), (3, vi d)] [vi 1] s0 0 0 _
      refine x_if_ne k212_17 (t := 24) rfl ⟨by decide, by decide⟩ (fun c1638 => ?_) (fun c1638 => by exfalso; omega)
      refine x_A k212_24 (fun _ => rfl) ?_
      refine x_A k212_25 (fun _ => rfl) ?_
      refine x_callV k212_26 (y := 168) (n := 1) (w0 := 0) (w1 := 1) (as := [vi b]) (rest := []) (by decide +kernel) (q := 256) (nq := 62) (kq := 15) ⟨by decide, rfl⟩ rfl rfl rfl rfl (xe_mono (C_X11_find_256 s0 hG0 (hJ0.fl f0 (by decide +kernel)) b (by first | exact x_rb b_b rfl rfl | exact ⟨by omega, by omega⟩)) ?_)
      rintro s1640 v ⟨hG_s1640, t_s1640, rfl⟩
      have f_s1640 : FL [5312, 5376, 4123, 5440, 5504, 5568, 5632, 5696, 5760, 4150, 4151, 4152, 4153, 6336] s0 s1640 := f0.tr t_s1640 (by decide +kernel)
      have q1641 : s1640 256 1 = z1631 := (t_s1640 256 1 (show 4098 ∉ [5312, 5376, 4123, 5440, 5504, 5568, 5632, 5696, 5760] from by decide +kernel)).trans e_z1631.symm
      have q1642 : s1640 256 0 = z1635 := (t_s1640 256 0 (show 4097 ∉ [5312, 5376, 4123, 5440, 5504, 5568, 5632, 5696, 5760] from by decide +kernel)).trans e_z1635.symm
      show xe none 212 29 [(0, .ref 256), (1, vi a), (2, vi b), (3, vi d)] [] s1640 0 0 _
      refine x_A k212_29 (fun _ => rfl) ?_
      refine x_istore k212_30 (ls' := [(4, vi 0), (0, .ref 256), (1, vi a), (2, vi b), (3, vi d)]) (by decide) rfl ?_
      refine x_ls (l := [(0, .ref 256), (1, vi a), (2, vi b), (3, vi d), (4, vi 0)]) (show ([0, 1, 2, 3, 4] : List Nat).Nodup from by decide +kernel) ⟨rfl, rfl, rfl, rfl, rfl, trivial⟩ ?_
      exact L_C_X11_likely_256_32 s0 hJ0  (((40 - 0) + 1 : Int)).toNat s1640 a b d 0 hG_s1640 f_s1640 (by first | exact x_rb b_a rfl rfl | exact ⟨by omega, by omega⟩) (by first | exact x_rb b_b rfl rfl | exact ⟨by omega, by omega⟩) (by first | exact x_rb b_d rfl rfl | exact ⟨by omega, by omega⟩) ⟨by decide, by decide⟩  (by omega)
    · rw [e_z1636]
      show xe none 212 17 [(0, .ref 256), (1, vi a), (2, vi b), (3, vi d)] [vi 0] s0 0 0 _
      refine x_if_ne k212_17 (t := 24) rfl ⟨by decide, by decide⟩ (fun c1643 => by exfalso; omega) (fun c1643 => ?_)
      refine x_sipush k212_20 (by decide +kernel) ?_
      exact x_iret k212_23 rfl ⟨hG0, f0, (-1002), rfl, ⟨by decide, by decide⟩⟩
  · rw [e_z1632]
    show xe none 212 5 [(0, .ref 256), (1, vi a), (2, vi b), (3, vi d)] [vi 0] s0 0 0 _
    refine x_if_ne k212_5 (t := 12) rfl ⟨by decide, by decide⟩ (fun c1644 => by exfalso; omega) (fun c1644 => ?_)
    refine x_sipush k212_8 (by decide +kernel) ?_
    exact x_iret k212_11 rfl ⟨hG0, f0, (-1001), rfl, ⟨by decide, by decide⟩⟩
theorem L_C_X11_firstOf_256_2 (s0 : xS) (hJ0 : J s0) (a : Int) (b_a : 0 ≤ a ∧ a ≤ 39) (pa : 0 < s0 256 6)  : ∀ (n : Nat) (s : xS) (x1 : Int) (x2 : Int) (hG : GI s) (f : FL [] s0 s) (b_x1 : 0 ≤ x1 ∧ x1 ≤ 39) (b_x2 : 0 ≤ x2 ∧ x2 ≤ 39)  (hm : x2 < (n : Int)), xe none 213 2 [(0, .ref 256), (1, vi x1), (2, vi x2)] [] s 0 0 (fun s' v => GI s' ∧ FL [] s0 s' ∧ ∃ z, v = some (vi z) ∧ (0 ≤ z ∧ z ≤ 39)) := by
  intro n
  induction n with
  | zero => intro s x1 x2 hG f b_x1 b_x2  hm; exfalso; omega
  | succ n ih =>
    intro s x1 x2 hG f b_x1 b_x2  hm
    refine x_A k213_2 (fun _ => rfl) ?_
    refine x_getR k213_3 (f := 9) rfl (q := 256) (n := 62) (kd := 15) ⟨by decide, rfl⟩ (q2 := 263) (by decide) rfl ?_
    refine x_A k213_6 (fun _ => rfl) ?_
    refine x_iald k213_7 (q := 263) (n := 40) ⟨by decide, rfl⟩ (by decide) (by first | exact x_rbl b_x2 rfl rfl | exact ⟨by omega, by omega⟩) ?_
    refine x_top (fun z7 e_z7 => ?_)
    have g_z7 : (-1) ≤ s 263 x2.toNat ∧ s 263 x2.toNat ≤ 39 := hG 263 x2.toNat
    refine x_if_lt k213_8 (t := 21) rfl (by first | exact x_rbe e_z7 g_z7 rfl rfl | exact x_rb g_z7 rfl rfl | exact ⟨by omega, by omega⟩) (fun c8 => ?_) (fun c8 => ?_)
    · skip
      refine x_A k213_21 (fun _ => rfl) ?_
      exact x_iret k213_22 rfl ⟨hG, f, x2, rfl, (by first | exact x_rb b_x2 rfl rfl | exact ⟨by omega, by omega⟩)⟩
    · skip
      refine x_A k213_11 (fun _ => rfl) ?_
      refine x_getR k213_12 (f := 9) rfl (q := 256) (n := 62) (kd := 15) ⟨by decide, rfl⟩ (q2 := 263) (by decide) rfl ?_
      refine x_A k213_15 (fun _ => rfl) ?_
      refine x_iald k213_16 (q := 263) (n := 40) ⟨by decide, rfl⟩ (by decide) (by first | exact x_rbl b_x2 rfl rfl | exact ⟨by omega, by omega⟩) ?_
      rw [e_z7.symm]
      have ck_z7 := (hJ0.fl f (by decide +kernel)).ck x2 ⟨by omega, by omega⟩ (by rw [f 256 6 (show 4103 ∉ [] from by decide +kernel)]; exact pa)
      rw [e_z7.symm] at ck_z7
      refine x_istore_n k213_17 (ls' := [(2, vi z7), (0, .ref 256), (1, vi x1)]) (by decide) rfl ?_
      refine x_goto k213_18 (t := 2) rfl ?_
      refine x_ls (l := [(0, .ref 256), (1, vi x1), (2, vi z7)]) (show ([0, 1, 2] : List Nat).Nodup from by decide +kernel) ⟨rfl, rfl, rfl, trivial⟩ ?_
      exact ih s x1 z7 hG f (by first | exact x_rb b_x1 rfl rfl | exact ⟨by omega, by omega⟩) (by first | exact x_rbe e_z7 g_z7 rfl rfl | exact x_rb g_z7 rfl rfl | exact ⟨by omega, by omega⟩)  (by omega)
theorem C_X11_firstOf_256 (s0 : xS) (hG0 : GI s0) (hJ0 : J s0) (a : Int) (b_a : 0 ≤ a ∧ a ≤ 39) (pa : 0 < s0 256 6) : xe none 213 0 (lv_args 0 [.ref 256, vi a]) [] s0 0 0 (fun s' v => GI s' ∧ FL [] s0 s' ∧ ∃ z, v = some (vi z) ∧ (0 ≤ z ∧ z ≤ 39)) := by
  have f0 : FL [] s0 s0 := FL.rf
  show xe none 213 0 [(0, .ref 256), (1, vi a)] [] s0 0 0 _
  refine x_A k213_0 (fun _ => rfl) ?_
  refine x_istore_n k213_1 (ls' := [(2, vi a), (0, .ref 256), (1, vi a)]) (by decide) rfl ?_
  refine x_ls (l := [(0, .ref 256), (1, vi a), (2, vi a)]) (show ([0, 1, 2] : List Nat).Nodup from by decide +kernel) ⟨rfl, rfl, rfl, trivial⟩ ?_
  exact L_C_X11_firstOf_256_2 s0 hJ0 a b_a pa  ((a + 1 : Int)).toNat s0 a a hG0 f0 (by first | exact x_rb b_a rfl rfl | exact ⟨by omega, by omega⟩) (by first | exact x_rb b_a rfl rfl | exact ⟨by omega, by omega⟩)  (by omega)
theorem L_C_X11_lacking_256_34 (s0 : xS) (hJ0 : J s0)  : ∀ (n : Nat) (s : xS) (x1 : Int) (x2 : Int) (x3 : Int) (x5 : Int) (x1000 : Int) (hG : GI s) (f : FL [5312, 5376, 4123, 5440, 5504, 5568, 5632, 5696, 5760] s0 s) (b_x1 : 0 ≤ x1 ∧ x1 ≤ 39) (b_x2 : 0 ≤ x2 ∧ x2 ≤ 9) (b_x3 : in64 x3) (b_x5 : 0 ≤ x5 ∧ x5 ≤ 120) (b_x1000 : 1 ≤ x1000 ∧ x1000 ≤ 40) (r_1_1000 : x1 ≤ x1000 + 0) (w_0 : x1 < x1000) (e_x1000 : x1000 = s 256 6)  (hm : (120 - x5) < (n : Int)), xe none 214 34 [(0, .ref 256), (1, vi x1), (2, vi x2), (3, vj x3), (5, vi x5)] [] s 0 0 (fun s' v => GI s' ∧ FL [5312, 5376, 4123, 5440, 5504, 5568, 5632, 5696, 5760] s0 s' ∧ ∃ z, v = some (vj z) ∧ in64 z) := by
  intro n
  induction n with
  | zero => intro s x1 x2 x3 x5 x1000 hG f b_x1 b_x2 b_x3 b_x5 b_x1000 r_1_1000 w_0 e_x1000  hm; exfalso; omega
  | succ n ih =>
    intro s x1 x2 x3 x5 x1000 hG f b_x1 b_x2 b_x3 b_x5 b_x1000 r_1_1000 w_0 e_x1000  hm
    refine x_A k214_34 (fun _ => rfl) ?_
    refine x_A k214_36 (fun _ => rfl) ?_
    refine x_getI k214_37 (f := 10) rfl (q := 256) (n := 62) (kd := 15) ⟨by decide, rfl⟩ (by decide) rfl ?_
    refine x_top (fun z747 e_z747 => ?_)
    have g_z747 : (0 : Int) ≤ s 256 10 ∧ s 256 10 ≤ 120 := hG 256 10
    refine x_ic_ge k214_40 (t := 132) rfl (by first | exact x_rb b_x5 rfl rfl | exact ⟨by omega, by omega⟩) (by first | exact x_rbe e_z747 g_z747 rfl rfl | exact x_rb g_z747 rfl rfl | exact ⟨by omega, by omega⟩) (fun c748 => ?_) (fun c748 => ?_)
    · skip
      refine x_A k214_132 (fun _ => rfl) ?_
      exact x_lret k214_133 rfl ⟨hG, f, x3, rfl, b_x3⟩
    · skip
      refine x_A k214_43 (fun _ => rfl) ?_
      refine x_getR k214_44 (f := 11) rfl (q := 256) (n := 62) (kd := 15) ⟨by decide, rfl⟩ (q2 := 264) (by decide) rfl ?_
      refine x_A k214_47 (fun _ => rfl) ?_
      refine x_iald k214_49 (q := 264) (n := 120) ⟨by decide, rfl⟩ (by decide) (by first | exact x_rbl b_x5 rfl rfl | exact ⟨by omega, by omega⟩) ?_
      refine x_top (fun z749 e_z749 => ?_)
      have g_z749 : (0 : Int) ≤ s 264 x5.toNat ∧ s 264 x5.toNat ≤ 39 := hG 264 x5.toNat
      refine x_A k214_50 (fun _ => rfl) ?_
      refine x_ic_eq k214_51 (t := 87) rfl (by first | exact x_rbe e_z749 g_z749 rfl rfl | exact x_rb g_z749 rfl rfl | exact ⟨by omega, by omega⟩) (by first | exact x_rb b_x1 rfl rfl | exact ⟨by omega, by omega⟩) (fun c750 => ?_) (fun c750 => ?_)
      · skip
        refine x_A k214_87 (fun _ => rfl) ?_
        refine x_istore k214_88 (ls' := [(6, vi 0), (0, .ref 256), (1, vi x1), (2, vi x2), (3, vj x3), (5, vi x5)]) (by decide) rfl ?_
        refine x_A k214_90 (fun _ => rfl) ?_
        refine x_A k214_91 (fun _ => rfl) ?_
        refine x_if_eq k214_93 (t := 123) rfl ⟨by decide, by decide⟩ (fun c751 => ?_) (fun c751 => by exfalso; omega)
        refine x_lconst k214_123 (z := 0) (by decide +kernel) ?_
        refine x_lor_any k214_124 (fun z752 b_z752 => ?_)
        refine x_lstore_n k214_125 (ls' := [(3, vj z752), (6, vi 0), (0, .ref 256), (1, vi x1), (2, vi x2), (5, vi x5)]) (by decide) rfl ?_
        refine x_iinc k214_126 (ls' := [(5, vi (x5 + 1)), (3, vj z752), (6, vi 0), (0, .ref 256), (1, vi x1), (2, vi x2)]) rfl (by decide) rfl ?_
        refine x_goto k214_129 (t := 34) rfl ?_
        refine x_ls (l := [(0, .ref 256), (1, vi x1), (2, vi x2), (3, vj z752), (5, vi (x5 + 1))]) (show ([0, 1, 2, 3, 5] : List Nat).Nodup from by decide +kernel) ⟨rfl, rfl, rfl, rfl, rfl, trivial⟩ ?_
        exact ih s x1 x2 z752 (x5 + 1) x1000 hG f (by first | exact x_rb b_x1 rfl rfl | exact ⟨by omega, by omega⟩) (by first | exact x_rb b_x2 rfl rfl | exact ⟨by omega, by omega⟩) b_z752 ⟨by omega, by omega⟩ (by first | exact x_rb b_x1000 rfl rfl | exact ⟨by omega, by omega⟩) (by omega) (by omega) (e_x1000.symm).symm  (by omega)
      · skip
        refine x_A k214_54 (fun _ => rfl) ?_
        refine x_A k214_55 (fun _ => rfl) ?_
        refine x_getR k214_56 (f := 11) rfl (q := 256) (n := 62) (kd := 15) ⟨by decide, rfl⟩ (q2 := 264) (by decide) rfl ?_
        refine x_A k214_59 (fun _ => rfl) ?_
        refine x_iald k214_61 (q := 264) (n := 120) ⟨by decide, rfl⟩ (by decide) (by first | exact x_rbl b_x5 rfl rfl | exact ⟨by omega, by omega⟩) ?_
        rw [e_z749.symm]
        refine x_callV k214_62 (y := 213) (n := 1) (w0 := 0) (w1 := 1) (as := [vi z749]) (rest := []) (by decide +kernel) (q := 256) (nq := 62) (kq := 15) ⟨by decide, rfl⟩ rfl rfl rfl rfl (xe_mono (C_X11_firstOf_256 s hG (hJ0.fl f (by decide +kernel)) z749 (by first | exact x_rbe e_z749 g_z749 rfl rfl | exact x_rb g_z749 rfl rfl | exact ⟨by omega, by omega⟩) (by omega)) ?_)
        rintro s754 v ⟨-, t_s754, z753, rfl, g_z753⟩
        rw [t_s754.nil]
        show xe none 214 65 [(0, .ref 256), (1, vi x1), (2, vi x2), (3, vj x3), (5, vi x5)] [vi z753] s 0 0 _
        refine x_A k214_65 (fun _ => rfl) ?_
        refine x_A k214_66 (fun _ => rfl) ?_
        refine x_callV k214_67 (y := 213) (n := 1) (w0 := 1) (w1 := 1) (as := [vi x1]) (rest := [vi z753]) (by decide +kernel) (q := 256) (nq := 62) (kq := 15) ⟨by decide, rfl⟩ rfl rfl rfl rfl (xe_mono (C_X11_firstOf_256 s hG (hJ0.fl f (by decide +kernel)) x1 (by first | exact x_rb b_x1 rfl rfl | exact ⟨by omega, by omega⟩) (by omega)) ?_)
        rintro s756 v ⟨-, t_s756, z755, rfl, g_z755⟩
        rw [t_s756.nil]
        show xe none 214 70 [(0, .ref 256), (1, vi x1), (2, vi x2), (3, vj x3), (5, vi x5)] [vi z755, vi z753] s 0 0 _
        refine x_ic_ne k214_70 (t := 87) rfl (by first | exact x_rbe e_z753 g_z753 rfl rfl | exact x_rb g_z753 rfl rfl | exact ⟨by omega, by omega⟩) (by first | exact x_rbe e_z755 g_z755 rfl rfl | exact x_rb g_z755 rfl rfl | exact ⟨by omega, by omega⟩) (fun c757 => ?_) (fun c757 => ?_)
        · skip
          refine x_A k214_87 (fun _ => rfl) ?_
          refine x_istore k214_88 (ls' := [(6, vi 0), (0, .ref 256), (1, vi x1), (2, vi x2), (3, vj x3), (5, vi x5)]) (by decide) rfl ?_
          refine x_A k214_90 (fun _ => rfl) ?_
          refine x_A k214_91 (fun _ => rfl) ?_
          refine x_if_eq k214_93 (t := 123) rfl ⟨by decide, by decide⟩ (fun c758 => ?_) (fun c758 => by exfalso; omega)
          refine x_lconst k214_123 (z := 0) (by decide +kernel) ?_
          refine x_lor_any k214_124 (fun z759 b_z759 => ?_)
          refine x_lstore_n k214_125 (ls' := [(3, vj z759), (6, vi 0), (0, .ref 256), (1, vi x1), (2, vi x2), (5, vi x5)]) (by decide) rfl ?_
          refine x_iinc k214_126 (ls' := [(5, vi (x5 + 1)), (3, vj z759), (6, vi 0), (0, .ref 256), (1, vi x1), (2, vi x2)]) rfl (by decide) rfl ?_
          refine x_goto k214_129 (t := 34) rfl ?_
          refine x_ls (l := [(0, .ref 256), (1, vi x1), (2, vi x2), (3, vj z759), (5, vi (x5 + 1))]) (show ([0, 1, 2, 3, 5] : List Nat).Nodup from by decide +kernel) ⟨rfl, rfl, rfl, rfl, rfl, trivial⟩ ?_
          exact ih s x1 x2 z759 (x5 + 1) x1000 hG f (by first | exact x_rb b_x1 rfl rfl | exact ⟨by omega, by omega⟩) (by first | exact x_rb b_x2 rfl rfl | exact ⟨by omega, by omega⟩) b_z759 ⟨by omega, by omega⟩ (by first | exact x_rb b_x1000 rfl rfl | exact ⟨by omega, by omega⟩) (by omega) (by omega) (e_x1000.symm).symm  (by omega)
        · skip
          refine x_A k214_73 (fun _ => rfl) ?_
          refine x_getR k214_74 (f := 30) rfl (q := 256) (n := 62) (kd := 15) ⟨by decide, rfl⟩ (q2 := 280) (by decide) rfl ?_
          refine x_A k214_77 (fun _ => rfl) ?_
          refine x_iald k214_79 (q := 280) (n := 120) ⟨by decide, rfl⟩ (by decide) (by first | exact x_rbl b_x5 rfl rfl | exact ⟨by omega, by omega⟩) ?_
          refine x_top (fun z760 e_z760 => ?_)
          have g_z760 : (-1) ≤ s 280 x5.toNat ∧ s 280 x5.toNat ≤ 39 := hG 280 x5.toNat
          refine x_if_lt k214_80 (t := 87) rfl (by first | exact x_rbe e_z760 g_z760 rfl rfl | exact x_rb g_z760 rfl rfl | exact ⟨by omega, by omega⟩) (fun c761 => ?_) (fun c761 => ?_)
          · skip
            refine x_A k214_87 (fun _ => rfl) ?_
            refine x_istore k214_88 (ls' := [(6, vi 0), (0, .ref 256), (1, vi x1), (2, vi x2), (3, vj x3), (5, vi x5)]) (by decide) rfl ?_
            refine x_A k214_90 (fun _ => rfl) ?_
            refine x_A k214_91 (fun _ => rfl) ?_
            refine x_if_eq k214_93 (t := 123) rfl ⟨by decide, by decide⟩ (fun c762 => ?_) (fun c762 => by exfalso; omega)
            refine x_lconst k214_123 (z := 0) (by decide +kernel) ?_
            refine x_lor_any k214_124 (fun z763 b_z763 => ?_)
            refine x_lstore_n k214_125 (ls' := [(3, vj z763), (6, vi 0), (0, .ref 256), (1, vi x1), (2, vi x2), (5, vi x5)]) (by decide) rfl ?_
            refine x_iinc k214_126 (ls' := [(5, vi (x5 + 1)), (3, vj z763), (6, vi 0), (0, .ref 256), (1, vi x1), (2, vi x2)]) rfl (by decide) rfl ?_
            refine x_goto k214_129 (t := 34) rfl ?_
            refine x_ls (l := [(0, .ref 256), (1, vi x1), (2, vi x2), (3, vj z763), (5, vi (x5 + 1))]) (show ([0, 1, 2, 3, 5] : List Nat).Nodup from by decide +kernel) ⟨rfl, rfl, rfl, rfl, rfl, trivial⟩ ?_
            exact ih s x1 x2 z763 (x5 + 1) x1000 hG f (by first | exact x_rb b_x1 rfl rfl | exact ⟨by omega, by omega⟩) (by first | exact x_rb b_x2 rfl rfl | exact ⟨by omega, by omega⟩) b_z763 ⟨by omega, by omega⟩ (by first | exact x_rb b_x1000 rfl rfl | exact ⟨by omega, by omega⟩) (by omega) (by omega) (e_x1000.symm).symm  (by omega)
          · skip
            refine x_A k214_83 (fun _ => rfl) ?_
            refine x_goto k214_84 (t := 88) rfl ?_
            refine x_istore k214_88 (ls' := [(6, vi 1), (0, .ref 256), (1, vi x1), (2, vi x2), (3, vj x3), (5, vi x5)]) (by decide) rfl ?_
            refine x_A k214_90 (fun _ => rfl) ?_
            refine x_A k214_91 (fun _ => rfl) ?_
            refine x_if_eq k214_93 (t := 123) rfl ⟨by decide, by decide⟩ (fun c764 => by exfalso; omega) (fun c764 => ?_)
            refine x_A k214_96 (fun _ => rfl) ?_
            refine x_A k214_97 (fun _ => rfl) ?_
            refine x_A k214_98 (fun _ => rfl) ?_
            refine x_getR k214_99 (f := 30) rfl (q := 256) (n := 62) (kd := 15) ⟨by decide, rfl⟩ (q2 := 280) (by decide) rfl ?_
            refine x_A k214_102 (fun _ => rfl) ?_
            refine x_iald k214_104 (q := 280) (n := 120) ⟨by decide, rfl⟩ (by decide) (by first | exact x_rbl b_x5 rfl rfl | exact ⟨by omega, by omega⟩) ?_
            rw [e_z760.symm]
            refine x_callV k214_105 (y := 169) (n := 2) (w0 := 2) (w1 := 2) (as := [vi x1, vi z760]) (rest := [vj x3]) (by decide +kernel) (q := 256) (nq := 62) (kq := 15) ⟨by decide, rfl⟩ rfl rfl rfl rfl (xe_mono (C_X11_shows_256 s hG x1 (by first | exact x_rb b_x1 rfl rfl | exact ⟨by omega, by omega⟩) z760 (by first | exact x_rbe e_z760 g_z760 rfl rfl | exact x_rb g_z760 rfl rfl | exact ⟨by omega, by omega⟩)) ?_)
            rintro s766 v ⟨-, t_s766, z765, rfl, g_z765⟩
            rw [t_s766.nil]
            show xe none 214 108 [(6, vi 1), (0, .ref 256), (1, vi x1), (2, vi x2), (3, vj x3), (5, vi x5)] [vi z765, vj x3] s 0 0 _
            refine x_if_ne k214_108 (t := 123) rfl (by first | exact x_rbe e_z765 g_z765 rfl rfl | exact x_rb g_z765 rfl rfl | exact ⟨by omega, by omega⟩) (fun c767 => ?_) (fun c767 => ?_)
            · skip
              refine x_lconst k214_123 (z := 0) (by decide +kernel) ?_
              refine x_lor_any k214_124 (fun z768 b_z768 => ?_)
              refine x_lstore_n k214_125 (ls' := [(3, vj z768), (6, vi 1), (0, .ref 256), (1, vi x1), (2, vi x2), (5, vi x5)]) (by decide) rfl ?_
              refine x_iinc k214_126 (ls' := [(5, vi (x5 + 1)), (3, vj z768), (6, vi 1), (0, .ref 256), (1, vi x1), (2, vi x2)]) rfl (by decide) rfl ?_
              refine x_goto k214_129 (t := 34) rfl ?_
              refine x_ls (l := [(0, .ref 256), (1, vi x1), (2, vi x2), (3, vj z768), (5, vi (x5 + 1))]) (show ([0, 1, 2, 3, 5] : List Nat).Nodup from by decide +kernel) ⟨rfl, rfl, rfl, rfl, rfl, trivial⟩ ?_
              exact ih s x1 x2 z768 (x5 + 1) x1000 hG f (by first | exact x_rb b_x1 rfl rfl | exact ⟨by omega, by omega⟩) (by first | exact x_rb b_x2 rfl rfl | exact ⟨by omega, by omega⟩) b_z768 ⟨by omega, by omega⟩ (by first | exact x_rb b_x1000 rfl rfl | exact ⟨by omega, by omega⟩) (by omega) (by omega) (e_x1000.symm).symm  (by omega)
            · skip
              refine x_lconst k214_111 (z := 1) (by decide +kernel) ?_
              refine x_A k214_112 (fun _ => rfl) ?_
              refine x_getR k214_113 (f := 30) rfl (q := 256) (n := 62) (kd := 15) ⟨by decide, rfl⟩ (q2 := 280) (by decide) rfl ?_
              refine x_A k214_116 (fun _ => rfl) ?_
              refine x_iald k214_118 (q := 280) (n := 120) ⟨by decide, rfl⟩ (by decide) (by first | exact x_rbl b_x5 rfl rfl | exact ⟨by omega, by omega⟩) ?_
              rw [e_z760.symm]
              refine x_lshl_any k214_119 (fun z769 b_z769 => ?_)
              refine x_goto k214_120 (t := 124) rfl ?_
              refine x_lor_any k214_124 (fun z770 b_z770 => ?_)
              refine x_lstore_n k214_125 (ls' := [(3, vj z770), (6, vi 1), (0, .ref 256), (1, vi x1), (2, vi x2), (5, vi x5)]) (by decide) rfl ?_
              refine x_iinc k214_126 (ls' := [(5, vi (x5 + 1)), (3, vj z770), (6, vi 1), (0, .ref 256), (1, vi x1), (2, vi x2)]) rfl (by decide) rfl ?_
              refine x_goto k214_129 (t := 34) rfl ?_
              refine x_ls (l := [(0, .ref 256), (1, vi x1), (2, vi x2), (3, vj z770), (5, vi (x5 + 1))]) (show ([0, 1, 2, 3, 5] : List Nat).Nodup from by decide +kernel) ⟨rfl, rfl, rfl, rfl, rfl, trivial⟩ ?_
              exact ih s x1 x2 z770 (x5 + 1) x1000 hG f (by first | exact x_rb b_x1 rfl rfl | exact ⟨by omega, by omega⟩) (by first | exact x_rb b_x2 rfl rfl | exact ⟨by omega, by omega⟩) b_z770 ⟨by omega, by omega⟩ (by first | exact x_rb b_x1000 rfl rfl | exact ⟨by omega, by omega⟩) (by omega) (by omega) (e_x1000.symm).symm  (by omega)
theorem C_X11_lacking_256 (s0 : xS) (hG0 : GI s0) (hJ0 : J s0) (a : Int) (b_a : (-2147483648) ≤ a ∧ a ≤ 2147483647) (b : Int) (b_b : (-2147483648) ≤ b ∧ b ≤ 2147483647) : xe none 214 0 (lv_args 0 [.ref 256, vi a, vi b]) [] s0 0 0 (fun s' v => GI s' ∧ FL [5312, 5376, 4123, 5440, 5504, 5568, 5632, 5696, 5760] s0 s' ∧ ∃ z, v = some (vj z) ∧ in64 z) := by
  have f0 : FL [5312, 5376, 4123, 5440, 5504, 5568, 5632, 5696, 5760] s0 s0 := FL.rf
  show xe none 214 0 [(0, .ref 256), (1, vi a), (2, vi b)] [] s0 0 0 _
  refine x_A k214_0 (fun _ => rfl) ?_
  refine x_A k214_1 (fun _ => rfl) ?_
  obtain ⟨z771, e_z771⟩ : ∃ z, z = s0 256 6 := ⟨_, rfl⟩
  have g_z771 : (0 : Int) ≤ s0 256 6 ∧ s0 256 6 ≤ 40 := hG0 256 6
  refine x_callV k214_2 (y := 151) (n := 1) (w0 := 0) (w1 := 1) (as := [vi a]) (rest := []) (by decide +kernel) (q := 256) (nq := 62) (kq := 15) ⟨by decide, rfl⟩ rfl rfl rfl rfl (xe_mono (C_X11_isPicture_256 s0 hG0 a (by first | exact x_rb b_a rfl rfl | exact ⟨by omega, by omega⟩)) ?_)
  rintro s773 v ⟨h_s773, z772, rfl, hz_z772⟩
  rw [h_s773]
  rcases hz_z772 with ⟨c_z772, e_z772⟩ | ⟨c_z772, e_z772⟩
  · rw [e_z772]
    show xe none 214 5 [(0, .ref 256), (1, vi a), (2, vi b)] [vi 1] s0 0 0 _
    refine x_if_ne k214_5 (t := 12) rfl ⟨by decide, by decide⟩ (fun c774 => ?_) (fun c774 => by exfalso; omega)
    refine x_A k214_12 (fun _ => rfl) ?_
    refine x_A k214_13 (fun _ => rfl) ?_
    obtain ⟨z775, e_z775⟩ : ∃ z, z = s0 256 0 := ⟨_, rfl⟩
    have g_z775 : (0 : Int) ≤ s0 256 0 ∧ s0 256 0 ≤ 9 := hG0 256 0
    refine x_callV k214_14 (y := 138) (n := 1) (w0 := 0) (w1 := 1) (as := [vi b]) (rest := []) (by decide +kernel) (q := 256) (nq := 62) (kq := 15) ⟨by decide, rfl⟩ rfl rfl rfl rfl (xe_mono (C_X11_isEdition_256 s0 hG0 b (by first | exact x_rb b_b rfl rfl | exact ⟨by omega, by omega⟩)) ?_)
    rintro s777 v ⟨h_s777, z776, rfl, hz_z776⟩
    rw [h_s777]
    rcases hz_z776 with ⟨c_z776, e_z776⟩ | ⟨c_z776, e_z776⟩
    · rw [e_z776]
      show xe none 214 17 [(0, .ref 256), (1, vi a), (2, vi b)] [vi 1] s0 0 0 _
      refine x_if_ne k214_17 (t := 24) rfl ⟨by decide, by decide⟩ (fun c778 => ?_) (fun c778 => by exfalso; omega)
      refine x_A k214_24 (fun _ => rfl) ?_
      refine x_A k214_25 (fun _ => rfl) ?_
      refine x_callV k214_26 (y := 168) (n := 1) (w0 := 0) (w1 := 1) (as := [vi b]) (rest := []) (by decide +kernel) (q := 256) (nq := 62) (kq := 15) ⟨by decide, rfl⟩ rfl rfl rfl rfl (xe_mono (C_X11_find_256 s0 hG0 (hJ0.fl f0 (by decide +kernel)) b (by first | exact x_rb b_b rfl rfl | exact ⟨by omega, by omega⟩)) ?_)
      rintro s780 v ⟨hG_s780, t_s780, rfl⟩
      have f_s780 : FL [5312, 5376, 4123, 5440, 5504, 5568, 5632, 5696, 5760] s0 s780 := f0.tr t_s780 (by decide +kernel)
      have q781 : s780 256 6 = z771 := (t_s780 256 6 (show 4103 ∉ [5312, 5376, 4123, 5440, 5504, 5568, 5632, 5696, 5760] from by decide +kernel)).trans e_z771.symm
      have q782 : s780 256 0 = z775 := (t_s780 256 0 (show 4097 ∉ [5312, 5376, 4123, 5440, 5504, 5568, 5632, 5696, 5760] from by decide +kernel)).trans e_z775.symm
      show xe none 214 29 [(0, .ref 256), (1, vi a), (2, vi b)] [] s780 0 0 _
      refine x_lconst k214_29 (z := 0) (by decide +kernel) ?_
      refine x_lstore_n k214_30 (ls' := [(3, vj 0), (0, .ref 256), (1, vi a), (2, vi b)]) (by decide) rfl ?_
      refine x_A k214_31 (fun _ => rfl) ?_
      refine x_istore k214_32 (ls' := [(5, vi 0), (3, vj 0), (0, .ref 256), (1, vi a), (2, vi b)]) (by decide) rfl ?_
      refine x_ls (l := [(0, .ref 256), (1, vi a), (2, vi b), (3, vj 0), (5, vi 0)]) (show ([0, 1, 2, 3, 5] : List Nat).Nodup from by decide +kernel) ⟨rfl, rfl, rfl, rfl, rfl, trivial⟩ ?_
      exact L_C_X11_lacking_256_34 s0 hJ0  (((120 - 0) + 1 : Int)).toNat s780 a b 0 0 z771 hG_s780 f_s780 (by first | exact x_rb b_a rfl rfl | exact ⟨by omega, by omega⟩) (by first | exact x_rb b_b rfl rfl | exact ⟨by omega, by omega⟩) ⟨by omega, by omega⟩ ⟨by decide, by decide⟩ (by first | exact x_rbe e_z771 g_z771 rfl rfl | exact x_rb g_z771 rfl rfl | exact ⟨by omega, by omega⟩) (by omega) (by omega) (q781).symm  (by omega)
    · rw [e_z776]
      show xe none 214 17 [(0, .ref 256), (1, vi a), (2, vi b)] [vi 0] s0 0 0 _
      refine x_if_ne k214_17 (t := 24) rfl ⟨by decide, by decide⟩ (fun c783 => by exfalso; omega) (fun c783 => ?_)
      refine x_ldc2 k214_20 (z := (-1002)) rfl (by decide +kernel) ?_
      exact x_lret k214_23 rfl ⟨hG0, f0, (-1002), rfl, ⟨by omega, by omega⟩⟩
  · rw [e_z772]
    show xe none 214 5 [(0, .ref 256), (1, vi a), (2, vi b)] [vi 0] s0 0 0 _
    refine x_if_ne k214_5 (t := 12) rfl ⟨by decide, by decide⟩ (fun c784 => by exfalso; omega) (fun c784 => ?_)
    refine x_ldc2 k214_8 (z := (-1001)) rfl (by decide +kernel) ?_
    exact x_lret k214_11 rfl ⟨hG0, f0, (-1001), rfl, ⟨by omega, by omega⟩⟩
theorem L_C_X11_of_256_102 (s0 : xS) (hJ0 : J s0) (n_67 : Nat) (ih_67 : ∀ (s : xS) (x1 : Int) (x2 : Int) (x3 : Int) (x4 : Int) (x5 : Int) (x6 : Int) (x7 : Int) (hG : GI s) (f : FL [5312, 5376, 4123, 5440, 5504, 5568, 5632, 5696, 5760] s0 s) (b_x1 : 0 ≤ x1 ∧ x1 ≤ 39) (b_x2 : 0 ≤ x2 ∧ x2 ≤ 3) (b_x3 : 0 ≤ x3 ∧ x3 ≤ 9) (b_x4 : 0 ≤ x4 ∧ x4 ≤ 2) (b_x5 : 0 ≤ x5 ∧ x5 ≤ 6) (b_x6 : (-1) ≤ x6 ∧ x6 ≤ 5) (b_x7 : 0 ≤ x7 ∧ x7 ≤ 6) (r_6_7 : x6 ≤ x7 + (-1)) (r_5_7 : x5 ≤ x7 + 0) (hm : (6 - x7) < (n_67 : Int)), xe none 217 67 [(0, .ref 256), (1, vi x1), (2, vi x2), (3, vi x3), (4, vi x4), (5, vi x5), (6, vi x6), (7, vi x7)] [] s 0 0 (fun s' v => GI s' ∧ FL [5312, 5376, 4123, 5440, 5504, 5568, 5632, 5696, 5760] s0 s' ∧ ∃ z, v = some (vi z) ∧ ((-2147483648) ≤ z ∧ z ≤ 2147483647))) : ∀ (n : Nat) (s : xS) (x1 : Int) (x2 : Int) (x3 : Int) (x4 : Int) (x5 : Int) (x6 : Int) (x7 : Int) (x8 : Int) (x9 : Int) (hG : GI s) (f : FL [5312, 5376, 4123, 5440, 5504, 5568, 5632, 5696, 5760] s0 s) (b_x1 : 0 ≤ x1 ∧ x1 ≤ 39) (b_x2 : 0 ≤ x2 ∧ x2 ≤ 3) (b_x3 : 0 ≤ x3 ∧ x3 ≤ 9) (b_x4 : 0 ≤ x4 ∧ x4 ≤ 2) (b_x5 : 0 ≤ x5 ∧ x5 ≤ 6) (b_x6 : (-1) ≤ x6 ∧ x6 ≤ 5) (b_x7 : 0 ≤ x7 ∧ x7 ≤ 5) (b_x8 : 0 ≤ x8 ∧ x8 ≤ 1) (b_x9 : 0 ≤ x9 ∧ x9 ≤ 3) (r_5_7 : x5 ≤ x7 + 0) (r_6_7 : x6 ≤ x7 + (-1)) (w_0 : x7 ≤ 4) (k_67 : (6 - x7) < (n_67 : Int) + 1) (hm : (3 - x9) < (n : Int)), xe none 217 102 [(0, .ref 256), (1, vi x1), (2, vi x2), (3, vi x3), (4, vi x4), (5, vi x5), (6, vi x6), (7, vi x7), (8, vi x8), (9, vi x9)] [] s 0 0 (fun s' v => GI s' ∧ FL [5312, 5376, 4123, 5440, 5504, 5568, 5632, 5696, 5760] s0 s' ∧ ∃ z, v = some (vi z) ∧ ((-2147483648) ≤ z ∧ z ≤ 2147483647)) := by
  intro n
  induction n with
  | zero => intro s x1 x2 x3 x4 x5 x6 x7 x8 x9 hG f b_x1 b_x2 b_x3 b_x4 b_x5 b_x6 b_x7 b_x8 b_x9 r_5_7 r_6_7 w_0 k_67 hm; exfalso; omega
  | succ n ih =>
    intro s x1 x2 x3 x4 x5 x6 x7 x8 x9 hG f b_x1 b_x2 b_x3 b_x4 b_x5 b_x6 b_x7 b_x8 b_x9 r_5_7 r_6_7 w_0 k_67 hm
    refine x_A k217_102 (fun _ => rfl) ?_
    refine x_A k217_104 (fun _ => rfl) ?_
    refine x_getR k217_105 (f := 60) rfl (q := 256) (n := 62) (kd := 15) ⟨by decide, rfl⟩ (q2 := 293) (by decide) rfl ?_
    refine x_A k217_108 (fun _ => rfl) ?_
    refine x_A k217_109 (fun _ => rfl) ?_
    refine x_imul k217_110 ?_
    refine x_top (fun z434 e_z434 => ?_)
    refine x_A k217_111 (fun _ => rfl) ?_
    refine x_iadd k217_113 ?_
    refine x_top (fun z435 e_z435 => ?_)
    refine x_iald k217_114 (q := 293) (n := 20) ⟨by decide, rfl⟩ (by decide) (by first | exact x_rbel e_z435 g_z435 rfl rfl | exact x_rbl g_z435 rfl rfl | exact ⟨by omega, by omega⟩) ?_
    refine x_top (fun z436 e_z436 => ?_)
    have g_z436 : (0 : Int) ≤ s 293 z435.toNat ∧ s 293 z435.toNat ≤ 3 := hG 293 z435.toNat
    refine x_ic_ge k217_115 (t := 160) rfl (by first | exact x_rb b_x9 rfl rfl | exact ⟨by omega, by omega⟩) (by first | exact x_rbe e_z436 g_z436 rfl rfl | exact x_rb g_z436 rfl rfl | exact ⟨by omega, by omega⟩) (fun c437 => ?_) (fun c437 => ?_)
    · skip
      refine x_A k217_160 (fun _ => rfl) ?_
      refine x_A k217_162 (fun _ => rfl) ?_
      refine x_if_eq k217_164 (t := 171) rfl (by first | exact x_rb b_x8 rfl rfl | exact ⟨by omega, by omega⟩) (fun c438 => ?_) (fun c438 => ?_)
      · skip
        refine x_A k217_171 (fun _ => rfl) ?_
        refine x_iadd k217_172 ?_
        refine x_top (fun z439 e_z439 => ?_)
        refine x_istore k217_173 (ls' := [(5, vi z439), (0, .ref 256), (1, vi x1), (2, vi x2), (3, vi x3), (4, vi x4), (6, vi x6), (7, vi x7), (8, vi x8), (9, vi x9)]) (by decide) rfl ?_
        refine x_A k217_175 (fun _ => rfl) ?_
        refine x_if_eq k217_177 (t := 190) rfl (by first | exact x_rb b_x8 rfl rfl | exact ⟨by omega, by omega⟩) (fun c440 => ?_) (fun c440 => by exfalso; omega)
        refine x_A k217_190 (fun _ => rfl) ?_
        refine x_istore k217_192 (ls' := [(6, vi x6), (5, vi z439), (0, .ref 256), (1, vi x1), (2, vi x2), (3, vi x3), (4, vi x4), (7, vi x7), (8, vi x8), (9, vi x9)]) (by decide) rfl ?_
        refine x_iinc k217_194 (ls' := [(7, vi (x7 + 1)), (6, vi x6), (5, vi z439), (0, .ref 256), (1, vi x1), (2, vi x2), (3, vi x3), (4, vi x4), (8, vi x8), (9, vi x9)]) rfl (by decide) rfl ?_
        refine x_goto k217_197 (t := 67) rfl ?_
        refine x_ls (l := [(0, .ref 256), (1, vi x1), (2, vi x2), (3, vi x3), (4, vi x4), (5, vi z439), (6, vi x6), (7, vi (x7 + 1))]) (show ([0, 1, 2, 3, 4, 5, 6, 7] : List Nat).Nodup from by decide +kernel) ⟨rfl, rfl, rfl, rfl, rfl, rfl, rfl, rfl, trivial⟩ ?_
        exact ih_67 s x1 x2 x3 x4 z439 x6 (x7 + 1) hG f (by first | exact x_rb b_x1 rfl rfl | exact ⟨by omega, by omega⟩) (by first | exact x_rb b_x2 rfl rfl | exact ⟨by omega, by omega⟩) (by first | exact x_rb b_x3 rfl rfl | exact ⟨by omega, by omega⟩) (by first | exact x_rb b_x4 rfl rfl | exact ⟨by omega, by omega⟩) (by first | exact x_rbe e_z439 g_z439 rfl rfl | exact x_rb g_z439 rfl rfl | exact ⟨by omega, by omega⟩) (by first | exact x_rb b_x6 rfl rfl | exact ⟨by omega, by omega⟩) ⟨by omega, by omega⟩ (by omega) (by omega) (by omega)
      · skip
        refine x_A k217_167 (fun _ => rfl) ?_
        refine x_goto k217_168 (t := 172) rfl ?_
        refine x_iadd k217_172 ?_
        refine x_top (fun z441 e_z441 => ?_)
        refine x_istore k217_173 (ls' := [(5, vi z441), (0, .ref 256), (1, vi x1), (2, vi x2), (3, vi x3), (4, vi x4), (6, vi x6), (7, vi x7), (8, vi x8), (9, vi x9)]) (by decide) rfl ?_
        refine x_A k217_175 (fun _ => rfl) ?_
        refine x_if_eq k217_177 (t := 190) rfl (by first | exact x_rb b_x8 rfl rfl | exact ⟨by omega, by omega⟩) (fun c442 => by exfalso; omega) (fun c442 => ?_)
        refine x_A k217_180 (fun _ => rfl) ?_
        refine x_if_ge k217_182 (t := 190) rfl (by first | exact x_rb b_x6 rfl rfl | exact ⟨by omega, by omega⟩) (fun c443 => ?_) (fun c443 => ?_)
        · skip
          refine x_A k217_190 (fun _ => rfl) ?_
          refine x_istore k217_192 (ls' := [(6, vi x6), (5, vi z441), (0, .ref 256), (1, vi x1), (2, vi x2), (3, vi x3), (4, vi x4), (7, vi x7), (8, vi x8), (9, vi x9)]) (by decide) rfl ?_
          refine x_iinc k217_194 (ls' := [(7, vi (x7 + 1)), (6, vi x6), (5, vi z441), (0, .ref 256), (1, vi x1), (2, vi x2), (3, vi x3), (4, vi x4), (8, vi x8), (9, vi x9)]) rfl (by decide) rfl ?_
          refine x_goto k217_197 (t := 67) rfl ?_
          refine x_ls (l := [(0, .ref 256), (1, vi x1), (2, vi x2), (3, vi x3), (4, vi x4), (5, vi z441), (6, vi x6), (7, vi (x7 + 1))]) (show ([0, 1, 2, 3, 4, 5, 6, 7] : List Nat).Nodup from by decide +kernel) ⟨rfl, rfl, rfl, rfl, rfl, rfl, rfl, rfl, trivial⟩ ?_
          exact ih_67 s x1 x2 x3 x4 z441 x6 (x7 + 1) hG f (by first | exact x_rb b_x1 rfl rfl | exact ⟨by omega, by omega⟩) (by first | exact x_rb b_x2 rfl rfl | exact ⟨by omega, by omega⟩) (by first | exact x_rb b_x3 rfl rfl | exact ⟨by omega, by omega⟩) (by first | exact x_rb b_x4 rfl rfl | exact ⟨by omega, by omega⟩) (by first | exact x_rbe e_z441 g_z441 rfl rfl | exact x_rb g_z441 rfl rfl | exact ⟨by omega, by omega⟩) (by first | exact x_rb b_x6 rfl rfl | exact ⟨by omega, by omega⟩) ⟨by omega, by omega⟩ (by omega) (by omega) (by omega)
        · skip
          refine x_A k217_185 (fun _ => rfl) ?_
          refine x_goto k217_187 (t := 192) rfl ?_
          refine x_istore k217_192 (ls' := [(6, vi x7), (5, vi z441), (0, .ref 256), (1, vi x1), (2, vi x2), (3, vi x3), (4, vi x4), (7, vi x7), (8, vi x8), (9, vi x9)]) (by decide) rfl ?_
          refine x_iinc k217_194 (ls' := [(7, vi (x7 + 1)), (6, vi x7), (5, vi z441), (0, .ref 256), (1, vi x1), (2, vi x2), (3, vi x3), (4, vi x4), (8, vi x8), (9, vi x9)]) rfl (by decide) rfl ?_
          refine x_goto k217_197 (t := 67) rfl ?_
          refine x_ls (l := [(0, .ref 256), (1, vi x1), (2, vi x2), (3, vi x3), (4, vi x4), (5, vi z441), (6, vi x7), (7, vi (x7 + 1))]) (show ([0, 1, 2, 3, 4, 5, 6, 7] : List Nat).Nodup from by decide +kernel) ⟨rfl, rfl, rfl, rfl, rfl, rfl, rfl, rfl, trivial⟩ ?_
          exact ih_67 s x1 x2 x3 x4 z441 x7 (x7 + 1) hG f (by first | exact x_rb b_x1 rfl rfl | exact ⟨by omega, by omega⟩) (by first | exact x_rb b_x2 rfl rfl | exact ⟨by omega, by omega⟩) (by first | exact x_rb b_x3 rfl rfl | exact ⟨by omega, by omega⟩) (by first | exact x_rb b_x4 rfl rfl | exact ⟨by omega, by omega⟩) (by first | exact x_rbe e_z441 g_z441 rfl rfl | exact x_rb g_z441 rfl rfl | exact ⟨by omega, by omega⟩) (by first | exact x_rb b_x7 rfl rfl | exact ⟨by omega, by omega⟩) ⟨by omega, by omega⟩ (by omega) (by omega) (by omega)
    · skip
      refine x_A k217_118 (fun _ => rfl) ?_
      refine x_if_eq k217_120 (t := 151) rfl (by first | exact x_rb b_x8 rfl rfl | exact ⟨by omega, by omega⟩) (fun c444 => ?_) (fun c444 => ?_)
      · skip
        refine x_A k217_151 (fun _ => rfl) ?_
        refine x_istore k217_152 (ls' := [(8, vi 0), (0, .ref 256), (1, vi x1), (2, vi x2), (3, vi x3), (4, vi x4), (5, vi x5), (6, vi x6), (7, vi x7), (9, vi x9)]) (by decide) rfl ?_
        refine x_iinc k217_154 (ls' := [(9, vi (x9 + 1)), (8, vi 0), (0, .ref 256), (1, vi x1), (2, vi x2), (3, vi x3), (4, vi x4), (5, vi x5), (6, vi x6), (7, vi x7)]) rfl (by decide) rfl ?_
        refine x_goto k217_157 (t := 102) rfl ?_
        refine x_ls (l := [(0, .ref 256), (1, vi x1), (2, vi x2), (3, vi x3), (4, vi x4), (5, vi x5), (6, vi x6), (7, vi x7), (8, vi 0), (9, vi (x9 + 1))]) (show ([0, 1, 2, 3, 4, 5, 6, 7, 8, 9] : List Nat).Nodup from by decide +kernel) ⟨rfl, rfl, rfl, rfl, rfl, rfl, rfl, rfl, rfl, rfl, trivial⟩ ?_
        exact ih s x1 x2 x3 x4 x5 x6 x7 0 (x9 + 1) hG f (by first | exact x_rb b_x1 rfl rfl | exact ⟨by omega, by omega⟩) (by first | exact x_rb b_x2 rfl rfl | exact ⟨by omega, by omega⟩) (by first | exact x_rb b_x3 rfl rfl | exact ⟨by omega, by omega⟩) (by first | exact x_rb b_x4 rfl rfl | exact ⟨by omega, by omega⟩) (by first | exact x_rb b_x5 rfl rfl | exact ⟨by omega, by omega⟩) (by first | exact x_rb b_x6 rfl rfl | exact ⟨by omega, by omega⟩) (by first | exact x_rb b_x7 rfl rfl | exact ⟨by omega, by omega⟩) ⟨by decide, by decide⟩ ⟨by omega, by omega⟩ (by omega) (by omega) (by omega) (by omega) (by omega)
      · skip
        refine x_A k217_123 (fun _ => rfl) ?_
        refine x_A k217_124 (fun _ => rfl) ?_
        refine x_A k217_125 (fun _ => rfl) ?_
        refine x_getR k217_126 (f := 61) rfl (q := 256) (n := 62) (kd := 15) ⟨by decide, rfl⟩ (q2 := 294) (by decide) rfl ?_
        refine x_A k217_129 (fun _ => rfl) ?_
        refine x_A k217_130 (fun _ => rfl) ?_
        refine x_A k217_131 (fun _ => rfl) ?_
        refine x_imul k217_132 ?_
        refine x_top (fun z445 e_z445 => ?_)
        refine x_A k217_133 (fun _ => rfl) ?_
        refine x_iadd k217_135 ?_
        refine x_top (fun z446 e_z446 => ?_)
        refine x_imul k217_136 ?_
        refine x_top (fun z447 e_z447 => ?_)
        refine x_A k217_137 (fun _ => rfl) ?_
        refine x_iadd k217_139 ?_
        refine x_top (fun z448 e_z448 => ?_)
        refine x_iald k217_140 (q := 294) (n := 60) ⟨by decide, rfl⟩ (by decide) (by first | exact x_rbel e_z448 g_z448 rfl rfl | exact x_rbl g_z448 rfl rfl | exact ⟨by omega, by omega⟩) ?_
        refine x_top (fun z449 e_z449 => ?_)
        have g_z449 : (0 : Int) ≤ s 294 z448.toNat ∧ s 294 z448.toNat ≤ 39 := hG 294 z448.toNat
        refine x_callV k217_141 (y := 169) (n := 2) (w0 := 0) (w1 := 2) (as := [vi x1, vi z449]) (rest := []) (by decide +kernel) (q := 256) (nq := 62) (kq := 15) ⟨by decide, rfl⟩ rfl rfl rfl rfl (xe_mono (C_X11_shows_256 s hG x1 (by first | exact x_rb b_x1 rfl rfl | exact ⟨by omega, by omega⟩) z449 (by first | exact x_rbe e_z449 g_z449 rfl rfl | exact x_rb g_z449 rfl rfl | exact ⟨by omega, by omega⟩)) ?_)
        rintro s451 v ⟨-, t_s451, z450, rfl, g_z450⟩
        rw [t_s451.nil]
        show xe none 217 144 [(0, .ref 256), (1, vi x1), (2, vi x2), (3, vi x3), (4, vi x4), (5, vi x5), (6, vi x6), (7, vi x7), (8, vi x8), (9, vi x9)] [vi z450] s 0 0 _
        refine x_if_eq k217_144 (t := 151) rfl (by first | exact x_rbe e_z450 g_z450 rfl rfl | exact x_rb g_z450 rfl rfl | exact ⟨by omega, by omega⟩) (fun c452 => ?_) (fun c452 => ?_)
        · skip
          refine x_A k217_151 (fun _ => rfl) ?_
          refine x_istore k217_152 (ls' := [(8, vi 0), (0, .ref 256), (1, vi x1), (2, vi x2), (3, vi x3), (4, vi x4), (5, vi x5), (6, vi x6), (7, vi x7), (9, vi x9)]) (by decide) rfl ?_
          refine x_iinc k217_154 (ls' := [(9, vi (x9 + 1)), (8, vi 0), (0, .ref 256), (1, vi x1), (2, vi x2), (3, vi x3), (4, vi x4), (5, vi x5), (6, vi x6), (7, vi x7)]) rfl (by decide) rfl ?_
          refine x_goto k217_157 (t := 102) rfl ?_
          refine x_ls (l := [(0, .ref 256), (1, vi x1), (2, vi x2), (3, vi x3), (4, vi x4), (5, vi x5), (6, vi x6), (7, vi x7), (8, vi 0), (9, vi (x9 + 1))]) (show ([0, 1, 2, 3, 4, 5, 6, 7, 8, 9] : List Nat).Nodup from by decide +kernel) ⟨rfl, rfl, rfl, rfl, rfl, rfl, rfl, rfl, rfl, rfl, trivial⟩ ?_
          exact ih s x1 x2 x3 x4 x5 x6 x7 0 (x9 + 1) hG f (by first | exact x_rb b_x1 rfl rfl | exact ⟨by omega, by omega⟩) (by first | exact x_rb b_x2 rfl rfl | exact ⟨by omega, by omega⟩) (by first | exact x_rb b_x3 rfl rfl | exact ⟨by omega, by omega⟩) (by first | exact x_rb b_x4 rfl rfl | exact ⟨by omega, by omega⟩) (by first | exact x_rb b_x5 rfl rfl | exact ⟨by omega, by omega⟩) (by first | exact x_rb b_x6 rfl rfl | exact ⟨by omega, by omega⟩) (by first | exact x_rb b_x7 rfl rfl | exact ⟨by omega, by omega⟩) ⟨by decide, by decide⟩ ⟨by omega, by omega⟩ (by omega) (by omega) (by omega) (by omega) (by omega)
        · skip
          refine x_A k217_147 (fun _ => rfl) ?_
          refine x_goto k217_148 (t := 152) rfl ?_
          refine x_istore k217_152 (ls' := [(8, vi 1), (0, .ref 256), (1, vi x1), (2, vi x2), (3, vi x3), (4, vi x4), (5, vi x5), (6, vi x6), (7, vi x7), (9, vi x9)]) (by decide) rfl ?_
          refine x_iinc k217_154 (ls' := [(9, vi (x9 + 1)), (8, vi 1), (0, .ref 256), (1, vi x1), (2, vi x2), (3, vi x3), (4, vi x4), (5, vi x5), (6, vi x6), (7, vi x7)]) rfl (by decide) rfl ?_
          refine x_goto k217_157 (t := 102) rfl ?_
          refine x_ls (l := [(0, .ref 256), (1, vi x1), (2, vi x2), (3, vi x3), (4, vi x4), (5, vi x5), (6, vi x6), (7, vi x7), (8, vi 1), (9, vi (x9 + 1))]) (show ([0, 1, 2, 3, 4, 5, 6, 7, 8, 9] : List Nat).Nodup from by decide +kernel) ⟨rfl, rfl, rfl, rfl, rfl, rfl, rfl, rfl, rfl, rfl, trivial⟩ ?_
          exact ih s x1 x2 x3 x4 x5 x6 x7 1 (x9 + 1) hG f (by first | exact x_rb b_x1 rfl rfl | exact ⟨by omega, by omega⟩) (by first | exact x_rb b_x2 rfl rfl | exact ⟨by omega, by omega⟩) (by first | exact x_rb b_x3 rfl rfl | exact ⟨by omega, by omega⟩) (by first | exact x_rb b_x4 rfl rfl | exact ⟨by omega, by omega⟩) (by first | exact x_rb b_x5 rfl rfl | exact ⟨by omega, by omega⟩) (by first | exact x_rb b_x6 rfl rfl | exact ⟨by omega, by omega⟩) (by first | exact x_rb b_x7 rfl rfl | exact ⟨by omega, by omega⟩) ⟨by decide, by decide⟩ ⟨by omega, by omega⟩ (by omega) (by omega) (by omega) (by omega) (by omega)
theorem L_C_X11_of_256_67 (s0 : xS) (hJ0 : J s0)  : ∀ (n : Nat) (s : xS) (x1 : Int) (x2 : Int) (x3 : Int) (x4 : Int) (x5 : Int) (x6 : Int) (x7 : Int) (hG : GI s) (f : FL [5312, 5376, 4123, 5440, 5504, 5568, 5632, 5696, 5760] s0 s) (b_x1 : 0 ≤ x1 ∧ x1 ≤ 39) (b_x2 : 0 ≤ x2 ∧ x2 ≤ 3) (b_x3 : 0 ≤ x3 ∧ x3 ≤ 9) (b_x4 : 0 ≤ x4 ∧ x4 ≤ 2) (b_x5 : 0 ≤ x5 ∧ x5 ≤ 6) (b_x6 : (-1) ≤ x6 ∧ x6 ≤ 5) (b_x7 : 0 ≤ x7 ∧ x7 ≤ 6) (r_6_7 : x6 ≤ x7 + (-1)) (r_5_7 : x5 ≤ x7 + 0)  (hm : (6 - x7) < (n : Int)), xe none 217 67 [(0, .ref 256), (1, vi x1), (2, vi x2), (3, vi x3), (4, vi x4), (5, vi x5), (6, vi x6), (7, vi x7)] [] s 0 0 (fun s' v => GI s' ∧ FL [5312, 5376, 4123, 5440, 5504, 5568, 5632, 5696, 5760] s0 s' ∧ ∃ z, v = some (vi z) ∧ ((-2147483648) ≤ z ∧ z ≤ 2147483647)) := by
  intro n
  induction n with
  | zero => intro s x1 x2 x3 x4 x5 x6 x7 hG f b_x1 b_x2 b_x3 b_x4 b_x5 b_x6 b_x7 r_6_7 r_5_7  hm; exfalso; omega
  | succ n ih =>
    intro s x1 x2 x3 x4 x5 x6 x7 hG f b_x1 b_x2 b_x3 b_x4 b_x5 b_x6 b_x7 r_6_7 r_5_7  hm
    refine x_A k217_67 (fun _ => rfl) ?_
    refine x_A k217_69 (fun _ => rfl) ?_
    refine x_getR k217_70 (f := 59) rfl (q := 256) (n := 62) (kd := 15) ⟨by decide, rfl⟩ (q2 := 292) (by decide) rfl ?_
    refine x_A k217_73 (fun _ => rfl) ?_
    refine x_iald k217_74 (q := 292) (n := 4) ⟨by decide, rfl⟩ (by decide) (by first | exact x_rbl b_x2 rfl rfl | exact ⟨by omega, by omega⟩) ?_
    refine x_top (fun z453 e_z453 => ?_)
    have g_z453 : (0 : Int) ≤ s 292 x2.toNat ∧ s 292 x2.toNat ≤ 5 := hG 292 x2.toNat
    refine x_ic_ge k217_75 (t := 200) rfl (by first | exact x_rb b_x7 rfl rfl | exact ⟨by omega, by omega⟩) (by first | exact x_rbe e_z453 g_z453 rfl rfl | exact x_rb g_z453 rfl rfl | exact ⟨by omega, by omega⟩) (fun c454 => ?_) (fun c454 => ?_)
    · skip
      refine x_A k217_200 (fun _ => rfl) ?_
      refine x_if_ne k217_202 (t := 210) rfl (by first | exact x_rb b_x4 rfl rfl | exact ⟨by omega, by omega⟩) (fun c455 => ?_) (fun c455 => ?_)
      · skip
        refine x_A k217_210 (fun _ => rfl) ?_
        refine x_A k217_212 (fun _ => rfl) ?_
        refine x_ic_ne k217_213 (t := 221) rfl (by first | exact x_rb b_x4 rfl rfl | exact ⟨by omega, by omega⟩) ⟨by decide, by decide⟩ (fun c456 => ?_) (fun c456 => ?_)
        · skip
          refine x_A k217_221 (fun _ => rfl) ?_
          refine x_A k217_223 (fun _ => rfl) ?_
          refine x_ic_ne k217_224 (t := 231) rfl (by first | exact x_rb b_x5 rfl rfl | exact ⟨by omega, by omega⟩) ⟨by decide, by decide⟩ (fun c457 => ?_) (fun c457 => ?_)
          · skip
            refine x_A k217_231 (fun _ => rfl) ?_
            exact x_iret k217_232 rfl ⟨hG, f, 0, rfl, ⟨by decide, by decide⟩⟩
          · skip
            refine x_A k217_227 (fun _ => rfl) ?_
            refine x_goto k217_228 (t := 232) rfl ?_
            exact x_iret k217_232 rfl ⟨hG, f, 1, rfl, ⟨by decide, by decide⟩⟩
        · skip
          refine x_A k217_216 (fun _ => rfl) ?_
          refine x_goto k217_218 (t := 232) rfl ?_
          exact x_iret k217_232 rfl ⟨hG, f, x6, rfl, (by first | exact x_rb b_x6 rfl rfl | exact ⟨by omega, by omega⟩)⟩
      · skip
        refine x_A k217_205 (fun _ => rfl) ?_
        refine x_goto k217_207 (t := 232) rfl ?_
        exact x_iret k217_232 rfl ⟨hG, f, x5, rfl, (by first | exact x_rb b_x5 rfl rfl | exact ⟨by omega, by omega⟩)⟩
    · skip
      refine x_A k217_78 (fun _ => rfl) ?_
      refine x_getR k217_79 (f := 60) rfl (q := 256) (n := 62) (kd := 15) ⟨by decide, rfl⟩ (q2 := 293) (by decide) rfl ?_
      refine x_A k217_82 (fun _ => rfl) ?_
      refine x_A k217_83 (fun _ => rfl) ?_
      refine x_imul k217_84 ?_
      refine x_top (fun z458 e_z458 => ?_)
      refine x_A k217_85 (fun _ => rfl) ?_
      refine x_iadd k217_87 ?_
      refine x_top (fun z459 e_z459 => ?_)
      refine x_iald k217_88 (q := 293) (n := 20) ⟨by decide, rfl⟩ (by decide) (by first | exact x_rbel e_z459 g_z459 rfl rfl | exact x_rbl g_z459 rfl rfl | exact ⟨by omega, by omega⟩) ?_
      refine x_top (fun z460 e_z460 => ?_)
      have g_z460 : (0 : Int) ≤ s 293 z459.toNat ∧ s 293 z459.toNat ≤ 3 := hG 293 z459.toNat
      refine x_if_le k217_89 (t := 96) rfl (by first | exact x_rbe e_z460 g_z460 rfl rfl | exact x_rb g_z460 rfl rfl | exact ⟨by omega, by omega⟩) (fun c461 => ?_) (fun c461 => ?_)
      · skip
        refine x_A k217_96 (fun _ => rfl) ?_
        refine x_istore k217_97 (ls' := [(8, vi 0), (0, .ref 256), (1, vi x1), (2, vi x2), (3, vi x3), (4, vi x4), (5, vi x5), (6, vi x6), (7, vi x7)]) (by decide) rfl ?_
        refine x_A k217_99 (fun _ => rfl) ?_
        refine x_istore k217_100 (ls' := [(9, vi 0), (8, vi 0), (0, .ref 256), (1, vi x1), (2, vi x2), (3, vi x3), (4, vi x4), (5, vi x5), (6, vi x6), (7, vi x7)]) (by decide) rfl ?_
        refine x_ls (l := [(0, .ref 256), (1, vi x1), (2, vi x2), (3, vi x3), (4, vi x4), (5, vi x5), (6, vi x6), (7, vi x7), (8, vi 0), (9, vi 0)]) (show ([0, 1, 2, 3, 4, 5, 6, 7, 8, 9] : List Nat).Nodup from by decide +kernel) ⟨rfl, rfl, rfl, rfl, rfl, rfl, rfl, rfl, rfl, rfl, trivial⟩ ?_
        exact L_C_X11_of_256_102 s0 hJ0 n (fun s x1 x2 x3 x4 x5 x6 x7 hG f b_x1 b_x2 b_x3 b_x4 b_x5 b_x6 b_x7 r_6_7 r_5_7 hm => ih s x1 x2 x3 x4 x5 x6 x7 hG f b_x1 b_x2 b_x3 b_x4 b_x5 b_x6 b_x7 r_6_7 r_5_7  hm) (((3 - 0) + 1 : Int)).toNat s x1 x2 x3 x4 x5 x6 x7 0 0 hG f (by first | exact x_rb b_x1 rfl rfl | exact ⟨by omega, by omega⟩) (by first | exact x_rb b_x2 rfl rfl | exact ⟨by omega, by omega⟩) (by first | exact x_rb b_x3 rfl rfl | exact ⟨by omega, by omega⟩) (by first | exact x_rb b_x4 rfl rfl | exact ⟨by omega, by omega⟩) (by first | exact x_rb b_x5 rfl rfl | exact ⟨by omega, by omega⟩) (by first | exact x_rb b_x6 rfl rfl | exact ⟨by omega, by omega⟩) (by first | exact x_rb b_x7 rfl rfl | exact ⟨by omega, by omega⟩) ⟨by decide, by decide⟩ ⟨by decide, by decide⟩ (by omega) (by omega) (by omega) (by omega) (by omega)
      · skip
        refine x_A k217_92 (fun _ => rfl) ?_
        refine x_goto k217_93 (t := 97) rfl ?_
        refine x_istore k217_97 (ls' := [(8, vi 1), (0, .ref 256), (1, vi x1), (2, vi x2), (3, vi x3), (4, vi x4), (5, vi x5), (6, vi x6), (7, vi x7)]) (by decide) rfl ?_
        refine x_A k217_99 (fun _ => rfl) ?_
        refine x_istore k217_100 (ls' := [(9, vi 0), (8, vi 1), (0, .ref 256), (1, vi x1), (2, vi x2), (3, vi x3), (4, vi x4), (5, vi x5), (6, vi x6), (7, vi x7)]) (by decide) rfl ?_
        refine x_ls (l := [(0, .ref 256), (1, vi x1), (2, vi x2), (3, vi x3), (4, vi x4), (5, vi x5), (6, vi x6), (7, vi x7), (8, vi 1), (9, vi 0)]) (show ([0, 1, 2, 3, 4, 5, 6, 7, 8, 9] : List Nat).Nodup from by decide +kernel) ⟨rfl, rfl, rfl, rfl, rfl, rfl, rfl, rfl, rfl, rfl, trivial⟩ ?_
        exact L_C_X11_of_256_102 s0 hJ0 n (fun s x1 x2 x3 x4 x5 x6 x7 hG f b_x1 b_x2 b_x3 b_x4 b_x5 b_x6 b_x7 r_6_7 r_5_7 hm => ih s x1 x2 x3 x4 x5 x6 x7 hG f b_x1 b_x2 b_x3 b_x4 b_x5 b_x6 b_x7 r_6_7 r_5_7  hm) (((3 - 0) + 1 : Int)).toNat s x1 x2 x3 x4 x5 x6 x7 1 0 hG f (by first | exact x_rb b_x1 rfl rfl | exact ⟨by omega, by omega⟩) (by first | exact x_rb b_x2 rfl rfl | exact ⟨by omega, by omega⟩) (by first | exact x_rb b_x3 rfl rfl | exact ⟨by omega, by omega⟩) (by first | exact x_rb b_x4 rfl rfl | exact ⟨by omega, by omega⟩) (by first | exact x_rb b_x5 rfl rfl | exact ⟨by omega, by omega⟩) (by first | exact x_rb b_x6 rfl rfl | exact ⟨by omega, by omega⟩) (by first | exact x_rb b_x7 rfl rfl | exact ⟨by omega, by omega⟩) ⟨by decide, by decide⟩ ⟨by decide, by decide⟩ (by omega) (by omega) (by omega) (by omega) (by omega)
theorem C_X11_of_256 (s0 : xS) (hG0 : GI s0) (hJ0 : J s0) (a : Int) (b_a : (-2147483648) ≤ a ∧ a ≤ 2147483647) (b : Int) (b_b : (-2147483648) ≤ b ∧ b ≤ 2147483647) (d : Int) (b_d : (-2147483648) ≤ d ∧ d ≤ 2147483647) (e : Int) (b_e : (-2147483648) ≤ e ∧ e ≤ 2147483647) : xe none 217 0 (lv_args 0 [.ref 256, vi a, vi b, vi d, vi e]) [] s0 0 0 (fun s' v => GI s' ∧ FL [5312, 5376, 4123, 5440, 5504, 5568, 5632, 5696, 5760] s0 s' ∧ ∃ z, v = some (vi z) ∧ ((-2147483648) ≤ z ∧ z ≤ 2147483647)) := by
  have f0 : FL [5312, 5376, 4123, 5440, 5504, 5568, 5632, 5696, 5760] s0 s0 := FL.rf
  show xe none 217 0 [(0, .ref 256), (1, vi a), (2, vi b), (3, vi d), (4, vi e)] [] s0 0 0 _
  refine x_A k217_0 (fun _ => rfl) ?_
  refine x_A k217_1 (fun _ => rfl) ?_
  obtain ⟨z462, e_z462⟩ : ∃ z, z = s0 256 6 := ⟨_, rfl⟩
  have g_z462 : (0 : Int) ≤ s0 256 6 ∧ s0 256 6 ≤ 40 := hG0 256 6
  refine x_callV k217_2 (y := 151) (n := 1) (w0 := 0) (w1 := 1) (as := [vi a]) (rest := []) (by decide +kernel) (q := 256) (nq := 62) (kq := 15) ⟨by decide, rfl⟩ rfl rfl rfl rfl (xe_mono (C_X11_isPicture_256 s0 hG0 a (by first | exact x_rb b_a rfl rfl | exact ⟨by omega, by omega⟩)) ?_)
  rintro s464 v ⟨h_s464, z463, rfl, hz_z463⟩
  rw [h_s464]
  rcases hz_z463 with ⟨c_z463, e_z463⟩ | ⟨c_z463, e_z463⟩
  · rw [e_z463]
    show xe none 217 5 [(0, .ref 256), (1, vi a), (2, vi b), (3, vi d), (4, vi e)] [vi 1] s0 0 0 _
    refine x_if_eq k217_5 (t := 24) rfl ⟨by decide, by decide⟩ (fun c465 => by exfalso; omega) (fun c465 => ?_)
    refine x_A k217_8 (fun _ => rfl) ?_
    refine x_i2l k217_9 (by first | exact x_rb b_b rfl rfl | exact ⟨by omega, by omega⟩) ?_
    refine x_lconst k217_10 (z := 0) (by decide +kernel) ?_
    refine x_A k217_11 (fun _ => rfl) ?_
    refine x_getI k217_12 (f := 58) rfl (q := 256) (n := 62) (kd := 15) ⟨by decide, rfl⟩ (by decide) rfl ?_
    refine x_top (fun z466 e_z466 => ?_)
    have g_z466 : (0 : Int) ≤ s0 256 58 ∧ s0 256 58 ≤ 4 := hG0 256 58
    refine x_A k217_15 (fun _ => rfl) ?_
    refine x_isub k217_16 ?_
    refine x_top (fun z467 e_z467 => ?_)
    refine x_i2l k217_17 (by first | exact x_rbe e_z467 g_z467 rfl rfl | exact x_rb g_z467 rfl rfl | exact ⟨by omega, by omega⟩) ?_
    refine x_callS k217_18 (y := 136) (n := 3) (w0 := 0) (w1 := 6) (as := [vj b, vj 0, vj z467]) (rest := []) (by decide +kernel) rfl rfl rfl rfl (xe_mono (C_X11_in s0 hG0 b ⟨by omega, by omega⟩ 0 ⟨by omega, by omega⟩ z467 ⟨by omega, by omega⟩) ?_)
    rintro s469 v ⟨h_s469, z468, rfl, hz_z468⟩
    rw [h_s469]
    rcases hz_z468 with ⟨c_z468, e_z468⟩ | ⟨c_z468, e_z468⟩
    · rw [e_z468]
      show xe none 217 21 [(0, .ref 256), (1, vi a), (2, vi b), (3, vi d), (4, vi e)] [vi 1] s0 0 0 _
      refine x_if_ne k217_21 (t := 28) rfl ⟨by decide, by decide⟩ (fun c470 => ?_) (fun c470 => by exfalso; omega)
      refine x_A k217_28 (fun _ => rfl) ?_
      refine x_A k217_29 (fun _ => rfl) ?_
      obtain ⟨z471, e_z471⟩ : ∃ z, z = s0 256 0 := ⟨_, rfl⟩
      have g_z471 : (0 : Int) ≤ s0 256 0 ∧ s0 256 0 ≤ 9 := hG0 256 0
      refine x_callV k217_30 (y := 138) (n := 1) (w0 := 0) (w1 := 1) (as := [vi d]) (rest := []) (by decide +kernel) (q := 256) (nq := 62) (kq := 15) ⟨by decide, rfl⟩ rfl rfl rfl rfl (xe_mono (C_X11_isEdition_256 s0 hG0 d (by first | exact x_rb b_d rfl rfl | exact ⟨by omega, by omega⟩)) ?_)
      rintro s473 v ⟨h_s473, z472, rfl, hz_z472⟩
      rw [h_s473]
      rcases hz_z472 with ⟨c_z472, e_z472⟩ | ⟨c_z472, e_z472⟩
      · rw [e_z472]
        show xe none 217 33 [(0, .ref 256), (1, vi a), (2, vi b), (3, vi d), (4, vi e)] [vi 1] s0 0 0 _
        refine x_if_eq k217_33 (t := 49) rfl ⟨by decide, by decide⟩ (fun c474 => by exfalso; omega) (fun c474 => ?_)
        refine x_A k217_36 (fun _ => rfl) ?_
        refine x_i2l k217_38 (by first | exact x_rb b_e rfl rfl | exact ⟨by omega, by omega⟩) ?_
        refine x_lconst k217_39 (z := 0) (by decide +kernel) ?_
        refine x_ldc2 k217_40 (z := 2) rfl (by decide +kernel) ?_
        refine x_callS k217_43 (y := 136) (n := 3) (w0 := 0) (w1 := 6) (as := [vj e, vj 0, vj 2]) (rest := []) (by decide +kernel) rfl rfl rfl rfl (xe_mono (C_X11_in s0 hG0 e ⟨by omega, by omega⟩ 0 ⟨by omega, by omega⟩ 2 ⟨by omega, by omega⟩) ?_)
        rintro s476 v ⟨h_s476, z475, rfl, hz_z475⟩
        rw [h_s476]
        rcases hz_z475 with ⟨c_z475, e_z475⟩ | ⟨c_z475, e_z475⟩
        · rw [e_z475]
          show xe none 217 46 [(0, .ref 256), (1, vi a), (2, vi b), (3, vi d), (4, vi e)] [vi 1] s0 0 0 _
          refine x_if_ne k217_46 (t := 53) rfl ⟨by decide, by decide⟩ (fun c477 => ?_) (fun c477 => by exfalso; omega)
          refine x_A k217_53 (fun _ => rfl) ?_
          refine x_A k217_54 (fun _ => rfl) ?_
          refine x_callV k217_55 (y := 168) (n := 1) (w0 := 0) (w1 := 1) (as := [vi d]) (rest := []) (by decide +kernel) (q := 256) (nq := 62) (kq := 15) ⟨by decide, rfl⟩ rfl rfl rfl rfl (xe_mono (C_X11_find_256 s0 hG0 (hJ0.fl f0 (by decide +kernel)) d (by first | exact x_rb b_d rfl rfl | exact ⟨by omega, by omega⟩)) ?_)
          rintro s479 v ⟨hG_s479, t_s479, rfl⟩
          have f_s479 : FL [5312, 5376, 4123, 5440, 5504, 5568, 5632, 5696, 5760] s0 s479 := f0.tr t_s479 (by decide +kernel)
          have q480 : s479 256 6 = z462 := (t_s479 256 6 (show 4103 ∉ [5312, 5376, 4123, 5440, 5504, 5568, 5632, 5696, 5760] from by decide +kernel)).trans e_z462.symm
          have q481 : s479 256 58 = z466 := (t_s479 256 58 (show 4155 ∉ [5312, 5376, 4123, 5440, 5504, 5568, 5632, 5696, 5760] from by decide +kernel)).trans e_z466.symm
          have q482 : s479 256 0 = z471 := (t_s479 256 0 (show 4097 ∉ [5312, 5376, 4123, 5440, 5504, 5568, 5632, 5696, 5760] from by decide +kernel)).trans e_z471.symm
          show xe none 217 58 [(0, .ref 256), (1, vi a), (2, vi b), (3, vi d), (4, vi e)] [] s479 0 0 _
          refine x_A k217_58 (fun _ => rfl) ?_
          refine x_istore k217_59 (ls' := [(5, vi 0), (0, .ref 256), (1, vi a), (2, vi b), (3, vi d), (4, vi e)]) (by decide) rfl ?_
          refine x_A k217_61 (fun _ => rfl) ?_
          refine x_istore k217_62 (ls' := [(6, vi (-1)), (5, vi 0), (0, .ref 256), (1, vi a), (2, vi b), (3, vi d), (4, vi e)]) (by decide) rfl ?_
          refine x_A k217_64 (fun _ => rfl) ?_
          refine x_istore k217_65 (ls' := [(7, vi 0), (6, vi (-1)), (5, vi 0), (0, .ref 256), (1, vi a), (2, vi b), (3, vi d), (4, vi e)]) (by decide) rfl ?_
          refine x_ls (l := [(0, .ref 256), (1, vi a), (2, vi b), (3, vi d), (4, vi e), (5, vi 0), (6, vi (-1)), (7, vi 0)]) (show ([0, 1, 2, 3, 4, 5, 6, 7] : List Nat).Nodup from by decide +kernel) ⟨rfl, rfl, rfl, rfl, rfl, rfl, rfl, rfl, trivial⟩ ?_
          exact L_C_X11_of_256_67 s0 hJ0  (((6 - 0) + 1 : Int)).toNat s479 a b d e 0 (-1) 0 hG_s479 f_s479 (by first | exact x_rb b_a rfl rfl | exact ⟨by omega, by omega⟩) (by first | exact x_rb b_b rfl rfl | exact ⟨by omega, by omega⟩) (by first | exact x_rb b_d rfl rfl | exact ⟨by omega, by omega⟩) (by first | exact x_rb b_e rfl rfl | exact ⟨by omega, by omega⟩) ⟨by decide, by decide⟩ ⟨by decide, by decide⟩ ⟨by decide, by decide⟩ (by omega) (by omega)  (by omega)
        · rw [e_z475]
          show xe none 217 46 [(0, .ref 256), (1, vi a), (2, vi b), (3, vi d), (4, vi e)] [vi 0] s0 0 0 _
          refine x_if_ne k217_46 (t := 53) rfl ⟨by decide, by decide⟩ (fun c483 => by exfalso; omega) (fun c483 => ?_)
          refine x_sipush k217_49 (by decide +kernel) ?_
          exact x_iret k217_52 rfl ⟨hG0, f0, (-1002), rfl, ⟨by decide, by decide⟩⟩
      · rw [e_z472]
        show xe none 217 33 [(0, .ref 256), (1, vi a), (2, vi b), (3, vi d), (4, vi e)] [vi 0] s0 0 0 _
        refine x_if_eq k217_33 (t := 49) rfl ⟨by decide, by decide⟩ (fun c484 => ?_) (fun c484 => by exfalso; omega)
        refine x_sipush k217_49 (by decide +kernel) ?_
        exact x_iret k217_52 rfl ⟨hG0, f0, (-1002), rfl, ⟨by decide, by decide⟩⟩
    · rw [e_z468]
      show xe none 217 21 [(0, .ref 256), (1, vi a), (2, vi b), (3, vi d), (4, vi e)] [vi 0] s0 0 0 _
      refine x_if_ne k217_21 (t := 28) rfl ⟨by decide, by decide⟩ (fun c485 => by exfalso; omega) (fun c485 => ?_)
      refine x_sipush k217_24 (by decide +kernel) ?_
      exact x_iret k217_27 rfl ⟨hG0, f0, (-1001), rfl, ⟨by decide, by decide⟩⟩
  · rw [e_z463]
    show xe none 217 5 [(0, .ref 256), (1, vi a), (2, vi b), (3, vi d), (4, vi e)] [vi 0] s0 0 0 _
    refine x_if_eq k217_5 (t := 24) rfl ⟨by decide, by decide⟩ (fun c486 => ?_) (fun c486 => by exfalso; omega)
    refine x_sipush k217_24 (by decide +kernel) ?_
    exact x_iret k217_27 rfl ⟨hG0, f0, (-1001), rfl, ⟨by decide, by decide⟩⟩
theorem L_C_X11_split_256_66 (s0 : xS) (hJ0 : J s0) (n_48 : Nat) (ih_48 : ∀ (s : xS) (x1 : Int) (x2 : Int) (x3 : Int) (x4 : Int) (x5 : Int) (x6 : Int) (hG : GI s) (f : FL [5312, 5376, 4123, 5440, 5504, 5568, 5632, 5696, 5760] s0 s) (b_x1 : 0 ≤ x1 ∧ x1 ≤ 39) (b_x2 : 0 ≤ x2 ∧ x2 ≤ 9) (b_x3 : 0 ≤ x3 ∧ x3 ≤ 1) (b_x4 : (-1) ≤ x4 ∧ x4 ≤ 39) (b_x5 : (-1) ≤ x5 ∧ x5 ≤ 40) (b_x6 : 0 ≤ x6 ∧ x6 ≤ 40) (r_4_6 : x4 ≤ x6 + (-1)) (hm : (40 - x6) < (n_48 : Int)), xe none 218 48 [(0, .ref 256), (1, vi x1), (2, vi x2), (3, vi x3), (4, vi x4), (5, vi x5), (6, vi x6)] [] s 0 0 (fun s' v => GI s' ∧ FL [5312, 5376, 4123, 5440, 5504, 5568, 5632, 5696, 5760] s0 s' ∧ ∃ z, v = some (vi z) ∧ ((-1004) ≤ z ∧ z ≤ 120))) : ∀ (n : Nat) (s : xS) (x1 : Int) (x2 : Int) (x3 : Int) (x4 : Int) (x5 : Int) (x6 : Int) (x7 : Int) (x8 : Int) (x9 : Int) (hG : GI s) (f : FL [5312, 5376, 4123, 5440, 5504, 5568, 5632, 5696, 5760] s0 s) (b_x1 : 0 ≤ x1 ∧ x1 ≤ 39) (b_x2 : 0 ≤ x2 ∧ x2 ≤ 9) (b_x3 : 0 ≤ x3 ∧ x3 ≤ 1) (b_x4 : (-1) ≤ x4 ∧ x4 ≤ 39) (b_x5 : (-1) ≤ x5 ∧ x5 ≤ 40) (b_x6 : 0 ≤ x6 ∧ x6 ≤ 39) (b_x7 : 0 ≤ x7 ∧ x7 ≤ 60) (b_x8 : 0 ≤ x8 ∧ x8 ≤ 60) (b_x9 : 0 ≤ x9 ∧ x9 ≤ 40) (r_8_9 : x8 ≤ x9 + 0) (r_7_9 : x7 ≤ x9 + 0) (r_4_6 : x4 ≤ x6 + (-1)) (k_48 : (40 - x6) < (n_48 : Int) + 1) (hm : (40 - x9) < (n : Int)), xe none 218 66 [(0, .ref 256), (1, vi x1), (2, vi x2), (3, vi x3), (4, vi x4), (5, vi x5), (6, vi x6), (7, vi x7), (8, vi x8), (9, vi x9)] [] s 0 0 (fun s' v => GI s' ∧ FL [5312, 5376, 4123, 5440, 5504, 5568, 5632, 5696, 5760] s0 s' ∧ ∃ z, v = some (vi z) ∧ ((-1004) ≤ z ∧ z ≤ 120)) := by
  intro n
  induction n with
  | zero => intro s x1 x2 x3 x4 x5 x6 x7 x8 x9 hG f b_x1 b_x2 b_x3 b_x4 b_x5 b_x6 b_x7 b_x8 b_x9 r_8_9 r_7_9 r_4_6 k_48 hm; exfalso; omega
  | succ n ih =>
    intro s x1 x2 x3 x4 x5 x6 x7 x8 x9 hG f b_x1 b_x2 b_x3 b_x4 b_x5 b_x6 b_x7 b_x8 b_x9 r_8_9 r_7_9 r_4_6 k_48 hm
    refine x_A k218_66 (fun _ => rfl) ?_
    refine x_A k218_68 (fun _ => rfl) ?_
    refine x_getI k218_69 (f := 6) rfl (q := 256) (n := 62) (kd := 15) ⟨by decide, rfl⟩ (by decide) rfl ?_
    refine x_top (fun z1116 e_z1116 => ?_)
    have g_z1116 : (0 : Int) ≤ s 256 6 ∧ s 256 6 ≤ 40 := hG 256 6
    refine x_ic_ge k218_72 (t := 143) rfl (by first | exact x_rb b_x9 rfl rfl | exact ⟨by omega, by omega⟩) (by first | exact x_rbe e_z1116 g_z1116 rfl rfl | exact x_rb g_z1116 rfl rfl | exact ⟨by omega, by omega⟩) (fun c1117 => ?_) (fun c1117 => ?_)
    · skip
      refine x_A k218_143 (fun _ => rfl) ?_
      refine x_A k218_145 (fun _ => rfl) ?_
      refine x_ic_le k218_147 (t := 155) rfl (by first | exact x_rb b_x7 rfl rfl | exact ⟨by omega, by omega⟩) (by first | exact x_rb b_x8 rfl rfl | exact ⟨by omega, by omega⟩) (fun c1118 => ?_) (fun c1118 => ?_)
      · skip
        refine x_A k218_155 (fun _ => rfl) ?_
        refine x_istore k218_157 (ls' := [(9, vi x8), (0, .ref 256), (1, vi x1), (2, vi x2), (3, vi x3), (4, vi x4), (5, vi x5), (6, vi x6), (7, vi x7), (8, vi x8)]) (by decide) rfl ?_
        refine x_A k218_159 (fun _ => rfl) ?_
        refine x_A k218_160 (fun _ => rfl) ?_
        refine x_A k218_161 (fun _ => rfl) ?_
        refine x_A k218_163 (fun _ => rfl) ?_
        refine x_callV k218_164 (y := 209) (n := 3) (w0 := 0) (w1 := 3) (as := [vi x1, vi x6, vi x2]) (rest := []) (by decide +kernel) (q := 256) (nq := 62) (kq := 15) ⟨by decide, rfl⟩ rfl rfl rfl rfl (xe_mono (C_X11_areApart_256 s hG (hJ0.fl f (by decide +kernel)) x1 (by first | exact x_rb b_x1 rfl rfl | exact ⟨by omega, by omega⟩) x6 (by first | exact x_rb b_x6 rfl rfl | exact ⟨by omega, by omega⟩) x2 (by first | exact x_rb b_x2 rfl rfl | exact ⟨by omega, by omega⟩)) ?_)
        rintro s1120 v ⟨-, t_s1120, z1119, rfl, g_z1119⟩
        rw [t_s1120.nil]
        show xe none 218 167 [(9, vi x8), (0, .ref 256), (1, vi x1), (2, vi x2), (3, vi x3), (4, vi x4), (5, vi x5), (6, vi x6), (7, vi x7), (8, vi x8)] [vi z1119] s 0 0 _
        refine x_if_eq k218_167 (t := 190) rfl (by first | exact x_rbe e_z1119 g_z1119 rfl rfl | exact x_rb g_z1119 rfl rfl | exact ⟨by omega, by omega⟩) (fun c1121 => ?_) (fun c1121 => ?_)
        · skip
          refine x_iinc k218_190 (ls' := [(6, vi (x6 + 1)), (9, vi x8), (0, .ref 256), (1, vi x1), (2, vi x2), (3, vi x3), (4, vi x4), (5, vi x5), (7, vi x7), (8, vi x8)]) rfl (by decide) rfl ?_
          refine x_goto k218_193 (t := 48) rfl ?_
          refine x_ls (l := [(0, .ref 256), (1, vi x1), (2, vi x2), (3, vi x3), (4, vi x4), (5, vi x5), (6, vi (x6 + 1))]) (show ([0, 1, 2, 3, 4, 5, 6] : List Nat).Nodup from by decide +kernel) ⟨rfl, rfl, rfl, rfl, rfl, rfl, rfl, trivial⟩ ?_
          exact ih_48 s x1 x2 x3 x4 x5 (x6 + 1) hG f (by first | exact x_rb b_x1 rfl rfl | exact ⟨by omega, by omega⟩) (by first | exact x_rb b_x2 rfl rfl | exact ⟨by omega, by omega⟩) (by first | exact x_rb b_x3 rfl rfl | exact ⟨by omega, by omega⟩) (by first | exact x_rb b_x4 rfl rfl | exact ⟨by omega, by omega⟩) (by first | exact x_rb b_x5 rfl rfl | exact ⟨by omega, by omega⟩) ⟨by omega, by omega⟩ (by omega) (by omega)
        · skip
          refine x_A k218_170 (fun _ => rfl) ?_
          refine x_if_lt k218_172 (t := 182) rfl (by first | exact x_rb b_x4 rfl rfl | exact ⟨by omega, by omega⟩) (fun c1122 => ?_) (fun c1122 => ?_)
          · skip
            refine x_A k218_182 (fun _ => rfl) ?_
            refine x_istore k218_184 (ls' := [(4, vi x6), (9, vi x8), (0, .ref 256), (1, vi x1), (2, vi x2), (3, vi x3), (5, vi x5), (6, vi x6), (7, vi x7), (8, vi x8)]) (by decide) rfl ?_
            refine x_A k218_186 (fun _ => rfl) ?_
            refine x_istore k218_188 (ls' := [(5, vi x8), (4, vi x6), (9, vi x8), (0, .ref 256), (1, vi x1), (2, vi x2), (3, vi x3), (6, vi x6), (7, vi x7), (8, vi x8)]) (by decide) rfl ?_
            refine x_iinc k218_190 (ls' := [(6, vi (x6 + 1)), (5, vi x8), (4, vi x6), (9, vi x8), (0, .ref 256), (1, vi x1), (2, vi x2), (3, vi x3), (7, vi x7), (8, vi x8)]) rfl (by decide) rfl ?_
            refine x_goto k218_193 (t := 48) rfl ?_
            refine x_ls (l := [(0, .ref 256), (1, vi x1), (2, vi x2), (3, vi x3), (4, vi x6), (5, vi x8), (6, vi (x6 + 1))]) (show ([0, 1, 2, 3, 4, 5, 6] : List Nat).Nodup from by decide +kernel) ⟨rfl, rfl, rfl, rfl, rfl, rfl, rfl, trivial⟩ ?_
            exact ih_48 s x1 x2 x3 x6 x8 (x6 + 1) hG f (by first | exact x_rb b_x1 rfl rfl | exact ⟨by omega, by omega⟩) (by first | exact x_rb b_x2 rfl rfl | exact ⟨by omega, by omega⟩) (by first | exact x_rb b_x3 rfl rfl | exact ⟨by omega, by omega⟩) (by first | exact x_rb b_x6 rfl rfl | exact ⟨by omega, by omega⟩) (by first | exact x_rb b_x8 rfl rfl | exact ⟨by omega, by omega⟩) ⟨by omega, by omega⟩ (by omega) (by omega)
          · skip
            refine x_A k218_175 (fun _ => rfl) ?_
            refine x_A k218_177 (fun _ => rfl) ?_
            refine x_ic_ge k218_179 (t := 190) rfl (by first | exact x_rb b_x8 rfl rfl | exact ⟨by omega, by omega⟩) (by first | exact x_rb b_x5 rfl rfl | exact ⟨by omega, by omega⟩) (fun c1123 => ?_) (fun c1123 => ?_)
            · skip
              refine x_iinc k218_190 (ls' := [(6, vi (x6 + 1)), (9, vi x8), (0, .ref 256), (1, vi x1), (2, vi x2), (3, vi x3), (4, vi x4), (5, vi x5), (7, vi x7), (8, vi x8)]) rfl (by decide) rfl ?_
              refine x_goto k218_193 (t := 48) rfl ?_
              refine x_ls (l := [(0, .ref 256), (1, vi x1), (2, vi x2), (3, vi x3), (4, vi x4), (5, vi x5), (6, vi (x6 + 1))]) (show ([0, 1, 2, 3, 4, 5, 6] : List Nat).Nodup from by decide +kernel) ⟨rfl, rfl, rfl, rfl, rfl, rfl, rfl, trivial⟩ ?_
              exact ih_48 s x1 x2 x3 x4 x5 (x6 + 1) hG f (by first | exact x_rb b_x1 rfl rfl | exact ⟨by omega, by omega⟩) (by first | exact x_rb b_x2 rfl rfl | exact ⟨by omega, by omega⟩) (by first | exact x_rb b_x3 rfl rfl | exact ⟨by omega, by omega⟩) (by first | exact x_rb b_x4 rfl rfl | exact ⟨by omega, by omega⟩) (by first | exact x_rb b_x5 rfl rfl | exact ⟨by omega, by omega⟩) ⟨by omega, by omega⟩ (by omega) (by omega)
            · skip
              refine x_A k218_182 (fun _ => rfl) ?_
              refine x_istore k218_184 (ls' := [(4, vi x6), (9, vi x8), (0, .ref 256), (1, vi x1), (2, vi x2), (3, vi x3), (5, vi x5), (6, vi x6), (7, vi x7), (8, vi x8)]) (by decide) rfl ?_
              refine x_A k218_186 (fun _ => rfl) ?_
              refine x_istore k218_188 (ls' := [(5, vi x8), (4, vi x6), (9, vi x8), (0, .ref 256), (1, vi x1), (2, vi x2), (3, vi x3), (6, vi x6), (7, vi x7), (8, vi x8)]) (by decide) rfl ?_
              refine x_iinc k218_190 (ls' := [(6, vi (x6 + 1)), (5, vi x8), (4, vi x6), (9, vi x8), (0, .ref 256), (1, vi x1), (2, vi x2), (3, vi x3), (7, vi x7), (8, vi x8)]) rfl (by decide) rfl ?_
              refine x_goto k218_193 (t := 48) rfl ?_
              refine x_ls (l := [(0, .ref 256), (1, vi x1), (2, vi x2), (3, vi x3), (4, vi x6), (5, vi x8), (6, vi (x6 + 1))]) (show ([0, 1, 2, 3, 4, 5, 6] : List Nat).Nodup from by decide +kernel) ⟨rfl, rfl, rfl, rfl, rfl, rfl, rfl, trivial⟩ ?_
              exact ih_48 s x1 x2 x3 x6 x8 (x6 + 1) hG f (by first | exact x_rb b_x1 rfl rfl | exact ⟨by omega, by omega⟩) (by first | exact x_rb b_x2 rfl rfl | exact ⟨by omega, by omega⟩) (by first | exact x_rb b_x3 rfl rfl | exact ⟨by omega, by omega⟩) (by first | exact x_rb b_x6 rfl rfl | exact ⟨by omega, by omega⟩) (by first | exact x_rb b_x8 rfl rfl | exact ⟨by omega, by omega⟩) ⟨by omega, by omega⟩ (by omega) (by omega)
      · skip
        refine x_A k218_150 (fun _ => rfl) ?_
        refine x_goto k218_152 (t := 157) rfl ?_
        refine x_istore k218_157 (ls' := [(9, vi x7), (0, .ref 256), (1, vi x1), (2, vi x2), (3, vi x3), (4, vi x4), (5, vi x5), (6, vi x6), (7, vi x7), (8, vi x8)]) (by decide) rfl ?_
        refine x_A k218_159 (fun _ => rfl) ?_
        refine x_A k218_160 (fun _ => rfl) ?_
        refine x_A k218_161 (fun _ => rfl) ?_
        refine x_A k218_163 (fun _ => rfl) ?_
        refine x_callV k218_164 (y := 209) (n := 3) (w0 := 0) (w1 := 3) (as := [vi x1, vi x6, vi x2]) (rest := []) (by decide +kernel) (q := 256) (nq := 62) (kq := 15) ⟨by decide, rfl⟩ rfl rfl rfl rfl (xe_mono (C_X11_areApart_256 s hG (hJ0.fl f (by decide +kernel)) x1 (by first | exact x_rb b_x1 rfl rfl | exact ⟨by omega, by omega⟩) x6 (by first | exact x_rb b_x6 rfl rfl | exact ⟨by omega, by omega⟩) x2 (by first | exact x_rb b_x2 rfl rfl | exact ⟨by omega, by omega⟩)) ?_)
        rintro s1125 v ⟨-, t_s1125, z1124, rfl, g_z1124⟩
        rw [t_s1125.nil]
        show xe none 218 167 [(9, vi x7), (0, .ref 256), (1, vi x1), (2, vi x2), (3, vi x3), (4, vi x4), (5, vi x5), (6, vi x6), (7, vi x7), (8, vi x8)] [vi z1124] s 0 0 _
        refine x_if_eq k218_167 (t := 190) rfl (by first | exact x_rbe e_z1124 g_z1124 rfl rfl | exact x_rb g_z1124 rfl rfl | exact ⟨by omega, by omega⟩) (fun c1126 => ?_) (fun c1126 => ?_)
        · skip
          refine x_iinc k218_190 (ls' := [(6, vi (x6 + 1)), (9, vi x7), (0, .ref 256), (1, vi x1), (2, vi x2), (3, vi x3), (4, vi x4), (5, vi x5), (7, vi x7), (8, vi x8)]) rfl (by decide) rfl ?_
          refine x_goto k218_193 (t := 48) rfl ?_
          refine x_ls (l := [(0, .ref 256), (1, vi x1), (2, vi x2), (3, vi x3), (4, vi x4), (5, vi x5), (6, vi (x6 + 1))]) (show ([0, 1, 2, 3, 4, 5, 6] : List Nat).Nodup from by decide +kernel) ⟨rfl, rfl, rfl, rfl, rfl, rfl, rfl, trivial⟩ ?_
          exact ih_48 s x1 x2 x3 x4 x5 (x6 + 1) hG f (by first | exact x_rb b_x1 rfl rfl | exact ⟨by omega, by omega⟩) (by first | exact x_rb b_x2 rfl rfl | exact ⟨by omega, by omega⟩) (by first | exact x_rb b_x3 rfl rfl | exact ⟨by omega, by omega⟩) (by first | exact x_rb b_x4 rfl rfl | exact ⟨by omega, by omega⟩) (by first | exact x_rb b_x5 rfl rfl | exact ⟨by omega, by omega⟩) ⟨by omega, by omega⟩ (by omega) (by omega)
        · skip
          refine x_A k218_170 (fun _ => rfl) ?_
          refine x_if_lt k218_172 (t := 182) rfl (by first | exact x_rb b_x4 rfl rfl | exact ⟨by omega, by omega⟩) (fun c1127 => ?_) (fun c1127 => ?_)
          · skip
            refine x_A k218_182 (fun _ => rfl) ?_
            refine x_istore k218_184 (ls' := [(4, vi x6), (9, vi x7), (0, .ref 256), (1, vi x1), (2, vi x2), (3, vi x3), (5, vi x5), (6, vi x6), (7, vi x7), (8, vi x8)]) (by decide) rfl ?_
            refine x_A k218_186 (fun _ => rfl) ?_
            refine x_istore k218_188 (ls' := [(5, vi x7), (4, vi x6), (9, vi x7), (0, .ref 256), (1, vi x1), (2, vi x2), (3, vi x3), (6, vi x6), (7, vi x7), (8, vi x8)]) (by decide) rfl ?_
            refine x_iinc k218_190 (ls' := [(6, vi (x6 + 1)), (5, vi x7), (4, vi x6), (9, vi x7), (0, .ref 256), (1, vi x1), (2, vi x2), (3, vi x3), (7, vi x7), (8, vi x8)]) rfl (by decide) rfl ?_
            refine x_goto k218_193 (t := 48) rfl ?_
            refine x_ls (l := [(0, .ref 256), (1, vi x1), (2, vi x2), (3, vi x3), (4, vi x6), (5, vi x7), (6, vi (x6 + 1))]) (show ([0, 1, 2, 3, 4, 5, 6] : List Nat).Nodup from by decide +kernel) ⟨rfl, rfl, rfl, rfl, rfl, rfl, rfl, trivial⟩ ?_
            exact ih_48 s x1 x2 x3 x6 x7 (x6 + 1) hG f (by first | exact x_rb b_x1 rfl rfl | exact ⟨by omega, by omega⟩) (by first | exact x_rb b_x2 rfl rfl | exact ⟨by omega, by omega⟩) (by first | exact x_rb b_x3 rfl rfl | exact ⟨by omega, by omega⟩) (by first | exact x_rb b_x6 rfl rfl | exact ⟨by omega, by omega⟩) (by first | exact x_rb b_x7 rfl rfl | exact ⟨by omega, by omega⟩) ⟨by omega, by omega⟩ (by omega) (by omega)
          · skip
            refine x_A k218_175 (fun _ => rfl) ?_
            refine x_A k218_177 (fun _ => rfl) ?_
            refine x_ic_ge k218_179 (t := 190) rfl (by first | exact x_rb b_x7 rfl rfl | exact ⟨by omega, by omega⟩) (by first | exact x_rb b_x5 rfl rfl | exact ⟨by omega, by omega⟩) (fun c1128 => ?_) (fun c1128 => ?_)
            · skip
              refine x_iinc k218_190 (ls' := [(6, vi (x6 + 1)), (9, vi x7), (0, .ref 256), (1, vi x1), (2, vi x2), (3, vi x3), (4, vi x4), (5, vi x5), (7, vi x7), (8, vi x8)]) rfl (by decide) rfl ?_
              refine x_goto k218_193 (t := 48) rfl ?_
              refine x_ls (l := [(0, .ref 256), (1, vi x1), (2, vi x2), (3, vi x3), (4, vi x4), (5, vi x5), (6, vi (x6 + 1))]) (show ([0, 1, 2, 3, 4, 5, 6] : List Nat).Nodup from by decide +kernel) ⟨rfl, rfl, rfl, rfl, rfl, rfl, rfl, trivial⟩ ?_
              exact ih_48 s x1 x2 x3 x4 x5 (x6 + 1) hG f (by first | exact x_rb b_x1 rfl rfl | exact ⟨by omega, by omega⟩) (by first | exact x_rb b_x2 rfl rfl | exact ⟨by omega, by omega⟩) (by first | exact x_rb b_x3 rfl rfl | exact ⟨by omega, by omega⟩) (by first | exact x_rb b_x4 rfl rfl | exact ⟨by omega, by omega⟩) (by first | exact x_rb b_x5 rfl rfl | exact ⟨by omega, by omega⟩) ⟨by omega, by omega⟩ (by omega) (by omega)
            · skip
              refine x_A k218_182 (fun _ => rfl) ?_
              refine x_istore k218_184 (ls' := [(4, vi x6), (9, vi x7), (0, .ref 256), (1, vi x1), (2, vi x2), (3, vi x3), (5, vi x5), (6, vi x6), (7, vi x7), (8, vi x8)]) (by decide) rfl ?_
              refine x_A k218_186 (fun _ => rfl) ?_
              refine x_istore k218_188 (ls' := [(5, vi x7), (4, vi x6), (9, vi x7), (0, .ref 256), (1, vi x1), (2, vi x2), (3, vi x3), (6, vi x6), (7, vi x7), (8, vi x8)]) (by decide) rfl ?_
              refine x_iinc k218_190 (ls' := [(6, vi (x6 + 1)), (5, vi x7), (4, vi x6), (9, vi x7), (0, .ref 256), (1, vi x1), (2, vi x2), (3, vi x3), (7, vi x7), (8, vi x8)]) rfl (by decide) rfl ?_
              refine x_goto k218_193 (t := 48) rfl ?_
              refine x_ls (l := [(0, .ref 256), (1, vi x1), (2, vi x2), (3, vi x3), (4, vi x6), (5, vi x7), (6, vi (x6 + 1))]) (show ([0, 1, 2, 3, 4, 5, 6] : List Nat).Nodup from by decide +kernel) ⟨rfl, rfl, rfl, rfl, rfl, rfl, rfl, trivial⟩ ?_
              exact ih_48 s x1 x2 x3 x6 x7 (x6 + 1) hG f (by first | exact x_rb b_x1 rfl rfl | exact ⟨by omega, by omega⟩) (by first | exact x_rb b_x2 rfl rfl | exact ⟨by omega, by omega⟩) (by first | exact x_rb b_x3 rfl rfl | exact ⟨by omega, by omega⟩) (by first | exact x_rb b_x6 rfl rfl | exact ⟨by omega, by omega⟩) (by first | exact x_rb b_x7 rfl rfl | exact ⟨by omega, by omega⟩) ⟨by omega, by omega⟩ (by omega) (by omega)
    · skip
      refine x_A k218_75 (fun _ => rfl) ?_
      refine x_A k218_77 (fun _ => rfl) ?_
      refine x_A k218_78 (fun _ => rfl) ?_
      refine x_A k218_80 (fun _ => rfl) ?_
      refine x_callV k218_81 (y := 169) (n := 2) (w0 := 1) (w1 := 2) (as := [vi x9, vi x1]) (rest := [vi x7]) (by decide +kernel) (q := 256) (nq := 62) (kq := 15) ⟨by decide, rfl⟩ rfl rfl rfl rfl (xe_mono (C_X11_shows_256 s hG x9 (by first | exact x_rb b_x9 rfl rfl | exact ⟨by omega, by omega⟩) x1 (by first | exact x_rb b_x1 rfl rfl | exact ⟨by omega, by omega⟩)) ?_)
      rintro s1130 v ⟨-, t_s1130, z1129, rfl, g_z1129⟩
      rw [t_s1130.nil]
      show xe none 218 84 [(0, .ref 256), (1, vi x1), (2, vi x2), (3, vi x3), (4, vi x4), (5, vi x5), (6, vi x6), (7, vi x7), (8, vi x8), (9, vi x9)] [vi z1129, vi x7] s 0 0 _
      refine x_if_eq k218_84 (t := 102) rfl (by first | exact x_rbe e_z1129 g_z1129 rfl rfl | exact x_rb g_z1129 rfl rfl | exact ⟨by omega, by omega⟩) (fun c1131 => ?_) (fun c1131 => ?_)
      · skip
        refine x_A k218_102 (fun _ => rfl) ?_
        refine x_iadd k218_103 ?_
        refine x_top (fun z1132 e_z1132 => ?_)
        refine x_istore k218_104 (ls' := [(7, vi z1132), (0, .ref 256), (1, vi x1), (2, vi x2), (3, vi x3), (4, vi x4), (5, vi x5), (6, vi x6), (8, vi x8), (9, vi x9)]) (by decide) rfl ?_
        refine x_A k218_106 (fun _ => rfl) ?_
        refine x_A k218_108 (fun _ => rfl) ?_
        refine x_A k218_109 (fun _ => rfl) ?_
        refine x_A k218_111 (fun _ => rfl) ?_
        refine x_callV k218_112 (y := 169) (n := 2) (w0 := 1) (w1 := 2) (as := [vi x9, vi x1]) (rest := [vi x8]) (by decide +kernel) (q := 256) (nq := 62) (kq := 15) ⟨by decide, rfl⟩ rfl rfl rfl rfl (xe_mono (C_X11_shows_256 s hG x9 (by first | exact x_rb b_x9 rfl rfl | exact ⟨by omega, by omega⟩) x1 (by first | exact x_rb b_x1 rfl rfl | exact ⟨by omega, by omega⟩)) ?_)
        rintro s1134 v ⟨-, t_s1134, z1133, rfl, g_z1133⟩
        rw [t_s1134.nil]
        show xe none 218 115 [(7, vi z1132), (0, .ref 256), (1, vi x1), (2, vi x2), (3, vi x3), (4, vi x4), (5, vi x5), (6, vi x6), (8, vi x8), (9, vi x9)] [vi z1133, vi x8] s 0 0 _
        refine x_if_eq k218_115 (t := 133) rfl (by first | exact x_rbe e_z1133 g_z1133 rfl rfl | exact x_rb g_z1133 rfl rfl | exact ⟨by omega, by omega⟩) (fun c1135 => ?_) (fun c1135 => ?_)
        · skip
          refine x_A k218_133 (fun _ => rfl) ?_
          refine x_iadd k218_134 ?_
          refine x_top (fun z1136 e_z1136 => ?_)
          refine x_istore k218_135 (ls' := [(8, vi z1136), (7, vi z1132), (0, .ref 256), (1, vi x1), (2, vi x2), (3, vi x3), (4, vi x4), (5, vi x5), (6, vi x6), (9, vi x9)]) (by decide) rfl ?_
          refine x_iinc k218_137 (ls' := [(9, vi (x9 + 1)), (8, vi z1136), (7, vi z1132), (0, .ref 256), (1, vi x1), (2, vi x2), (3, vi x3), (4, vi x4), (5, vi x5), (6, vi x6)]) rfl (by decide) rfl ?_
          refine x_goto k218_140 (t := 66) rfl ?_
          refine x_ls (l := [(0, .ref 256), (1, vi x1), (2, vi x2), (3, vi x3), (4, vi x4), (5, vi x5), (6, vi x6), (7, vi z1132), (8, vi z1136), (9, vi (x9 + 1))]) (show ([0, 1, 2, 3, 4, 5, 6, 7, 8, 9] : List Nat).Nodup from by decide +kernel) ⟨rfl, rfl, rfl, rfl, rfl, rfl, rfl, rfl, rfl, rfl, trivial⟩ ?_
          exact ih s x1 x2 x3 x4 x5 x6 z1132 z1136 (x9 + 1) hG f (by first | exact x_rb b_x1 rfl rfl | exact ⟨by omega, by omega⟩) (by first | exact x_rb b_x2 rfl rfl | exact ⟨by omega, by omega⟩) (by first | exact x_rb b_x3 rfl rfl | exact ⟨by omega, by omega⟩) (by first | exact x_rb b_x4 rfl rfl | exact ⟨by omega, by omega⟩) (by first | exact x_rb b_x5 rfl rfl | exact ⟨by omega, by omega⟩) (by first | exact x_rb b_x6 rfl rfl | exact ⟨by omega, by omega⟩) (by first | exact x_rbe e_z1132 g_z1132 rfl rfl | exact x_rb g_z1132 rfl rfl | exact ⟨by omega, by omega⟩) (by first | exact x_rbe e_z1136 g_z1136 rfl rfl | exact x_rb g_z1136 rfl rfl | exact ⟨by omega, by omega⟩) ⟨by omega, by omega⟩ (by omega) (by omega) (by omega) (by omega) (by omega)
        · skip
          refine x_A k218_118 (fun _ => rfl) ?_
          refine x_A k218_119 (fun _ => rfl) ?_
          refine x_A k218_121 (fun _ => rfl) ?_
          refine x_callV k218_123 (y := 169) (n := 2) (w0 := 1) (w1 := 2) (as := [vi x9, vi x6]) (rest := [vi x8]) (by decide +kernel) (q := 256) (nq := 62) (kq := 15) ⟨by decide, rfl⟩ rfl rfl rfl rfl (xe_mono (C_X11_shows_256 s hG x9 (by first | exact x_rb b_x9 rfl rfl | exact ⟨by omega, by omega⟩) x6 (by first | exact x_rb b_x6 rfl rfl | exact ⟨by omega, by omega⟩)) ?_)
          rintro s1138 v ⟨-, t_s1138, z1137, rfl, g_z1137⟩
          rw [t_s1138.nil]
          show xe none 218 126 [(7, vi z1132), (0, .ref 256), (1, vi x1), (2, vi x2), (3, vi x3), (4, vi x4), (5, vi x5), (6, vi x6), (8, vi x8), (9, vi x9)] [vi z1137, vi x8] s 0 0 _
          refine x_if_ne k218_126 (t := 133) rfl (by first | exact x_rbe e_z1137 g_z1137 rfl rfl | exact x_rb g_z1137 rfl rfl | exact ⟨by omega, by omega⟩) (fun c1139 => ?_) (fun c1139 => ?_)
          · skip
            refine x_A k218_133 (fun _ => rfl) ?_
            refine x_iadd k218_134 ?_
            refine x_top (fun z1140 e_z1140 => ?_)
            refine x_istore k218_135 (ls' := [(8, vi z1140), (7, vi z1132), (0, .ref 256), (1, vi x1), (2, vi x2), (3, vi x3), (4, vi x4), (5, vi x5), (6, vi x6), (9, vi x9)]) (by decide) rfl ?_
            refine x_iinc k218_137 (ls' := [(9, vi (x9 + 1)), (8, vi z1140), (7, vi z1132), (0, .ref 256), (1, vi x1), (2, vi x2), (3, vi x3), (4, vi x4), (5, vi x5), (6, vi x6)]) rfl (by decide) rfl ?_
            refine x_goto k218_140 (t := 66) rfl ?_
            refine x_ls (l := [(0, .ref 256), (1, vi x1), (2, vi x2), (3, vi x3), (4, vi x4), (5, vi x5), (6, vi x6), (7, vi z1132), (8, vi z1140), (9, vi (x9 + 1))]) (show ([0, 1, 2, 3, 4, 5, 6, 7, 8, 9] : List Nat).Nodup from by decide +kernel) ⟨rfl, rfl, rfl, rfl, rfl, rfl, rfl, rfl, rfl, rfl, trivial⟩ ?_
            exact ih s x1 x2 x3 x4 x5 x6 z1132 z1140 (x9 + 1) hG f (by first | exact x_rb b_x1 rfl rfl | exact ⟨by omega, by omega⟩) (by first | exact x_rb b_x2 rfl rfl | exact ⟨by omega, by omega⟩) (by first | exact x_rb b_x3 rfl rfl | exact ⟨by omega, by omega⟩) (by first | exact x_rb b_x4 rfl rfl | exact ⟨by omega, by omega⟩) (by first | exact x_rb b_x5 rfl rfl | exact ⟨by omega, by omega⟩) (by first | exact x_rb b_x6 rfl rfl | exact ⟨by omega, by omega⟩) (by first | exact x_rbe e_z1132 g_z1132 rfl rfl | exact x_rb g_z1132 rfl rfl | exact ⟨by omega, by omega⟩) (by first | exact x_rbe e_z1140 g_z1140 rfl rfl | exact x_rb g_z1140 rfl rfl | exact ⟨by omega, by omega⟩) ⟨by omega, by omega⟩ (by omega) (by omega) (by omega) (by omega) (by omega)
          · skip
            refine x_A k218_129 (fun _ => rfl) ?_
            refine x_goto k218_130 (t := 134) rfl ?_
            refine x_iadd k218_134 ?_
            refine x_top (fun z1141 e_z1141 => ?_)
            refine x_istore k218_135 (ls' := [(8, vi z1141), (7, vi z1132), (0, .ref 256), (1, vi x1), (2, vi x2), (3, vi x3), (4, vi x4), (5, vi x5), (6, vi x6), (9, vi x9)]) (by decide) rfl ?_
            refine x_iinc k218_137 (ls' := [(9, vi (x9 + 1)), (8, vi z1141), (7, vi z1132), (0, .ref 256), (1, vi x1), (2, vi x2), (3, vi x3), (4, vi x4), (5, vi x5), (6, vi x6)]) rfl (by decide) rfl ?_
            refine x_goto k218_140 (t := 66) rfl ?_
            refine x_ls (l := [(0, .ref 256), (1, vi x1), (2, vi x2), (3, vi x3), (4, vi x4), (5, vi x5), (6, vi x6), (7, vi z1132), (8, vi z1141), (9, vi (x9 + 1))]) (show ([0, 1, 2, 3, 4, 5, 6, 7, 8, 9] : List Nat).Nodup from by decide +kernel) ⟨rfl, rfl, rfl, rfl, rfl, rfl, rfl, rfl, rfl, rfl, trivial⟩ ?_
            exact ih s x1 x2 x3 x4 x5 x6 z1132 z1141 (x9 + 1) hG f (by first | exact x_rb b_x1 rfl rfl | exact ⟨by omega, by omega⟩) (by first | exact x_rb b_x2 rfl rfl | exact ⟨by omega, by omega⟩) (by first | exact x_rb b_x3 rfl rfl | exact ⟨by omega, by omega⟩) (by first | exact x_rb b_x4 rfl rfl | exact ⟨by omega, by omega⟩) (by first | exact x_rb b_x5 rfl rfl | exact ⟨by omega, by omega⟩) (by first | exact x_rb b_x6 rfl rfl | exact ⟨by omega, by omega⟩) (by first | exact x_rbe e_z1132 g_z1132 rfl rfl | exact x_rb g_z1132 rfl rfl | exact ⟨by omega, by omega⟩) (by first | exact x_rbe e_z1141 g_z1141 rfl rfl | exact x_rb g_z1141 rfl rfl | exact ⟨by omega, by omega⟩) ⟨by omega, by omega⟩ (by omega) (by omega) (by omega) (by omega) (by omega)
      · skip
        refine x_A k218_87 (fun _ => rfl) ?_
        refine x_A k218_88 (fun _ => rfl) ?_
        refine x_A k218_90 (fun _ => rfl) ?_
        refine x_callV k218_92 (y := 169) (n := 2) (w0 := 1) (w1 := 2) (as := [vi x9, vi x6]) (rest := [vi x7]) (by decide +kernel) (q := 256) (nq := 62) (kq := 15) ⟨by decide, rfl⟩ rfl rfl rfl rfl (xe_mono (C_X11_shows_256 s hG x9 (by first | exact x_rb b_x9 rfl rfl | exact ⟨by omega, by omega⟩) x6 (by first | exact x_rb b_x6 rfl rfl | exact ⟨by omega, by omega⟩)) ?_)
        rintro s1143 v ⟨-, t_s1143, z1142, rfl, g_z1142⟩
        rw [t_s1143.nil]
        show xe none 218 95 [(0, .ref 256), (1, vi x1), (2, vi x2), (3, vi x3), (4, vi x4), (5, vi x5), (6, vi x6), (7, vi x7), (8, vi x8), (9, vi x9)] [vi z1142, vi x7] s 0 0 _
        refine x_if_eq k218_95 (t := 102) rfl (by first | exact x_rbe e_z1142 g_z1142 rfl rfl | exact x_rb g_z1142 rfl rfl | exact ⟨by omega, by omega⟩) (fun c1144 => ?_) (fun c1144 => ?_)
        · skip
          refine x_A k218_102 (fun _ => rfl) ?_
          refine x_iadd k218_103 ?_
          refine x_top (fun z1145 e_z1145 => ?_)
          refine x_istore k218_104 (ls' := [(7, vi z1145), (0, .ref 256), (1, vi x1), (2, vi x2), (3, vi x3), (4, vi x4), (5, vi x5), (6, vi x6), (8, vi x8), (9, vi x9)]) (by decide) rfl ?_
          refine x_A k218_106 (fun _ => rfl) ?_
          refine x_A k218_108 (fun _ => rfl) ?_
          refine x_A k218_109 (fun _ => rfl) ?_
          refine x_A k218_111 (fun _ => rfl) ?_
          refine x_callV k218_112 (y := 169) (n := 2) (w0 := 1) (w1 := 2) (as := [vi x9, vi x1]) (rest := [vi x8]) (by decide +kernel) (q := 256) (nq := 62) (kq := 15) ⟨by decide, rfl⟩ rfl rfl rfl rfl (xe_mono (C_X11_shows_256 s hG x9 (by first | exact x_rb b_x9 rfl rfl | exact ⟨by omega, by omega⟩) x1 (by first | exact x_rb b_x1 rfl rfl | exact ⟨by omega, by omega⟩)) ?_)
          rintro s1147 v ⟨-, t_s1147, z1146, rfl, g_z1146⟩
          rw [t_s1147.nil]
          show xe none 218 115 [(7, vi z1145), (0, .ref 256), (1, vi x1), (2, vi x2), (3, vi x3), (4, vi x4), (5, vi x5), (6, vi x6), (8, vi x8), (9, vi x9)] [vi z1146, vi x8] s 0 0 _
          refine x_if_eq k218_115 (t := 133) rfl (by first | exact x_rbe e_z1146 g_z1146 rfl rfl | exact x_rb g_z1146 rfl rfl | exact ⟨by omega, by omega⟩) (fun c1148 => ?_) (fun c1148 => ?_)
          · skip
            refine x_A k218_133 (fun _ => rfl) ?_
            refine x_iadd k218_134 ?_
            refine x_top (fun z1149 e_z1149 => ?_)
            refine x_istore k218_135 (ls' := [(8, vi z1149), (7, vi z1145), (0, .ref 256), (1, vi x1), (2, vi x2), (3, vi x3), (4, vi x4), (5, vi x5), (6, vi x6), (9, vi x9)]) (by decide) rfl ?_
            refine x_iinc k218_137 (ls' := [(9, vi (x9 + 1)), (8, vi z1149), (7, vi z1145), (0, .ref 256), (1, vi x1), (2, vi x2), (3, vi x3), (4, vi x4), (5, vi x5), (6, vi x6)]) rfl (by decide) rfl ?_
            refine x_goto k218_140 (t := 66) rfl ?_
            refine x_ls (l := [(0, .ref 256), (1, vi x1), (2, vi x2), (3, vi x3), (4, vi x4), (5, vi x5), (6, vi x6), (7, vi z1145), (8, vi z1149), (9, vi (x9 + 1))]) (show ([0, 1, 2, 3, 4, 5, 6, 7, 8, 9] : List Nat).Nodup from by decide +kernel) ⟨rfl, rfl, rfl, rfl, rfl, rfl, rfl, rfl, rfl, rfl, trivial⟩ ?_
            exact ih s x1 x2 x3 x4 x5 x6 z1145 z1149 (x9 + 1) hG f (by first | exact x_rb b_x1 rfl rfl | exact ⟨by omega, by omega⟩) (by first | exact x_rb b_x2 rfl rfl | exact ⟨by omega, by omega⟩) (by first | exact x_rb b_x3 rfl rfl | exact ⟨by omega, by omega⟩) (by first | exact x_rb b_x4 rfl rfl | exact ⟨by omega, by omega⟩) (by first | exact x_rb b_x5 rfl rfl | exact ⟨by omega, by omega⟩) (by first | exact x_rb b_x6 rfl rfl | exact ⟨by omega, by omega⟩) (by first | exact x_rbe e_z1145 g_z1145 rfl rfl | exact x_rb g_z1145 rfl rfl | exact ⟨by omega, by omega⟩) (by first | exact x_rbe e_z1149 g_z1149 rfl rfl | exact x_rb g_z1149 rfl rfl | exact ⟨by omega, by omega⟩) ⟨by omega, by omega⟩ (by omega) (by omega) (by omega) (by omega) (by omega)
          · skip
            refine x_A k218_118 (fun _ => rfl) ?_
            refine x_A k218_119 (fun _ => rfl) ?_
            refine x_A k218_121 (fun _ => rfl) ?_
            refine x_callV k218_123 (y := 169) (n := 2) (w0 := 1) (w1 := 2) (as := [vi x9, vi x6]) (rest := [vi x8]) (by decide +kernel) (q := 256) (nq := 62) (kq := 15) ⟨by decide, rfl⟩ rfl rfl rfl rfl (xe_mono (C_X11_shows_256 s hG x9 (by first | exact x_rb b_x9 rfl rfl | exact ⟨by omega, by omega⟩) x6 (by first | exact x_rb b_x6 rfl rfl | exact ⟨by omega, by omega⟩)) ?_)
            rintro s1151 v ⟨-, t_s1151, z1150, rfl, g_z1150⟩
            rw [t_s1151.nil]
            show xe none 218 126 [(7, vi z1145), (0, .ref 256), (1, vi x1), (2, vi x2), (3, vi x3), (4, vi x4), (5, vi x5), (6, vi x6), (8, vi x8), (9, vi x9)] [vi z1150, vi x8] s 0 0 _
            refine x_if_ne k218_126 (t := 133) rfl (by first | exact x_rbe e_z1150 g_z1150 rfl rfl | exact x_rb g_z1150 rfl rfl | exact ⟨by omega, by omega⟩) (fun c1152 => ?_) (fun c1152 => ?_)
            · skip
              refine x_A k218_133 (fun _ => rfl) ?_
              refine x_iadd k218_134 ?_
              refine x_top (fun z1153 e_z1153 => ?_)
              refine x_istore k218_135 (ls' := [(8, vi z1153), (7, vi z1145), (0, .ref 256), (1, vi x1), (2, vi x2), (3, vi x3), (4, vi x4), (5, vi x5), (6, vi x6), (9, vi x9)]) (by decide) rfl ?_
              refine x_iinc k218_137 (ls' := [(9, vi (x9 + 1)), (8, vi z1153), (7, vi z1145), (0, .ref 256), (1, vi x1), (2, vi x2), (3, vi x3), (4, vi x4), (5, vi x5), (6, vi x6)]) rfl (by decide) rfl ?_
              refine x_goto k218_140 (t := 66) rfl ?_
              refine x_ls (l := [(0, .ref 256), (1, vi x1), (2, vi x2), (3, vi x3), (4, vi x4), (5, vi x5), (6, vi x6), (7, vi z1145), (8, vi z1153), (9, vi (x9 + 1))]) (show ([0, 1, 2, 3, 4, 5, 6, 7, 8, 9] : List Nat).Nodup from by decide +kernel) ⟨rfl, rfl, rfl, rfl, rfl, rfl, rfl, rfl, rfl, rfl, trivial⟩ ?_
              exact ih s x1 x2 x3 x4 x5 x6 z1145 z1153 (x9 + 1) hG f (by first | exact x_rb b_x1 rfl rfl | exact ⟨by omega, by omega⟩) (by first | exact x_rb b_x2 rfl rfl | exact ⟨by omega, by omega⟩) (by first | exact x_rb b_x3 rfl rfl | exact ⟨by omega, by omega⟩) (by first | exact x_rb b_x4 rfl rfl | exact ⟨by omega, by omega⟩) (by first | exact x_rb b_x5 rfl rfl | exact ⟨by omega, by omega⟩) (by first | exact x_rb b_x6 rfl rfl | exact ⟨by omega, by omega⟩) (by first | exact x_rbe e_z1145 g_z1145 rfl rfl | exact x_rb g_z1145 rfl rfl | exact ⟨by omega, by omega⟩) (by first | exact x_rbe e_z1153 g_z1153 rfl rfl | exact x_rb g_z1153 rfl rfl | exact ⟨by omega, by omega⟩) ⟨by omega, by omega⟩ (by omega) (by omega) (by omega) (by omega) (by omega)
            · skip
              refine x_A k218_129 (fun _ => rfl) ?_
              refine x_goto k218_130 (t := 134) rfl ?_
              refine x_iadd k218_134 ?_
              refine x_top (fun z1154 e_z1154 => ?_)
              refine x_istore k218_135 (ls' := [(8, vi z1154), (7, vi z1145), (0, .ref 256), (1, vi x1), (2, vi x2), (3, vi x3), (4, vi x4), (5, vi x5), (6, vi x6), (9, vi x9)]) (by decide) rfl ?_
              refine x_iinc k218_137 (ls' := [(9, vi (x9 + 1)), (8, vi z1154), (7, vi z1145), (0, .ref 256), (1, vi x1), (2, vi x2), (3, vi x3), (4, vi x4), (5, vi x5), (6, vi x6)]) rfl (by decide) rfl ?_
              refine x_goto k218_140 (t := 66) rfl ?_
              refine x_ls (l := [(0, .ref 256), (1, vi x1), (2, vi x2), (3, vi x3), (4, vi x4), (5, vi x5), (6, vi x6), (7, vi z1145), (8, vi z1154), (9, vi (x9 + 1))]) (show ([0, 1, 2, 3, 4, 5, 6, 7, 8, 9] : List Nat).Nodup from by decide +kernel) ⟨rfl, rfl, rfl, rfl, rfl, rfl, rfl, rfl, rfl, rfl, trivial⟩ ?_
              exact ih s x1 x2 x3 x4 x5 x6 z1145 z1154 (x9 + 1) hG f (by first | exact x_rb b_x1 rfl rfl | exact ⟨by omega, by omega⟩) (by first | exact x_rb b_x2 rfl rfl | exact ⟨by omega, by omega⟩) (by first | exact x_rb b_x3 rfl rfl | exact ⟨by omega, by omega⟩) (by first | exact x_rb b_x4 rfl rfl | exact ⟨by omega, by omega⟩) (by first | exact x_rb b_x5 rfl rfl | exact ⟨by omega, by omega⟩) (by first | exact x_rb b_x6 rfl rfl | exact ⟨by omega, by omega⟩) (by first | exact x_rbe e_z1145 g_z1145 rfl rfl | exact x_rb g_z1145 rfl rfl | exact ⟨by omega, by omega⟩) (by first | exact x_rbe e_z1154 g_z1154 rfl rfl | exact x_rb g_z1154 rfl rfl | exact ⟨by omega, by omega⟩) ⟨by omega, by omega⟩ (by omega) (by omega) (by omega) (by omega) (by omega)
        · skip
          refine x_A k218_98 (fun _ => rfl) ?_
          refine x_goto k218_99 (t := 103) rfl ?_
          refine x_iadd k218_103 ?_
          refine x_top (fun z1155 e_z1155 => ?_)
          refine x_istore k218_104 (ls' := [(7, vi z1155), (0, .ref 256), (1, vi x1), (2, vi x2), (3, vi x3), (4, vi x4), (5, vi x5), (6, vi x6), (8, vi x8), (9, vi x9)]) (by decide) rfl ?_
          refine x_A k218_106 (fun _ => rfl) ?_
          refine x_A k218_108 (fun _ => rfl) ?_
          refine x_A k218_109 (fun _ => rfl) ?_
          refine x_A k218_111 (fun _ => rfl) ?_
          refine x_callV k218_112 (y := 169) (n := 2) (w0 := 1) (w1 := 2) (as := [vi x9, vi x1]) (rest := [vi x8]) (by decide +kernel) (q := 256) (nq := 62) (kq := 15) ⟨by decide, rfl⟩ rfl rfl rfl rfl (xe_mono (C_X11_shows_256 s hG x9 (by first | exact x_rb b_x9 rfl rfl | exact ⟨by omega, by omega⟩) x1 (by first | exact x_rb b_x1 rfl rfl | exact ⟨by omega, by omega⟩)) ?_)
          rintro s1157 v ⟨-, t_s1157, z1156, rfl, g_z1156⟩
          rw [t_s1157.nil]
          show xe none 218 115 [(7, vi z1155), (0, .ref 256), (1, vi x1), (2, vi x2), (3, vi x3), (4, vi x4), (5, vi x5), (6, vi x6), (8, vi x8), (9, vi x9)] [vi z1156, vi x8] s 0 0 _
          refine x_if_eq k218_115 (t := 133) rfl (by first | exact x_rbe e_z1156 g_z1156 rfl rfl | exact x_rb g_z1156 rfl rfl | exact ⟨by omega, by omega⟩) (fun c1158 => ?_) (fun c1158 => ?_)
          · skip
            refine x_A k218_133 (fun _ => rfl) ?_
            refine x_iadd k218_134 ?_
            refine x_top (fun z1159 e_z1159 => ?_)
            refine x_istore k218_135 (ls' := [(8, vi z1159), (7, vi z1155), (0, .ref 256), (1, vi x1), (2, vi x2), (3, vi x3), (4, vi x4), (5, vi x5), (6, vi x6), (9, vi x9)]) (by decide) rfl ?_
            refine x_iinc k218_137 (ls' := [(9, vi (x9 + 1)), (8, vi z1159), (7, vi z1155), (0, .ref 256), (1, vi x1), (2, vi x2), (3, vi x3), (4, vi x4), (5, vi x5), (6, vi x6)]) rfl (by decide) rfl ?_
            refine x_goto k218_140 (t := 66) rfl ?_
            refine x_ls (l := [(0, .ref 256), (1, vi x1), (2, vi x2), (3, vi x3), (4, vi x4), (5, vi x5), (6, vi x6), (7, vi z1155), (8, vi z1159), (9, vi (x9 + 1))]) (show ([0, 1, 2, 3, 4, 5, 6, 7, 8, 9] : List Nat).Nodup from by decide +kernel) ⟨rfl, rfl, rfl, rfl, rfl, rfl, rfl, rfl, rfl, rfl, trivial⟩ ?_
            exact ih s x1 x2 x3 x4 x5 x6 z1155 z1159 (x9 + 1) hG f (by first | exact x_rb b_x1 rfl rfl | exact ⟨by omega, by omega⟩) (by first | exact x_rb b_x2 rfl rfl | exact ⟨by omega, by omega⟩) (by first | exact x_rb b_x3 rfl rfl | exact ⟨by omega, by omega⟩) (by first | exact x_rb b_x4 rfl rfl | exact ⟨by omega, by omega⟩) (by first | exact x_rb b_x5 rfl rfl | exact ⟨by omega, by omega⟩) (by first | exact x_rb b_x6 rfl rfl | exact ⟨by omega, by omega⟩) (by first | exact x_rbe e_z1155 g_z1155 rfl rfl | exact x_rb g_z1155 rfl rfl | exact ⟨by omega, by omega⟩) (by first | exact x_rbe e_z1159 g_z1159 rfl rfl | exact x_rb g_z1159 rfl rfl | exact ⟨by omega, by omega⟩) ⟨by omega, by omega⟩ (by omega) (by omega) (by omega) (by omega) (by omega)
          · skip
            refine x_A k218_118 (fun _ => rfl) ?_
            refine x_A k218_119 (fun _ => rfl) ?_
            refine x_A k218_121 (fun _ => rfl) ?_
            refine x_callV k218_123 (y := 169) (n := 2) (w0 := 1) (w1 := 2) (as := [vi x9, vi x6]) (rest := [vi x8]) (by decide +kernel) (q := 256) (nq := 62) (kq := 15) ⟨by decide, rfl⟩ rfl rfl rfl rfl (xe_mono (C_X11_shows_256 s hG x9 (by first | exact x_rb b_x9 rfl rfl | exact ⟨by omega, by omega⟩) x6 (by first | exact x_rb b_x6 rfl rfl | exact ⟨by omega, by omega⟩)) ?_)
            rintro s1161 v ⟨-, t_s1161, z1160, rfl, g_z1160⟩
            rw [t_s1161.nil]
            show xe none 218 126 [(7, vi z1155), (0, .ref 256), (1, vi x1), (2, vi x2), (3, vi x3), (4, vi x4), (5, vi x5), (6, vi x6), (8, vi x8), (9, vi x9)] [vi z1160, vi x8] s 0 0 _
            refine x_if_ne k218_126 (t := 133) rfl (by first | exact x_rbe e_z1160 g_z1160 rfl rfl | exact x_rb g_z1160 rfl rfl | exact ⟨by omega, by omega⟩) (fun c1162 => ?_) (fun c1162 => ?_)
            · skip
              refine x_A k218_133 (fun _ => rfl) ?_
              refine x_iadd k218_134 ?_
              refine x_top (fun z1163 e_z1163 => ?_)
              refine x_istore k218_135 (ls' := [(8, vi z1163), (7, vi z1155), (0, .ref 256), (1, vi x1), (2, vi x2), (3, vi x3), (4, vi x4), (5, vi x5), (6, vi x6), (9, vi x9)]) (by decide) rfl ?_
              refine x_iinc k218_137 (ls' := [(9, vi (x9 + 1)), (8, vi z1163), (7, vi z1155), (0, .ref 256), (1, vi x1), (2, vi x2), (3, vi x3), (4, vi x4), (5, vi x5), (6, vi x6)]) rfl (by decide) rfl ?_
              refine x_goto k218_140 (t := 66) rfl ?_
              refine x_ls (l := [(0, .ref 256), (1, vi x1), (2, vi x2), (3, vi x3), (4, vi x4), (5, vi x5), (6, vi x6), (7, vi z1155), (8, vi z1163), (9, vi (x9 + 1))]) (show ([0, 1, 2, 3, 4, 5, 6, 7, 8, 9] : List Nat).Nodup from by decide +kernel) ⟨rfl, rfl, rfl, rfl, rfl, rfl, rfl, rfl, rfl, rfl, trivial⟩ ?_
              exact ih s x1 x2 x3 x4 x5 x6 z1155 z1163 (x9 + 1) hG f (by first | exact x_rb b_x1 rfl rfl | exact ⟨by omega, by omega⟩) (by first | exact x_rb b_x2 rfl rfl | exact ⟨by omega, by omega⟩) (by first | exact x_rb b_x3 rfl rfl | exact ⟨by omega, by omega⟩) (by first | exact x_rb b_x4 rfl rfl | exact ⟨by omega, by omega⟩) (by first | exact x_rb b_x5 rfl rfl | exact ⟨by omega, by omega⟩) (by first | exact x_rb b_x6 rfl rfl | exact ⟨by omega, by omega⟩) (by first | exact x_rbe e_z1155 g_z1155 rfl rfl | exact x_rb g_z1155 rfl rfl | exact ⟨by omega, by omega⟩) (by first | exact x_rbe e_z1163 g_z1163 rfl rfl | exact x_rb g_z1163 rfl rfl | exact ⟨by omega, by omega⟩) ⟨by omega, by omega⟩ (by omega) (by omega) (by omega) (by omega) (by omega)
            · skip
              refine x_A k218_129 (fun _ => rfl) ?_
              refine x_goto k218_130 (t := 134) rfl ?_
              refine x_iadd k218_134 ?_
              refine x_top (fun z1164 e_z1164 => ?_)
              refine x_istore k218_135 (ls' := [(8, vi z1164), (7, vi z1155), (0, .ref 256), (1, vi x1), (2, vi x2), (3, vi x3), (4, vi x4), (5, vi x5), (6, vi x6), (9, vi x9)]) (by decide) rfl ?_
              refine x_iinc k218_137 (ls' := [(9, vi (x9 + 1)), (8, vi z1164), (7, vi z1155), (0, .ref 256), (1, vi x1), (2, vi x2), (3, vi x3), (4, vi x4), (5, vi x5), (6, vi x6)]) rfl (by decide) rfl ?_
              refine x_goto k218_140 (t := 66) rfl ?_
              refine x_ls (l := [(0, .ref 256), (1, vi x1), (2, vi x2), (3, vi x3), (4, vi x4), (5, vi x5), (6, vi x6), (7, vi z1155), (8, vi z1164), (9, vi (x9 + 1))]) (show ([0, 1, 2, 3, 4, 5, 6, 7, 8, 9] : List Nat).Nodup from by decide +kernel) ⟨rfl, rfl, rfl, rfl, rfl, rfl, rfl, rfl, rfl, rfl, trivial⟩ ?_
              exact ih s x1 x2 x3 x4 x5 x6 z1155 z1164 (x9 + 1) hG f (by first | exact x_rb b_x1 rfl rfl | exact ⟨by omega, by omega⟩) (by first | exact x_rb b_x2 rfl rfl | exact ⟨by omega, by omega⟩) (by first | exact x_rb b_x3 rfl rfl | exact ⟨by omega, by omega⟩) (by first | exact x_rb b_x4 rfl rfl | exact ⟨by omega, by omega⟩) (by first | exact x_rb b_x5 rfl rfl | exact ⟨by omega, by omega⟩) (by first | exact x_rb b_x6 rfl rfl | exact ⟨by omega, by omega⟩) (by first | exact x_rbe e_z1155 g_z1155 rfl rfl | exact x_rb g_z1155 rfl rfl | exact ⟨by omega, by omega⟩) (by first | exact x_rbe e_z1164 g_z1164 rfl rfl | exact x_rb g_z1164 rfl rfl | exact ⟨by omega, by omega⟩) ⟨by omega, by omega⟩ (by omega) (by omega) (by omega) (by omega) (by omega)
theorem L_C_X11_split_256_48 (s0 : xS) (hJ0 : J s0)  : ∀ (n : Nat) (s : xS) (x1 : Int) (x2 : Int) (x3 : Int) (x4 : Int) (x5 : Int) (x6 : Int) (hG : GI s) (f : FL [5312, 5376, 4123, 5440, 5504, 5568, 5632, 5696, 5760] s0 s) (b_x1 : 0 ≤ x1 ∧ x1 ≤ 39) (b_x2 : 0 ≤ x2 ∧ x2 ≤ 9) (b_x3 : 0 ≤ x3 ∧ x3 ≤ 1) (b_x4 : (-1) ≤ x4 ∧ x4 ≤ 39) (b_x5 : (-1) ≤ x5 ∧ x5 ≤ 40) (b_x6 : 0 ≤ x6 ∧ x6 ≤ 40) (r_4_6 : x4 ≤ x6 + (-1))  (hm : (40 - x6) < (n : Int)), xe none 218 48 [(0, .ref 256), (1, vi x1), (2, vi x2), (3, vi x3), (4, vi x4), (5, vi x5), (6, vi x6)] [] s 0 0 (fun s' v => GI s' ∧ FL [5312, 5376, 4123, 5440, 5504, 5568, 5632, 5696, 5760] s0 s' ∧ ∃ z, v = some (vi z) ∧ ((-1004) ≤ z ∧ z ≤ 120)) := by
  intro n
  induction n with
  | zero => intro s x1 x2 x3 x4 x5 x6 hG f b_x1 b_x2 b_x3 b_x4 b_x5 b_x6 r_4_6  hm; exfalso; omega
  | succ n ih =>
    intro s x1 x2 x3 x4 x5 x6 hG f b_x1 b_x2 b_x3 b_x4 b_x5 b_x6 r_4_6  hm
    refine x_A k218_48 (fun _ => rfl) ?_
    refine x_A k218_50 (fun _ => rfl) ?_
    refine x_getI k218_51 (f := 1) rfl (q := 256) (n := 62) (kd := 15) ⟨by decide, rfl⟩ (by decide) rfl ?_
    refine x_top (fun z1165 e_z1165 => ?_)
    have g_z1165 : (1 : Int) ≤ s 256 1 ∧ s 256 1 ≤ 40 := hG 256 1
    refine x_ic_ge k218_54 (t := 196) rfl (by first | exact x_rb b_x6 rfl rfl | exact ⟨by omega, by omega⟩) (by first | exact x_rbe e_z1165 g_z1165 rfl rfl | exact x_rb g_z1165 rfl rfl | exact ⟨by omega, by omega⟩) (fun c1166 => ?_) (fun c1166 => ?_)
    · skip
      refine x_A k218_196 (fun _ => rfl) ?_
      refine x_if_ne k218_197 (t := 205) rfl (by first | exact x_rb b_x3 rfl rfl | exact ⟨by omega, by omega⟩) (fun c1167 => ?_) (fun c1167 => ?_)
      · skip
        refine x_A k218_205 (fun _ => rfl) ?_
        exact x_iret k218_207 rfl ⟨hG, f, x5, rfl, (by first | exact x_rb b_x5 rfl rfl | exact ⟨by omega, by omega⟩)⟩
      · skip
        refine x_A k218_200 (fun _ => rfl) ?_
        refine x_goto k218_202 (t := 207) rfl ?_
        exact x_iret k218_207 rfl ⟨hG, f, x4, rfl, (by first | exact x_rb b_x4 rfl rfl | exact ⟨by omega, by omega⟩)⟩
    · skip
      refine x_A k218_57 (fun _ => rfl) ?_
      refine x_istore k218_58 (ls' := [(7, vi 0), (0, .ref 256), (1, vi x1), (2, vi x2), (3, vi x3), (4, vi x4), (5, vi x5), (6, vi x6)]) (by decide) rfl ?_
      refine x_A k218_60 (fun _ => rfl) ?_
      refine x_istore k218_61 (ls' := [(8, vi 0), (7, vi 0), (0, .ref 256), (1, vi x1), (2, vi x2), (3, vi x3), (4, vi x4), (5, vi x5), (6, vi x6)]) (by decide) rfl ?_
      refine x_A k218_63 (fun _ => rfl) ?_
      refine x_istore k218_64 (ls' := [(9, vi 0), (8, vi 0), (7, vi 0), (0, .ref 256), (1, vi x1), (2, vi x2), (3, vi x3), (4, vi x4), (5, vi x5), (6, vi x6)]) (by decide) rfl ?_
      refine x_ls (l := [(0, .ref 256), (1, vi x1), (2, vi x2), (3, vi x3), (4, vi x4), (5, vi x5), (6, vi x6), (7, vi 0), (8, vi 0), (9, vi 0)]) (show ([0, 1, 2, 3, 4, 5, 6, 7, 8, 9] : List Nat).Nodup from by decide +kernel) ⟨rfl, rfl, rfl, rfl, rfl, rfl, rfl, rfl, rfl, rfl, trivial⟩ ?_
      exact L_C_X11_split_256_66 s0 hJ0 n (fun s x1 x2 x3 x4 x5 x6 hG f b_x1 b_x2 b_x3 b_x4 b_x5 b_x6 r_4_6 hm => ih s x1 x2 x3 x4 x5 x6 hG f b_x1 b_x2 b_x3 b_x4 b_x5 b_x6 r_4_6  hm) (((40 - 0) + 1 : Int)).toNat s x1 x2 x3 x4 x5 x6 0 0 0 hG f (by first | exact x_rb b_x1 rfl rfl | exact ⟨by omega, by omega⟩) (by first | exact x_rb b_x2 rfl rfl | exact ⟨by omega, by omega⟩) (by first | exact x_rb b_x3 rfl rfl | exact ⟨by omega, by omega⟩) (by first | exact x_rb b_x4 rfl rfl | exact ⟨by omega, by omega⟩) (by first | exact x_rb b_x5 rfl rfl | exact ⟨by omega, by omega⟩) (by first | exact x_rb b_x6 rfl rfl | exact ⟨by omega, by omega⟩) ⟨by decide, by decide⟩ ⟨by decide, by decide⟩ ⟨by decide, by decide⟩ (by omega) (by omega) (by omega) (by omega) (by omega)
theorem C_X11_split_256 (s0 : xS) (hG0 : GI s0) (hJ0 : J s0) (a : Int) (b_a : (-2147483648) ≤ a ∧ a ≤ 2147483647) (b : Int) (b_b : (-2147483648) ≤ b ∧ b ≤ 2147483647) (d : Int) (b_d : (-2147483648) ≤ d ∧ d ≤ 2147483647) : xe none 218 0 (lv_args 0 [.ref 256, vi a, vi b, vi d]) [] s0 0 0 (fun s' v => GI s' ∧ FL [5312, 5376, 4123, 5440, 5504, 5568, 5632, 5696, 5760] s0 s' ∧ ∃ z, v = some (vi z) ∧ ((-1004) ≤ z ∧ z ≤ 120)) := by
  have f0 : FL [5312, 5376, 4123, 5440, 5504, 5568, 5632, 5696, 5760] s0 s0 := FL.rf
  show xe none 218 0 [(0, .ref 256), (1, vi a), (2, vi b), (3, vi d)] [] s0 0 0 _
  refine x_A k218_0 (fun _ => rfl) ?_
  refine x_A k218_1 (fun _ => rfl) ?_
  obtain ⟨z1168, e_z1168⟩ : ∃ z, z = s0 256 1 := ⟨_, rfl⟩
  have g_z1168 : (1 : Int) ≤ s0 256 1 ∧ s0 256 1 ≤ 40 := hG0 256 1
  refine x_callV k218_2 (y := 137) (n := 1) (w0 := 0) (w1 := 1) (as := [vi a]) (rest := []) (by decide +kernel) (q := 256) (nq := 62) (kq := 15) ⟨by decide, rfl⟩ rfl rfl rfl rfl (xe_mono (C_X11_isMark_256 s0 hG0 a (by first | exact x_rb b_a rfl rfl | exact ⟨by omega, by omega⟩)) ?_)
  rintro s1170 v ⟨h_s1170, z1169, rfl, hz_z1169⟩
  rw [h_s1170]
  rcases hz_z1169 with ⟨c_z1169, e_z1169⟩ | ⟨c_z1169, e_z1169⟩
  · rw [e_z1169]
    show xe none 218 5 [(0, .ref 256), (1, vi a), (2, vi b), (3, vi d)] [vi 1] s0 0 0 _
    refine x_if_ne k218_5 (t := 12) rfl ⟨by decide, by decide⟩ (fun c1171 => ?_) (fun c1171 => by exfalso; omega)
    refine x_A k218_12 (fun _ => rfl) ?_
    refine x_A k218_13 (fun _ => rfl) ?_
    obtain ⟨z1172, e_z1172⟩ : ∃ z, z = s0 256 0 := ⟨_, rfl⟩
    have g_z1172 : (0 : Int) ≤ s0 256 0 ∧ s0 256 0 ≤ 9 := hG0 256 0
    refine x_callV k218_14 (y := 138) (n := 1) (w0 := 0) (w1 := 1) (as := [vi b]) (rest := []) (by decide +kernel) (q := 256) (nq := 62) (kq := 15) ⟨by decide, rfl⟩ rfl rfl rfl rfl (xe_mono (C_X11_isEdition_256 s0 hG0 b (by first | exact x_rb b_b rfl rfl | exact ⟨by omega, by omega⟩)) ?_)
    rintro s1174 v ⟨h_s1174, z1173, rfl, hz_z1173⟩
    rw [h_s1174]
    rcases hz_z1173 with ⟨c_z1173, e_z1173⟩ | ⟨c_z1173, e_z1173⟩
    · rw [e_z1173]
      show xe none 218 17 [(0, .ref 256), (1, vi a), (2, vi b), (3, vi d)] [vi 1] s0 0 0 _
      refine x_if_eq k218_17 (t := 30) rfl ⟨by decide, by decide⟩ (fun c1175 => by exfalso; omega) (fun c1175 => ?_)
      refine x_A k218_20 (fun _ => rfl) ?_
      refine x_i2l k218_21 (by first | exact x_rb b_d rfl rfl | exact ⟨by omega, by omega⟩) ?_
      refine x_lconst k218_22 (z := 0) (by decide +kernel) ?_
      refine x_lconst k218_23 (z := 1) (by decide +kernel) ?_
      refine x_callS k218_24 (y := 136) (n := 3) (w0 := 0) (w1 := 6) (as := [vj d, vj 0, vj 1]) (rest := []) (by decide +kernel) rfl rfl rfl rfl (xe_mono (C_X11_in s0 hG0 d ⟨by omega, by omega⟩ 0 ⟨by omega, by omega⟩ 1 ⟨by omega, by omega⟩) ?_)
      rintro s1177 v ⟨h_s1177, z1176, rfl, hz_z1176⟩
      rw [h_s1177]
      rcases hz_z1176 with ⟨c_z1176, e_z1176⟩ | ⟨c_z1176, e_z1176⟩
      · rw [e_z1176]
        show xe none 218 27 [(0, .ref 256), (1, vi a), (2, vi b), (3, vi d)] [vi 1] s0 0 0 _
        refine x_if_ne k218_27 (t := 34) rfl ⟨by decide, by decide⟩ (fun c1178 => ?_) (fun c1178 => by exfalso; omega)
        refine x_A k218_34 (fun _ => rfl) ?_
        refine x_A k218_35 (fun _ => rfl) ?_
        refine x_callV k218_36 (y := 168) (n := 1) (w0 := 0) (w1 := 1) (as := [vi b]) (rest := []) (by decide +kernel) (q := 256) (nq := 62) (kq := 15) ⟨by decide, rfl⟩ rfl rfl rfl rfl (xe_mono (C_X11_find_256 s0 hG0 (hJ0.fl f0 (by decide +kernel)) b (by first | exact x_rb b_b rfl rfl | exact ⟨by omega, by omega⟩)) ?_)
        rintro s1180 v ⟨hG_s1180, t_s1180, rfl⟩
        have f_s1180 : FL [5312, 5376, 4123, 5440, 5504, 5568, 5632, 5696, 5760] s0 s1180 := f0.tr t_s1180 (by decide +kernel)
        have q1181 : s1180 256 1 = z1168 := (t_s1180 256 1 (show 4098 ∉ [5312, 5376, 4123, 5440, 5504, 5568, 5632, 5696, 5760] from by decide +kernel)).trans e_z1168.symm
        have q1182 : s1180 256 0 = z1172 := (t_s1180 256 0 (show 4097 ∉ [5312, 5376, 4123, 5440, 5504, 5568, 5632, 5696, 5760] from by decide +kernel)).trans e_z1172.symm
        show xe none 218 39 [(0, .ref 256), (1, vi a), (2, vi b), (3, vi d)] [] s1180 0 0 _
        refine x_A k218_39 (fun _ => rfl) ?_
        refine x_istore k218_40 (ls' := [(4, vi (-1)), (0, .ref 256), (1, vi a), (2, vi b), (3, vi d)]) (by decide) rfl ?_
        refine x_A k218_42 (fun _ => rfl) ?_
        refine x_istore k218_43 (ls' := [(5, vi (-1)), (4, vi (-1)), (0, .ref 256), (1, vi a), (2, vi b), (3, vi d)]) (by decide) rfl ?_
        refine x_A k218_45 (fun _ => rfl) ?_
        refine x_istore k218_46 (ls' := [(6, vi 0), (5, vi (-1)), (4, vi (-1)), (0, .ref 256), (1, vi a), (2, vi b), (3, vi d)]) (by decide) rfl ?_
        refine x_ls (l := [(0, .ref 256), (1, vi a), (2, vi b), (3, vi d), (4, vi (-1)), (5, vi (-1)), (6, vi 0)]) (show ([0, 1, 2, 3, 4, 5, 6] : List Nat).Nodup from by decide +kernel) ⟨rfl, rfl, rfl, rfl, rfl, rfl, rfl, trivial⟩ ?_
        exact L_C_X11_split_256_48 s0 hJ0  (((40 - 0) + 1 : Int)).toNat s1180 a b d (-1) (-1) 0 hG_s1180 f_s1180 (by first | exact x_rb b_a rfl rfl | exact ⟨by omega, by omega⟩) (by first | exact x_rb b_b rfl rfl | exact ⟨by omega, by omega⟩) (by first | exact x_rb b_d rfl rfl | exact ⟨by omega, by omega⟩) ⟨by decide, by decide⟩ ⟨by decide, by decide⟩ ⟨by decide, by decide⟩ (by omega)  (by omega)
      · rw [e_z1176]
        show xe none 218 27 [(0, .ref 256), (1, vi a), (2, vi b), (3, vi d)] [vi 0] s0 0 0 _
        refine x_if_ne k218_27 (t := 34) rfl ⟨by decide, by decide⟩ (fun c1183 => by exfalso; omega) (fun c1183 => ?_)
        refine x_sipush k218_30 (by decide +kernel) ?_
        exact x_iret k218_33 rfl ⟨hG0, f0, (-1002), rfl, ⟨by decide, by decide⟩⟩
    · rw [e_z1173]
      show xe none 218 17 [(0, .ref 256), (1, vi a), (2, vi b), (3, vi d)] [vi 0] s0 0 0 _
      refine x_if_eq k218_17 (t := 30) rfl ⟨by decide, by decide⟩ (fun c1184 => ?_) (fun c1184 => by exfalso; omega)
      refine x_sipush k218_30 (by decide +kernel) ?_
      exact x_iret k218_33 rfl ⟨hG0, f0, (-1002), rfl, ⟨by decide, by decide⟩⟩
  · rw [e_z1169]
    show xe none 218 5 [(0, .ref 256), (1, vi a), (2, vi b), (3, vi d)] [vi 0] s0 0 0 _
    refine x_if_ne k218_5 (t := 12) rfl ⟨by decide, by decide⟩ (fun c1185 => by exfalso; omega) (fun c1185 => ?_)
    refine x_sipush k218_8 (by decide +kernel) ?_
    exact x_iret k218_11 rfl ⟨hG0, f0, (-1001), rfl, ⟨by decide, by decide⟩⟩
theorem C_X11_moment_256 (s0 : xS) (hG0 : GI s0) (a : Int) (b_a : (-2147483648) ≤ a ∧ a ≤ 2147483647) (b : Int) (b_b : (-2147483648) ≤ b ∧ b ≤ 2147483647) (d : Int) (b_d : (-2147483648) ≤ d ∧ d ≤ 2147483647) : xe none 216 0 (lv_args 0 [.ref 256, vi a, vi b, vi d]) [] s0 0 0 (fun s' v => GI s' ∧ FL [6400, 6464, 6528] s0 s' ∧ ∃ z, v = some (vi z) ∧ ((-1004) ≤ z ∧ z ≤ 3)) := by
  have f0 : FL [6400, 6464, 6528] s0 s0 := FL.rf
  show xe none 216 0 [(0, .ref 256), (1, vi a), (2, vi b), (3, vi d)] [] s0 0 0 _
  refine x_A k216_0 (fun _ => rfl) ?_
  refine x_i2l k216_1 (by first | exact x_rb b_a rfl rfl | exact ⟨by omega, by omega⟩) ?_
  refine x_lconst k216_2 (z := 0) (by decide +kernel) ?_
  refine x_A k216_3 (fun _ => rfl) ?_
  refine x_getI k216_4 (f := 58) rfl (q := 256) (n := 62) (kd := 15) ⟨by decide, rfl⟩ (by decide) rfl ?_
  refine x_top (fun z1 e_z1 => ?_)
  have g_z1 : (0 : Int) ≤ s0 256 58 ∧ s0 256 58 ≤ 4 := hG0 256 58
  refine x_A k216_7 (fun _ => rfl) ?_
  refine x_isub k216_8 ?_
  refine x_top (fun z2 e_z2 => ?_)
  refine x_i2l k216_9 (by first | exact x_rbe e_z2 g_z2 rfl rfl | exact x_rb g_z2 rfl rfl | exact ⟨by omega, by omega⟩) ?_
  refine x_callS k216_10 (y := 136) (n := 3) (w0 := 0) (w1 := 6) (as := [vj a, vj 0, vj z2]) (rest := []) (by decide +kernel) rfl rfl rfl rfl (xe_mono (C_X11_in s0 hG0 a ⟨by omega, by omega⟩ 0 ⟨by omega, by omega⟩ z2 ⟨by omega, by omega⟩) ?_)
  rintro s4 v ⟨h_s4, z3, rfl, hz_z3⟩
  rw [h_s4]
  rcases hz_z3 with ⟨c_z3, e_z3⟩ | ⟨c_z3, e_z3⟩
  · rw [e_z3]
    show xe none 216 13 [(0, .ref 256), (1, vi a), (2, vi b), (3, vi d)] [vi 1] s0 0 0 _
    refine x_if_eq k216_13 (t := 24) rfl ⟨by decide, by decide⟩ (fun c5 => by exfalso; omega) (fun c5 => ?_)
    refine x_A k216_16 (fun _ => rfl) ?_
    refine x_A k216_17 (fun _ => rfl) ?_
    obtain ⟨z6, e_z6⟩ : ∃ z, z = s0 256 1 := ⟨_, rfl⟩
    have g_z6 : (1 : Int) ≤ s0 256 1 ∧ s0 256 1 ≤ 40 := hG0 256 1
    refine x_callV k216_18 (y := 137) (n := 1) (w0 := 0) (w1 := 1) (as := [vi d]) (rest := []) (by decide +kernel) (q := 256) (nq := 62) (kq := 15) ⟨by decide, rfl⟩ rfl rfl rfl rfl (xe_mono (C_X11_isMark_256 s0 hG0 d (by first | exact x_rb b_d rfl rfl | exact ⟨by omega, by omega⟩)) ?_)
    rintro s8 v ⟨h_s8, z7, rfl, hz_z7⟩
    rw [h_s8]
    rcases hz_z7 with ⟨c_z7, e_z7⟩ | ⟨c_z7, e_z7⟩
    · rw [e_z7]
      show xe none 216 21 [(0, .ref 256), (1, vi a), (2, vi b), (3, vi d)] [vi 1] s0 0 0 _
      refine x_if_ne k216_21 (t := 28) rfl ⟨by decide, by decide⟩ (fun c9 => ?_) (fun c9 => by exfalso; omega)
      refine x_A k216_28 (fun _ => rfl) ?_
      refine x_i2l k216_29 (by first | exact x_rb b_b rfl rfl | exact ⟨by omega, by omega⟩) ?_
      refine x_lconst k216_30 (z := 0) (by decide +kernel) ?_
      refine x_A k216_31 (fun _ => rfl) ?_
      refine x_getR k216_32 (f := 59) rfl (q := 256) (n := 62) (kd := 15) ⟨by decide, rfl⟩ (q2 := 292) (by decide) rfl ?_
      refine x_A k216_35 (fun _ => rfl) ?_
      refine x_iald k216_36 (q := 292) (n := 4) ⟨by decide, rfl⟩ (by decide) (by first | exact x_rbl b_a rfl rfl | exact ⟨by omega, by omega⟩) ?_
      refine x_top (fun z10 e_z10 => ?_)
      have g_z10 : (0 : Int) ≤ s0 292 a.toNat ∧ s0 292 a.toNat ≤ 5 := hG0 292 a.toNat
      refine x_i2l k216_37 (by first | exact x_rbe e_z10 g_z10 rfl rfl | exact x_rb g_z10 rfl rfl | exact ⟨by omega, by omega⟩) ?_
      refine x_callS k216_38 (y := 136) (n := 3) (w0 := 0) (w1 := 6) (as := [vj b, vj 0, vj z10]) (rest := []) (by decide +kernel) rfl rfl rfl rfl (xe_mono (C_X11_in s0 hG0 b ⟨by omega, by omega⟩ 0 ⟨by omega, by omega⟩ z10 ⟨by omega, by omega⟩) ?_)
      rintro s12 v ⟨h_s12, z11, rfl, hz_z11⟩
      rw [h_s12]
      rcases hz_z11 with ⟨c_z11, e_z11⟩ | ⟨c_z11, e_z11⟩
      · rw [e_z11]
        show xe none 216 41 [(0, .ref 256), (1, vi a), (2, vi b), (3, vi d)] [vi 1] s0 0 0 _
        refine x_if_ne k216_41 (t := 48) rfl ⟨by decide, by decide⟩ (fun c13 => ?_) (fun c13 => by exfalso; omega)
        refine x_A k216_48 (fun _ => rfl) ?_
        refine x_A k216_49 (fun _ => rfl) ?_
        refine x_imul k216_50 ?_
        refine x_top (fun z14 e_z14 => ?_)
        refine x_A k216_51 (fun _ => rfl) ?_
        refine x_iadd k216_52 ?_
        refine x_top (fun z15 e_z15 => ?_)
        refine x_istore k216_53 (ls' := [(4, vi z15), (0, .ref 256), (1, vi a), (2, vi b), (3, vi d)]) (by decide) rfl ?_
        refine x_A k216_55 (fun _ => rfl) ?_
        refine x_A k216_56 (fun _ => rfl) ?_
        refine x_ic_eq k216_57 (t := 81) rfl (by first | exact x_rb b_b rfl rfl | exact ⟨by omega, by omega⟩) ⟨by decide, by decide⟩ (fun c16 => ?_) (fun c16 => ?_)
        · skip
          refine x_sipush k216_81 (by decide +kernel) ?_
          exact x_iret k216_84 rfl ⟨hG0, f0, (-1004), rfl, ⟨by decide, by decide⟩⟩
        · skip
          refine x_A k216_60 (fun _ => rfl) ?_
          refine x_A k216_61 (fun _ => rfl) ?_
          refine x_getR k216_62 (f := 59) rfl (q := 256) (n := 62) (kd := 15) ⟨by decide, rfl⟩ (q2 := 292) (by decide) rfl ?_
          refine x_A k216_65 (fun _ => rfl) ?_
          refine x_iald k216_66 (q := 292) (n := 4) ⟨by decide, rfl⟩ (by decide) (by first | exact x_rbl b_a rfl rfl | exact ⟨by omega, by omega⟩) ?_
          rw [e_z10.symm]
          refine x_ic_ge k216_67 (t := 85) rfl (by first | exact x_rb b_b rfl rfl | exact ⟨by omega, by omega⟩) (by first | exact x_rbe e_z10 g_z10 rfl rfl | exact x_rb g_z10 rfl rfl | exact ⟨by omega, by omega⟩) (fun c17 => ?_) (fun c17 => ?_)
          · skip
            refine x_A k216_85 (fun _ => rfl) ?_
            refine x_A k216_86 (fun _ => rfl) ?_
            refine x_getR k216_87 (f := 59) rfl (q := 256) (n := 62) (kd := 15) ⟨by decide, rfl⟩ (q2 := 292) (by decide) rfl ?_
            refine x_A k216_90 (fun _ => rfl) ?_
            refine x_iald k216_91 (q := 292) (n := 4) ⟨by decide, rfl⟩ (by decide) (by first | exact x_rbl b_a rfl rfl | exact ⟨by omega, by omega⟩) ?_
            rw [e_z10.symm]
            refine x_ic_ne k216_92 (t := 113) rfl (by first | exact x_rb b_b rfl rfl | exact ⟨by omega, by omega⟩) (by first | exact x_rbe e_z10 g_z10 rfl rfl | exact x_rb g_z10 rfl rfl | exact ⟨by omega, by omega⟩) (fun c18 => by exfalso; omega) (fun c18 => ?_)
            refine x_A k216_95 (fun _ => rfl) ?_
            refine x_getR k216_96 (f := 59) rfl (q := 256) (n := 62) (kd := 15) ⟨by decide, rfl⟩ (q2 := 292) (by decide) rfl ?_
            refine x_A k216_99 (fun _ => rfl) ?_
            refine x_A k216_100 (fun _ => rfl) ?_
            refine x_iald k216_101 (q := 292) (n := 4) ⟨by decide, rfl⟩ (by decide) (by first | exact x_rbl b_a rfl rfl | exact ⟨by omega, by omega⟩) ?_
            rw [e_z10.symm]
            refine x_A k216_102 (fun _ => rfl) ?_
            refine x_iadd k216_103 ?_
            refine x_top (fun z19 e_z19 => ?_)
            refine x_iast k216_104 (q := 292) (n := 4) ⟨by decide, rfl⟩ (by decide) (by first | exact x_rbl b_a rfl rfl | exact ⟨by omega, by omega⟩) ?_
            refine x_nh (fun s20 e_s20 => ?_)
            have hG_s20 : GI s20 := by rw [e_s20]; exact hG0.up (show 0 ≤ z19 ∧ z19 ≤ 5 from (by first | exact x_rbe e_z19 g_z19 rfl rfl | exact x_rb g_z19 rfl rfl | exact ⟨by omega, by omega⟩))
            have f_s20 : FL [6400, 6464, 6528] s0 s20 := by rw [e_s20]; exact f0.up (show 6400 ∈ [6400, 6464, 6528] from by decide +kernel)
            have q21 : s20 256 58 = z1 := by rw [e_s20, x_up_q (by decide)]; exact e_z1.symm
            have q22 : s20 256 1 = z6 := by rw [e_s20, x_up_q (by decide)]; exact e_z6.symm
            have q23 : s20 292 a.toNat = z19 := by rw [e_s20]; exact x_up_same
            refine x_A k216_105 (fun _ => rfl) ?_
            refine x_getR k216_106 (f := 60) rfl (q := 256) (n := 62) (kd := 15) ⟨by decide, rfl⟩ (q2 := 293) (by decide) rfl ?_
            refine x_A k216_109 (fun _ => rfl) ?_
            refine x_A k216_111 (fun _ => rfl) ?_
            refine x_iast k216_112 (q := 293) (n := 20) ⟨by decide, rfl⟩ (by decide) (by first | exact x_rbel e_z15 g_z15 rfl rfl | exact x_rbl g_z15 rfl rfl | exact ⟨by omega, by omega⟩) ?_
            refine x_nh (fun s24 e_s24 => ?_)
            have hG_s24 : GI s24 := by rw [e_s24]; exact hG_s20.up (show 0 ≤ 0 ∧ 0 ≤ 3 from ⟨by decide, by decide⟩)
            have f_s24 : FL [6400, 6464, 6528] s0 s24 := by rw [e_s24]; exact f_s20.up (show 6464 ∈ [6400, 6464, 6528] from by decide +kernel)
            have q25 : s24 256 58 = z1 := by rw [e_s24, x_up_q (by decide)]; exact q21
            have q26 : s24 256 1 = z6 := by rw [e_s24, x_up_q (by decide)]; exact q22
            have q27 : s24 292 a.toNat = z19 := by rw [e_s24, x_up_q (by first | decide | omega)]; exact q23
            have q28 : s24 293 z15.toNat = 0 := by rw [e_s24]; exact x_up_same
            refine x_A k216_113 (fun _ => rfl) ?_
            refine x_getR k216_114 (f := 61) rfl (q := 256) (n := 62) (kd := 15) ⟨by decide, rfl⟩ (q2 := 294) (by decide) rfl ?_
            refine x_A k216_117 (fun _ => rfl) ?_
            refine x_A k216_118 (fun _ => rfl) ?_
            refine x_imul k216_120 ?_
            refine x_top (fun z29 e_z29 => ?_)
            refine x_A k216_121 (fun _ => rfl) ?_
            refine x_getR k216_122 (f := 60) rfl (q := 256) (n := 62) (kd := 15) ⟨by decide, rfl⟩ (q2 := 293) (by decide) rfl ?_
            refine x_A k216_125 (fun _ => rfl) ?_
            refine x_iald k216_127 (q := 293) (n := 20) ⟨by decide, rfl⟩ (by decide) (by first | exact x_rbel e_z15 g_z15 rfl rfl | exact x_rbl g_z15 rfl rfl | exact ⟨by omega, by omega⟩) ?_
            rw [q28]
            refine x_iadd k216_128 ?_
            refine x_top (fun z30 e_z30 => ?_)
            refine x_A k216_129 (fun _ => rfl) ?_
            refine x_iast k216_130 (q := 294) (n := 60) ⟨by decide, rfl⟩ (by decide) (by first | exact x_rbel e_z30 g_z30 rfl rfl | exact x_rbl g_z30 rfl rfl | exact ⟨by omega, by omega⟩) ?_
            refine x_nh (fun s31 e_s31 => ?_)
            have hG_s31 : GI s31 := by rw [e_s31]; exact hG_s24.up (show 0 ≤ d ∧ d ≤ 39 from (by first | exact x_rb b_d rfl rfl | exact ⟨by omega, by omega⟩))
            have f_s31 : FL [6400, 6464, 6528] s0 s31 := by rw [e_s31]; exact f_s24.up (show 6528 ∈ [6400, 6464, 6528] from by decide +kernel)
            have q32 : s31 256 58 = z1 := by rw [e_s31, x_up_q (by decide)]; exact q25
            have q33 : s31 256 1 = z6 := by rw [e_s31, x_up_q (by decide)]; exact q26
            have q34 : s31 292 a.toNat = z19 := by rw [e_s31, x_up_q (by first | decide | omega)]; exact q27
            have q35 : s31 293 z15.toNat = 0 := by rw [e_s31, x_up_q (by first | decide | omega)]; exact q28
            have q36 : s31 294 z30.toNat = d := by rw [e_s31]; exact x_up_same
            refine x_A k216_131 (fun _ => rfl) ?_
            refine x_getR k216_132 (f := 60) rfl (q := 256) (n := 62) (kd := 15) ⟨by decide, rfl⟩ (q2 := 293) (by decide) rfl ?_
            refine x_A k216_135 (fun _ => rfl) ?_
            refine x_A k216_137 (fun _ => rfl) ?_
            refine x_iald k216_138 (q := 293) (n := 20) ⟨by decide, rfl⟩ (by decide) (by first | exact x_rbel e_z15 g_z15 rfl rfl | exact x_rbl g_z15 rfl rfl | exact ⟨by omega, by omega⟩) ?_
            rw [q35]
            refine x_A k216_139 (fun _ => rfl) ?_
            refine x_iadd k216_140 ?_
            refine x_top (fun z37 e_z37 => ?_)
            refine x_iast k216_141 (q := 293) (n := 20) ⟨by decide, rfl⟩ (by decide) (by first | exact x_rbel e_z15 g_z15 rfl rfl | exact x_rbl g_z15 rfl rfl | exact ⟨by omega, by omega⟩) ?_
            refine x_nh (fun s38 e_s38 => ?_)
            have hG_s38 : GI s38 := by rw [e_s38]; exact hG_s31.up (show 0 ≤ z37 ∧ z37 ≤ 3 from (by first | exact x_rbe e_z37 g_z37 rfl rfl | exact x_rb g_z37 rfl rfl | exact ⟨by omega, by omega⟩))
            have f_s38 : FL [6400, 6464, 6528] s0 s38 := by rw [e_s38]; exact f_s31.up (show 6464 ∈ [6400, 6464, 6528] from by decide +kernel)
            have q39 : s38 256 58 = z1 := by rw [e_s38, x_up_q (by decide)]; exact q32
            have q40 : s38 256 1 = z6 := by rw [e_s38, x_up_q (by decide)]; exact q33
            have q41 : s38 292 a.toNat = z19 := by rw [e_s38, x_up_q (by first | decide | omega)]; exact q34
            have q42 : s38 294 z30.toNat = d := by rw [e_s38, x_up_q (by first | decide | omega)]; exact q36
            have q43 : s38 293 z15.toNat = z37 := by rw [e_s38]; exact x_up_same
            refine x_A k216_142 (fun _ => rfl) ?_
            refine x_getR k216_143 (f := 60) rfl (q := 256) (n := 62) (kd := 15) ⟨by decide, rfl⟩ (q2 := 293) (by decide) rfl ?_
            refine x_A k216_146 (fun _ => rfl) ?_
            refine x_iald k216_148 (q := 293) (n := 20) ⟨by decide, rfl⟩ (by decide) (by first | exact x_rbel e_z15 g_z15 rfl rfl | exact x_rbl g_z15 rfl rfl | exact ⟨by omega, by omega⟩) ?_
            rw [q43]
            exact x_iret k216_149 rfl ⟨hG_s38, f_s38, z37, rfl, (by first | exact x_rbe e_z37 g_z37 rfl rfl | exact x_rb g_z37 rfl rfl | exact ⟨by omega, by omega⟩)⟩
          · skip
            refine x_A k216_70 (fun _ => rfl) ?_
            refine x_getR k216_71 (f := 60) rfl (q := 256) (n := 62) (kd := 15) ⟨by decide, rfl⟩ (q2 := 293) (by decide) rfl ?_
            refine x_A k216_74 (fun _ => rfl) ?_
            refine x_iald k216_76 (q := 293) (n := 20) ⟨by decide, rfl⟩ (by decide) (by first | exact x_rbel e_z15 g_z15 rfl rfl | exact x_rbl g_z15 rfl rfl | exact ⟨by omega, by omega⟩) ?_
            refine x_top (fun z44 e_z44 => ?_)
            have g_z44 : (0 : Int) ≤ s0 293 z15.toNat ∧ s0 293 z15.toNat ≤ 3 := hG0 293 z15.toNat
            refine x_A k216_77 (fun _ => rfl) ?_
            refine x_ic_ne k216_78 (t := 85) rfl (by first | exact x_rbe e_z44 g_z44 rfl rfl | exact x_rb g_z44 rfl rfl | exact ⟨by omega, by omega⟩) ⟨by decide, by decide⟩ (fun c45 => ?_) (fun c45 => ?_)
            · skip
              refine x_A k216_85 (fun _ => rfl) ?_
              refine x_A k216_86 (fun _ => rfl) ?_
              refine x_getR k216_87 (f := 59) rfl (q := 256) (n := 62) (kd := 15) ⟨by decide, rfl⟩ (q2 := 292) (by decide) rfl ?_
              refine x_A k216_90 (fun _ => rfl) ?_
              refine x_iald k216_91 (q := 292) (n := 4) ⟨by decide, rfl⟩ (by decide) (by first | exact x_rbl b_a rfl rfl | exact ⟨by omega, by omega⟩) ?_
              rw [e_z10.symm]
              refine x_ic_ne k216_92 (t := 113) rfl (by first | exact x_rb b_b rfl rfl | exact ⟨by omega, by omega⟩) (by first | exact x_rbe e_z10 g_z10 rfl rfl | exact x_rb g_z10 rfl rfl | exact ⟨by omega, by omega⟩) (fun c46 => ?_) (fun c46 => by exfalso; omega)
              refine x_A k216_113 (fun _ => rfl) ?_
              refine x_getR k216_114 (f := 61) rfl (q := 256) (n := 62) (kd := 15) ⟨by decide, rfl⟩ (q2 := 294) (by decide) rfl ?_
              refine x_A k216_117 (fun _ => rfl) ?_
              refine x_A k216_118 (fun _ => rfl) ?_
              refine x_imul k216_120 ?_
              refine x_top (fun z47 e_z47 => ?_)
              refine x_A k216_121 (fun _ => rfl) ?_
              refine x_getR k216_122 (f := 60) rfl (q := 256) (n := 62) (kd := 15) ⟨by decide, rfl⟩ (q2 := 293) (by decide) rfl ?_
              refine x_A k216_125 (fun _ => rfl) ?_
              refine x_iald k216_127 (q := 293) (n := 20) ⟨by decide, rfl⟩ (by decide) (by first | exact x_rbel e_z15 g_z15 rfl rfl | exact x_rbl g_z15 rfl rfl | exact ⟨by omega, by omega⟩) ?_
              rw [e_z44.symm]
              refine x_iadd k216_128 ?_
              refine x_top (fun z48 e_z48 => ?_)
              refine x_A k216_129 (fun _ => rfl) ?_
              refine x_iast k216_130 (q := 294) (n := 60) ⟨by decide, rfl⟩ (by decide) (by first | exact x_rbel e_z48 g_z48 rfl rfl | exact x_rbl g_z48 rfl rfl | exact ⟨by omega, by omega⟩) ?_
              refine x_nh (fun s49 e_s49 => ?_)
              have hG_s49 : GI s49 := by rw [e_s49]; exact hG0.up (show 0 ≤ d ∧ d ≤ 39 from (by first | exact x_rb b_d rfl rfl | exact ⟨by omega, by omega⟩))
              have f_s49 : FL [6400, 6464, 6528] s0 s49 := by rw [e_s49]; exact f0.up (show 6528 ∈ [6400, 6464, 6528] from by decide +kernel)
              have q50 : s49 256 58 = z1 := by rw [e_s49, x_up_q (by decide)]; exact e_z1.symm
              have q51 : s49 256 1 = z6 := by rw [e_s49, x_up_q (by decide)]; exact e_z6.symm
              have q52 : s49 292 a.toNat = z10 := by rw [e_s49, x_up_q (by first | decide | omega)]; exact e_z10.symm
              have q53 : s49 293 z15.toNat = z44 := by rw [e_s49, x_up_q (by first | decide | omega)]; exact e_z44.symm
              have q54 : s49 294 z48.toNat = d := by rw [e_s49]; exact x_up_same
              refine x_A k216_131 (fun _ => rfl) ?_
              refine x_getR k216_132 (f := 60) rfl (q := 256) (n := 62) (kd := 15) ⟨by decide, rfl⟩ (q2 := 293) (by decide) rfl ?_
              refine x_A k216_135 (fun _ => rfl) ?_
              refine x_A k216_137 (fun _ => rfl) ?_
              refine x_iald k216_138 (q := 293) (n := 20) ⟨by decide, rfl⟩ (by decide) (by first | exact x_rbel e_z15 g_z15 rfl rfl | exact x_rbl g_z15 rfl rfl | exact ⟨by omega, by omega⟩) ?_
              rw [q53]
              refine x_A k216_139 (fun _ => rfl) ?_
              refine x_iadd k216_140 ?_
              refine x_top (fun z55 e_z55 => ?_)
              refine x_iast k216_141 (q := 293) (n := 20) ⟨by decide, rfl⟩ (by decide) (by first | exact x_rbel e_z15 g_z15 rfl rfl | exact x_rbl g_z15 rfl rfl | exact ⟨by omega, by omega⟩) ?_
              refine x_nh (fun s56 e_s56 => ?_)
              have hG_s56 : GI s56 := by rw [e_s56]; exact hG_s49.up (show 0 ≤ z55 ∧ z55 ≤ 3 from (by first | exact x_rbe e_z55 g_z55 rfl rfl | exact x_rb g_z55 rfl rfl | exact ⟨by omega, by omega⟩))
              have f_s56 : FL [6400, 6464, 6528] s0 s56 := by rw [e_s56]; exact f_s49.up (show 6464 ∈ [6400, 6464, 6528] from by decide +kernel)
              have q57 : s56 256 58 = z1 := by rw [e_s56, x_up_q (by decide)]; exact q50
              have q58 : s56 256 1 = z6 := by rw [e_s56, x_up_q (by decide)]; exact q51
              have q59 : s56 292 a.toNat = z10 := by rw [e_s56, x_up_q (by first | decide | omega)]; exact q52
              have q60 : s56 294 z48.toNat = d := by rw [e_s56, x_up_q (by first | decide | omega)]; exact q54
              have q61 : s56 293 z15.toNat = z55 := by rw [e_s56]; exact x_up_same
              refine x_A k216_142 (fun _ => rfl) ?_
              refine x_getR k216_143 (f := 60) rfl (q := 256) (n := 62) (kd := 15) ⟨by decide, rfl⟩ (q2 := 293) (by decide) rfl ?_
              refine x_A k216_146 (fun _ => rfl) ?_
              refine x_iald k216_148 (q := 293) (n := 20) ⟨by decide, rfl⟩ (by decide) (by first | exact x_rbel e_z15 g_z15 rfl rfl | exact x_rbl g_z15 rfl rfl | exact ⟨by omega, by omega⟩) ?_
              rw [q61]
              exact x_iret k216_149 rfl ⟨hG_s56, f_s56, z55, rfl, (by first | exact x_rbe e_z55 g_z55 rfl rfl | exact x_rb g_z55 rfl rfl | exact ⟨by omega, by omega⟩)⟩
            · skip
              refine x_sipush k216_81 (by decide +kernel) ?_
              exact x_iret k216_84 rfl ⟨hG0, f0, (-1004), rfl, ⟨by decide, by decide⟩⟩
      · rw [e_z11]
        show xe none 216 41 [(0, .ref 256), (1, vi a), (2, vi b), (3, vi d)] [vi 0] s0 0 0 _
        refine x_if_ne k216_41 (t := 48) rfl ⟨by decide, by decide⟩ (fun c62 => by exfalso; omega) (fun c62 => ?_)
        refine x_sipush k216_44 (by decide +kernel) ?_
        exact x_iret k216_47 rfl ⟨hG0, f0, (-1002), rfl, ⟨by decide, by decide⟩⟩
    · rw [e_z7]
      show xe none 216 21 [(0, .ref 256), (1, vi a), (2, vi b), (3, vi d)] [vi 0] s0 0 0 _
      refine x_if_ne k216_21 (t := 28) rfl ⟨by decide, by decide⟩ (fun c63 => by exfalso; omega) (fun c63 => ?_)
      refine x_sipush k216_24 (by decide +kernel) ?_
      exact x_iret k216_27 rfl ⟨hG0, f0, (-1001), rfl, ⟨by decide, by decide⟩⟩
  · rw [e_z3]
    show xe none 216 13 [(0, .ref 256), (1, vi a), (2, vi b), (3, vi d)] [vi 0] s0 0 0 _
    refine x_if_eq k216_13 (t := 24) rfl ⟨by decide, by decide⟩ (fun c64 => ?_) (fun c64 => by exfalso; omega)
    refine x_sipush k216_24 (by decide +kernel) ?_
    exact x_iret k216_27 rfl ⟨hG0, f0, (-1001), rfl, ⟨by decide, by decide⟩⟩
