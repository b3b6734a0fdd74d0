theorem L_C_X4_counting_179_50 (s0 : xS) (hJ0 : J s0) (n_12 : Nat) (ih_12 : ∀ (s : xS) (x1 : Int) (x2 : Int) (x3 : Int) (x4 : Int) (x1000 : Int) (hG : GI s) (f : FL [] s0 s) (b_x1 : (-2147483648) ≤ x1 ∧ x1 ≤ 2147483647) (b_x2 : (-2147483648) ≤ x2 ∧ x2 ≤ 2147483647) (b_x3 : (-2147483648) ≤ x3 ∧ x3 ≤ 2147483647) (b_x4 : (-1) ≤ x4 ∧ x4 ≤ 7) (b_x1000 : 0 ≤ x1000 ∧ x1000 ≤ 8) (r_4_1000 : x4 ≤ x1000 + 0) (w_0 : x4 < x1000) (e_x1000 : x1000 = s 179 5) (hm : (x4 - (-1)) < (n_12 : Int)), xe none 41 12 [(0, .ref 179), (1, vi x1), (2, vi x2), (3, vi x3), (4, vi x4)] [] s 0 0 (fun s' v => GI s' ∧ FL [] s0 s' ∧ ∃ z, v = some (vi z) ∧ ((-2147483648) ≤ z ∧ z ≤ 2147483647))) : ∀ (n : Nat) (s : xS) (x1 : Int) (x2 : Int) (x3 : Int) (x4 : Int) (x5 : Int) (x1000 : Int) (hG : GI s) (f : FL [] s0 s) (b_x1 : 0 ≤ x1 ∧ x1 ≤ 2147483647) (b_x2 : (-2147483648) ≤ x2 ∧ x2 ≤ 2147483647) (b_x3 : (-2147483648) ≤ x3 ∧ x3 ≤ 2147483647) (b_x4 : 0 ≤ x4 ∧ x4 ≤ 7) (b_x5 : 0 ≤ x5 ∧ x5 ≤ 8) (b_x1000 : 0 ≤ x1000 ∧ x1000 ≤ 8) (r_4_1000 : x4 ≤ x1000 + 0) (w_0 : x4 < x1000) (e_x1000 : x1000 = s 179 5) (k_12 : (x4 - (-1)) < (n_12 : Int) + 1) (hm : (8 - x5) < (n : Int)), xe none 41 50 [(0, .ref 179), (1, vi x1), (2, vi x2), (3, vi x3), (4, vi x4), (5, vi x5)] [] s 0 0 (fun s' v => GI s' ∧ FL [] s0 s' ∧ ∃ z, v = some (vi z) ∧ ((-2147483648) ≤ z ∧ z ≤ 2147483647)) := by
  intro n
  induction n with
  | zero => intro s x1 x2 x3 x4 x5 x1000 hG f b_x1 b_x2 b_x3 b_x4 b_x5 b_x1000 r_4_1000 w_0 e_x1000 k_12 hm; exfalso; omega
  | succ n ih =>
    intro s x1 x2 x3 x4 x5 x1000 hG f b_x1 b_x2 b_x3 b_x4 b_x5 b_x1000 r_4_1000 w_0 e_x1000 k_12 hm
    refine x_A k41_50 (fun _ => rfl) ?_
    refine x_A k41_52 (fun _ => rfl) ?_
    refine x_getR k41_53 (f := 1) rfl (q := 179) (n := 6) (kd := 8) ⟨by decide, rfl⟩ (q2 := 181) (by decide) rfl ?_
    refine x_A k41_56 (fun _ => rfl) ?_
    refine x_iald k41_58 (q := 181) (n := 8) ⟨by decide, rfl⟩ (by decide) (by first | exact x_rbl b_x4 rfl rfl | exact ⟨by omega, by omega⟩) ?_
    refine x_top (fun z171 e_z171 => ?_)
    have g_z171 : (0 : Int) ≤ s 181 x4.toNat ∧ s 181 x4.toNat ≤ 9 := hG 181 x4.toNat
    refine x_ic_ge k41_59 (t := 98) rfl (by first | exact x_rb b_x5 rfl rfl | exact ⟨by omega, by omega⟩) (by first | exact x_rbe e_z171 g_z171 rfl rfl | exact x_rb g_z171 rfl rfl | exact ⟨by omega, by omega⟩) (fun c172 => ?_) (fun c172 => ?_)
    · skip
      refine x_iinc k41_98 (ls' := [(4, vi (x4 + (-1))), (0, .ref 179), (1, vi x1), (2, vi x2), (3, vi x3), (5, vi x5)]) rfl (by decide) rfl ?_
      refine x_goto k41_101 (t := 12) rfl ?_
      refine x_ls (l := [(0, .ref 179), (1, vi x1), (2, vi x2), (3, vi x3), (4, vi (x4 + (-1)))]) (show ([0, 1, 2, 3, 4] : List Nat).Nodup from by decide +kernel) ⟨rfl, rfl, rfl, rfl, rfl, trivial⟩ ?_
      exact ih_12 s x1 x2 x3 (x4 + (-1)) x1000 hG f (by first | exact x_rb b_x1 rfl rfl | exact ⟨by omega, by omega⟩) (by first | exact x_rb b_x2 rfl rfl | exact ⟨by omega, by omega⟩) (by first | exact x_rb b_x3 rfl rfl | exact ⟨by omega, by omega⟩) ⟨by omega, by omega⟩ (by first | exact x_rb b_x1000 rfl rfl | exact ⟨by omega, by omega⟩) (by omega) (by omega) (e_x1000.symm).symm (by omega)
    · skip
      have cr173 := (hJ0.fl f (by decide +kernel)).cr x4 x5 ⟨by omega, by omega⟩ (by omega) (by omega) (by rw [e_z171.symm]; omega)
      refine x_A k41_62 (fun _ => rfl) ?_
      refine x_getR k41_63 (f := 2) rfl (q := 179) (n := 6) (kd := 8) ⟨by decide, rfl⟩ (q2 := 182) (by decide) rfl ?_
      refine x_A k41_66 (fun _ => rfl) ?_
      refine x_aald k41_68 (q := 182) (t := 23) (n := 8) ⟨by decide, rfl⟩ (by decide) (by decide) ⟨by omega, by omega⟩ ?_
      refine x_A k41_69 (fun _ => rfl) ?_
      refine x_iald k41_71 (q := (182 + 1 + x4.toNat)) (n := 8) (xg_183 (by omega) (by omega)) (by decide) (by first | exact x_rbl b_x5 rfl rfl | exact ⟨by omega, by omega⟩) ?_
      refine x_top (fun z174 e_z174 => ?_)
      have r_z174 := hG (182 + 1 + x4.toNat) x5.toNat
      rw [(gr_183 x5.toNat (show 183 ≤ (182 + 1 + x4.toNat) by omega) (by omega)).1, (gr_183 x5.toNat (show 183 ≤ (182 + 1 + x4.toNat) by omega) (by omega)).2.1, ← e_z174] at r_z174
      refine x_bipush k41_72 (by decide +kernel) ?_
      refine x_ic_ne k41_74 (t := 92) rfl (by first | exact x_rbe e_z174 g_z174 rfl rfl | exact x_rb g_z174 rfl rfl | exact ⟨by omega, by omega⟩) ⟨by decide, by decide⟩ (fun c175 => ?_) (fun c175 => ?_)
      · skip
        refine x_iinc k41_92 (ls' := [(5, vi (x5 + 1)), (0, .ref 179), (1, vi x1), (2, vi x2), (3, vi x3), (4, vi x4)]) rfl (by decide) rfl ?_
        refine x_goto k41_95 (t := 50) rfl ?_
        refine x_ls (l := [(0, .ref 179), (1, vi x1), (2, vi x2), (3, vi x3), (4, vi x4), (5, vi (x5 + 1))]) (show ([0, 1, 2, 3, 4, 5] : List Nat).Nodup from by decide +kernel) ⟨rfl, rfl, rfl, rfl, rfl, rfl, trivial⟩ ?_
        exact ih s x1 x2 x3 x4 (x5 + 1) x1000 hG f (by first | exact x_rb b_x1 rfl rfl | exact ⟨by omega, by omega⟩) (by first | exact x_rb b_x2 rfl rfl | exact ⟨by omega, by omega⟩) (by first | exact x_rb b_x3 rfl rfl | exact ⟨by omega, by omega⟩) (by first | exact x_rb b_x4 rfl rfl | exact ⟨by omega, by omega⟩) ⟨by omega, by omega⟩ (by first | exact x_rb b_x1000 rfl rfl | exact ⟨by omega, by omega⟩) (by omega) (by omega) (e_x1000.symm).symm (by omega) (by omega)
      · skip
        refine x_A k41_77 (fun _ => rfl) ?_
        refine x_A k41_78 (fun _ => rfl) ?_
        refine x_A k41_79 (fun _ => rfl) ?_
        refine x_getR k41_80 (f := 3) rfl (q := 179) (n := 6) (kd := 8) ⟨by decide, rfl⟩ (q2 := 191) (by decide) rfl ?_
        refine x_A k41_83 (fun _ => rfl) ?_
        refine x_aald k41_85 (q := 191) (t := 23) (n := 8) ⟨by decide, rfl⟩ (by decide) (by decide) ⟨by omega, by omega⟩ ?_
        refine x_A k41_86 (fun _ => rfl) ?_
        refine x_iald k41_88 (q := (191 + 1 + x4.toNat)) (n := 8) (xg_192 (by omega) (by omega)) (by decide) (by first | exact x_rbl b_x5 rfl rfl | exact ⟨by omega, by omega⟩) ?_
        refine x_top (fun z176 e_z176 => ?_)
        have r_z176 := hG (191 + 1 + x4.toNat) x5.toNat
        rw [(gr_192 x5.toNat (show 192 ≤ (191 + 1 + x4.toNat) by omega) (by omega)).1, (gr_192 x5.toNat (show 192 ≤ (191 + 1 + x4.toNat) by omega) (by omega)).2.1, ← e_z176] at r_z176
        refine x_ishl_any k41_89 (fun z177 g_z177 => ?_)
        unfold in32 at g_z177
        refine x_ior_any k41_90 (fun z178 g_z178 => ?_)
        unfold in32 at g_z178
        refine x_istore_n k41_91 (ls' := [(3, vi z178), (0, .ref 179), (1, vi x1), (2, vi x2), (4, vi x4), (5, vi x5)]) (by decide) rfl ?_
        refine x_iinc k41_92 (ls' := [(5, vi (x5 + 1)), (3, vi z178), (0, .ref 179), (1, vi x1), (2, vi x2), (4, vi x4)]) rfl (by decide) rfl ?_
        refine x_goto k41_95 (t := 50) rfl ?_
        refine x_ls (l := [(0, .ref 179), (1, vi x1), (2, vi x2), (3, vi z178), (4, vi x4), (5, vi (x5 + 1))]) (show ([0, 1, 2, 3, 4, 5] : List Nat).Nodup from by decide +kernel) ⟨rfl, rfl, rfl, rfl, rfl, rfl, trivial⟩ ?_
        exact ih s x1 x2 z178 x4 (x5 + 1) x1000 hG f (by first | exact x_rb b_x1 rfl rfl | exact ⟨by omega, by omega⟩) (by first | exact x_rb b_x2 rfl rfl | exact ⟨by omega, by omega⟩) (by first | exact x_rbe e_z178 g_z178 rfl rfl | exact x_rb g_z178 rfl rfl | exact ⟨by omega, by omega⟩) (by first | exact x_rb b_x4 rfl rfl | exact ⟨by omega, by omega⟩) ⟨by omega, by omega⟩ (by first | exact x_rb b_x1000 rfl rfl | exact ⟨by omega, by omega⟩) (by omega) (by omega) (e_x1000.symm).symm (by omega) (by omega)
theorem L_C_X4_counting_179_12 (s0 : xS) (hJ0 : J s0)  : ∀ (n : Nat) (s : xS) (x1 : Int) (x2 : Int) (x3 : Int) (x4 : Int) (x1000 : Int) (hG : GI s) (f : FL [] s0 s) (b_x1 : (-2147483648) ≤ x1 ∧ x1 ≤ 2147483647) (b_x2 : (-2147483648) ≤ x2 ∧ x2 ≤ 2147483647) (b_x3 : (-2147483648) ≤ x3 ∧ x3 ≤ 2147483647) (b_x4 : (-1) ≤ x4 ∧ x4 ≤ 7) (b_x1000 : 0 ≤ x1000 ∧ x1000 ≤ 8) (r_4_1000 : x4 ≤ x1000 + 0) (w_0 : x4 < x1000) (e_x1000 : x1000 = s 179 5)  (hm : (x4 - (-1)) < (n : Int)), xe none 41 12 [(0, .ref 179), (1, vi x1), (2, vi x2), (3, vi x3), (4, vi x4)] [] s 0 0 (fun s' v => GI s' ∧ FL [] s0 s' ∧ ∃ z, v = some (vi z) ∧ ((-2147483648) ≤ z ∧ z ≤ 2147483647)) := by
  intro n
  induction n with
  | zero => intro s x1 x2 x3 x4 x1000 hG f b_x1 b_x2 b_x3 b_x4 b_x1000 r_4_1000 w_0 e_x1000  hm; exfalso; omega
  | succ n ih =>
    intro s x1 x2 x3 x4 x1000 hG f b_x1 b_x2 b_x3 b_x4 b_x1000 r_4_1000 w_0 e_x1000  hm
    refine x_A k41_12 (fun _ => rfl) ?_
    refine x_if_lt k41_14 (t := 104) rfl (by first | exact x_rb b_x4 rfl rfl | exact ⟨by omega, by omega⟩) (fun c179 => ?_) (fun c179 => ?_)
    · skip
      refine x_A k41_104 (fun _ => rfl) ?_
      exact x_iret k41_105 rfl ⟨hG, f, x2, rfl, (by first | exact x_rb b_x2 rfl rfl | exact ⟨by omega, by omega⟩)⟩
    · skip
      refine x_A k41_17 (fun _ => rfl) ?_
      refine x_getR k41_18 (f := 0) rfl (q := 179) (n := 6) (kd := 8) ⟨by decide, rfl⟩ (q2 := 180) (by decide) rfl ?_
      refine x_A k41_21 (fun _ => rfl) ?_
      refine x_iald k41_23 (q := 180) (n := 8) ⟨by decide, rfl⟩ (by decide) (by first | exact x_rbl b_x4 rfl rfl | exact ⟨by omega, by omega⟩) ?_
      refine x_top (fun z180 e_z180 => ?_)
      have g_z180 : (0 : Int) ≤ s 180 x4.toNat ∧ s 180 x4.toNat ≤ 9 := hG 180 x4.toNat
      refine x_A k41_24 (fun _ => rfl) ?_
      refine x_ic_gt k41_25 (t := 98) rfl (by first | exact x_rbe e_z180 g_z180 rfl rfl | exact x_rb g_z180 rfl rfl | exact ⟨by omega, by omega⟩) (by first | exact x_rb b_x1 rfl rfl | exact ⟨by omega, by omega⟩) (fun c181 => ?_) (fun c181 => ?_)
      · skip
        refine x_iinc k41_98 (ls' := [(4, vi (x4 + (-1))), (0, .ref 179), (1, vi x1), (2, vi x2), (3, vi x3)]) rfl (by decide) rfl ?_
        refine x_goto k41_101 (t := 12) rfl ?_
        refine x_ls (l := [(0, .ref 179), (1, vi x1), (2, vi x2), (3, vi x3), (4, vi (x4 + (-1)))]) (show ([0, 1, 2, 3, 4] : List Nat).Nodup from by decide +kernel) ⟨rfl, rfl, rfl, rfl, rfl, trivial⟩ ?_
        exact ih s x1 x2 x3 (x4 + (-1)) x1000 hG f (by first | exact x_rb b_x1 rfl rfl | exact ⟨by omega, by omega⟩) (by first | exact x_rb b_x2 rfl rfl | exact ⟨by omega, by omega⟩) (by first | exact x_rb b_x3 rfl rfl | exact ⟨by omega, by omega⟩) ⟨by omega, by omega⟩ (by first | exact x_rb b_x1000 rfl rfl | exact ⟨by omega, by omega⟩) (by omega) (by omega) (e_x1000.symm).symm  (by omega)
      · skip
        refine x_A k41_28 (fun _ => rfl) ?_
        refine x_A k41_29 (fun _ => rfl) ?_
        refine x_iushr_any k41_31 (fun z182 g_z182 => ?_)
        unfold in32 at g_z182
        refine x_A k41_32 (fun _ => rfl) ?_
        refine x_and_mask k41_33 ⟨by omega, by omega⟩ (fun z183 g_z183 => ?_)
        refine x_if_eq k41_34 (t := 40) rfl (by first | exact x_rbe e_z183 g_z183 rfl rfl | exact x_rb g_z183 rfl rfl | exact ⟨by omega, by omega⟩) (fun c184 => ?_) (fun c184 => ?_)
        · skip
          refine x_A k41_40 (fun _ => rfl) ?_
          refine x_A k41_41 (fun _ => rfl) ?_
          refine x_A k41_42 (fun _ => rfl) ?_
          refine x_ishl_any k41_44 (fun z185 g_z185 => ?_)
          unfold in32 at g_z185
          refine x_ior_any k41_45 (fun z186 g_z186 => ?_)
          unfold in32 at g_z186
          refine x_istore_n k41_46 (ls' := [(2, vi z186), (0, .ref 179), (1, vi x1), (3, vi x3), (4, vi x4)]) (by decide) rfl ?_
          refine x_A k41_47 (fun _ => rfl) ?_
          refine x_istore k41_48 (ls' := [(5, vi 0), (2, vi z186), (0, .ref 179), (1, vi x1), (3, vi x3), (4, vi x4)]) (by decide) rfl ?_
          refine x_ls (l := [(0, .ref 179), (1, vi x1), (2, vi z186), (3, vi x3), (4, vi x4), (5, vi 0)]) (show ([0, 1, 2, 3, 4, 5] : List Nat).Nodup from by decide +kernel) ⟨rfl, rfl, rfl, rfl, rfl, rfl, trivial⟩ ?_
          exact L_C_X4_counting_179_50 s0 hJ0 n (fun s x1 x2 x3 x4 x1000 hG f b_x1 b_x2 b_x3 b_x4 b_x1000 r_4_1000 w_0 e_x1000 hm => ih s x1 x2 x3 x4 x1000 hG f b_x1 b_x2 b_x3 b_x4 b_x1000 r_4_1000 w_0 e_x1000  hm) (((8 - 0) + 1 : Int)).toNat s x1 z186 x3 x4 0 x1000 hG f (by first | exact x_rb b_x1 rfl rfl | exact ⟨by omega, by omega⟩) (by first | exact x_rbe e_z186 g_z186 rfl rfl | exact x_rb g_z186 rfl rfl | exact ⟨by omega, by omega⟩) (by first | exact x_rb b_x3 rfl rfl | exact ⟨by omega, by omega⟩) (by first | exact x_rb b_x4 rfl rfl | exact ⟨by omega, by omega⟩) ⟨by decide, by decide⟩ (by first | exact x_rb b_x1000 rfl rfl | exact ⟨by omega, by omega⟩) (by omega) (by omega) (e_x1000.symm).symm (by omega) (by omega)
        · skip
          refine x_goto k41_37 (t := 98) rfl ?_
          refine x_iinc k41_98 (ls' := [(4, vi (x4 + (-1))), (0, .ref 179), (1, vi x1), (2, vi x2), (3, vi x3)]) rfl (by decide) rfl ?_
          refine x_goto k41_101 (t := 12) rfl ?_
          refine x_ls (l := [(0, .ref 179), (1, vi x1), (2, vi x2), (3, vi x3), (4, vi (x4 + (-1)))]) (show ([0, 1, 2, 3, 4] : List Nat).Nodup from by decide +kernel) ⟨rfl, rfl, rfl, rfl, rfl, trivial⟩ ?_
          exact ih s x1 x2 x3 (x4 + (-1)) x1000 hG f (by first | exact x_rb b_x1 rfl rfl | exact ⟨by omega, by omega⟩) (by first | exact x_rb b_x2 rfl rfl | exact ⟨by omega, by omega⟩) (by first | exact x_rb b_x3 rfl rfl | exact ⟨by omega, by omega⟩) ⟨by omega, by omega⟩ (by first | exact x_rb b_x1000 rfl rfl | exact ⟨by omega, by omega⟩) (by omega) (by omega) (e_x1000.symm).symm  (by omega)
theorem C_X4_counting_179 (s0 : xS) (hG0 : GI s0) (hJ0 : J s0) (a : Int) (b_a : (-2147483648) ≤ a ∧ a ≤ 2147483647) : xe none 41 0 (lv_args 0 [.ref 179, vi a]) [] s0 0 0 (fun s' v => GI s' ∧ FL [] s0 s' ∧ ∃ z, v = some (vi z) ∧ ((-2147483648) ≤ z ∧ z ≤ 2147483647)) := by
  have f0 : FL [] s0 s0 := FL.rf
  show xe none 41 0 [(0, .ref 179), (1, vi a)] [] s0 0 0 _
  refine x_A k41_0 (fun _ => rfl) ?_
  refine x_istore_n k41_1 (ls' := [(2, vi 0), (0, .ref 179), (1, vi a)]) (by decide) rfl ?_
  refine x_A k41_2 (fun _ => rfl) ?_
  refine x_istore_n k41_3 (ls' := [(3, vi 0), (2, vi 0), (0, .ref 179), (1, vi a)]) (by decide) rfl ?_
  refine x_A k41_4 (fun _ => rfl) ?_
  refine x_getI k41_5 (f := 5) rfl (q := 179) (n := 6) (kd := 8) ⟨by decide, rfl⟩ (by decide) rfl ?_
  refine x_top (fun z187 e_z187 => ?_)
  have g_z187 : (0 : Int) ≤ s0 179 5 ∧ s0 179 5 ≤ 8 := hG0 179 5
  refine x_A k41_8 (fun _ => rfl) ?_
  refine x_isub k41_9 ?_
  refine x_top (fun z188 e_z188 => ?_)
  refine x_istore k41_10 (ls' := [(4, vi z188), (3, vi 0), (2, vi 0), (0, .ref 179), (1, vi a)]) (by decide) rfl ?_
  refine x_ls (l := [(0, .ref 179), (1, vi a), (2, vi 0), (3, vi 0), (4, vi z188)]) (show ([0, 1, 2, 3, 4] : List Nat).Nodup from by decide +kernel) ⟨rfl, rfl, rfl, rfl, rfl, trivial⟩ ?_
  exact L_C_X4_counting_179_12 s0 hJ0  (((z188 - (-1)) + 1 : Int)).toNat s0 a 0 0 z188 z187 hG0 f0 (by first | exact x_rb b_a rfl rfl | exact ⟨by omega, by omega⟩) ⟨by decide, by decide⟩ ⟨by decide, by decide⟩ (by first | exact x_rbe e_z188 g_z188 rfl rfl | exact x_rb g_z188 rfl rfl | exact ⟨by omega, by omega⟩) (by first | exact x_rbe e_z187 g_z187 rfl rfl | exact x_rb g_z187 rfl rfl | exact ⟨by omega, by omega⟩) (by omega) (by omega) (e_z187.symm).symm  (by omega)
theorem C_X1_applyClause_209 (s0 : xS) (hG0 : GI s0) (a : Int) (b_a : (-1) ≤ a ∧ a ≤ 6) (b : Int) (b_b : (-1) ≤ b ∧ b ≤ 99) (d : Int) (b_d : (-1) ≤ d ∧ d ≤ 99) (pa : ((a = 1 ∨ a = 2 ∨ a = 3) → 0 ≤ b ∧ b ≤ 5) ∧ (a = 3 → 0 ≤ d ∧ d ≤ 5) ∧ (a = 4 → 0 ≤ b ∧ b ≤ 39)) : xe none 18 0 (lv_args 0 [.ref 209, vi a, vi b, vi d]) [] s0 0 0 (fun s' v => GI s' ∧ FL [1921, 1926, 1927, 1928, 1984, 2048, 2112, 2176] s0 s' ∧ v = none) := by
  have f0 : FL [1921, 1926, 1927, 1928, 1984, 2048, 2112, 2176] s0 s0 := FL.rf
  show xe none 18 0 [(0, .ref 209), (1, vi a), (2, vi b), (3, vi d)] [] s0 0 0 _
  refine x_A k18_0 (fun _ => rfl) ?_
  have c1 : a = 1 ∨ a = 2 ∨ a = 3 ∨ a = 4 ∨ a = 5 ∨ ¬ (1 ≤ a ∧ a ≤ 5) := by omega
  rcases c1 with c1 | c1 | c1 | c1 | c1 | c1
  · rw [c1]
    refine x_B k18_1 rfl (fun _ => rfl) (fun _ => rfl) (fun _ _ => rfl) ?_
    show xe none 18 36 [(0, .ref 209), (1, vi 1), (2, vi b), (3, vi d)] [] s0 0 0 _
    refine x_A k18_36 (fun _ => rfl) ?_
    refine x_getR k18_37 (f := 1) rfl (q := 209) (n := 8) (kd := 9) ⟨by decide, rfl⟩ (q2 := 210) (by decide) rfl ?_
    refine x_A k18_40 (fun _ => rfl) ?_
    refine x_A k18_41 (fun _ => rfl) ?_
    refine x_iast k18_42 (q := 210) (n := 6) ⟨by decide, rfl⟩ (by decide) (by first | exact x_rbl b_b rfl rfl | exact ⟨by omega, by omega⟩) ?_
    refine x_nh (fun s2 e_s2 => ?_)
    have hG_s2 : GI s2 := by rw [e_s2]; exact hG0.up (show (-2147483648) ≤ d ∧ d ≤ 2147483647 from (by first | exact x_rb b_d rfl rfl | exact ⟨by omega, by omega⟩))
    have f_s2 : FL [1921, 1926, 1927, 1928, 1984, 2048, 2112, 2176] s0 s2 := by rw [e_s2]; exact f0.up (show 1984 ∈ [1921, 1926, 1927, 1928, 1984, 2048, 2112, 2176] from by decide +kernel)
    have q3 : s2 210 b.toNat = d := by rw [e_s2]; exact x_up_same
    refine x_goto k18_43 (t := 134) rfl ?_
    exact x_vret k18_134 rfl ⟨hG_s2, f_s2, rfl⟩
  · rw [c1]
    refine x_B k18_1 rfl (fun _ => rfl) (fun _ => rfl) (fun _ _ => rfl) ?_
    show xe none 18 46 [(0, .ref 209), (1, vi 2), (2, vi b), (3, vi d)] [] s0 0 0 _
    refine x_A k18_46 (fun _ => rfl) ?_
    refine x_getR k18_47 (f := 2) rfl (q := 209) (n := 8) (kd := 9) ⟨by decide, rfl⟩ (q2 := 211) (by decide) rfl ?_
    refine x_A k18_50 (fun _ => rfl) ?_
    refine x_A k18_51 (fun _ => rfl) ?_
    refine x_lald k18_52 (q := 211) (n := 6) ⟨by decide, rfl⟩ (by decide) (by first | exact x_rbl b_b rfl rfl | exact ⟨by omega, by omega⟩) ?_
    refine x_topL (fun z4 e_z4 => ?_)
    have b_z4 : in64 z4 := by rw [e_z4]; exact hG0 211 b.toNat
    refine x_lconst k18_53 (z := 1) (by decide +kernel) ?_
    refine x_A k18_54 (fun _ => rfl) ?_
    refine x_lshl_any k18_55 (fun z5 b_z5 => ?_)
    refine x_lor_any k18_56 (fun z6 b_z6 => ?_)
    refine x_last k18_57 (q := 211) (n := 6) ⟨by decide, rfl⟩ (by decide) (by first | exact x_rbl b_b rfl rfl | exact ⟨by omega, by omega⟩) ?_
    refine x_nh (fun s7 e_s7 => ?_)
    have hG_s7 : GI s7 := by rw [e_s7]; exact hG0.up (show in64 z6 from b_z6)
    have f_s7 : FL [1921, 1926, 1927, 1928, 1984, 2048, 2112, 2176] s0 s7 := by rw [e_s7]; exact f0.up (show 2048 ∈ [1921, 1926, 1927, 1928, 1984, 2048, 2112, 2176] from by decide +kernel)
    refine x_A k18_58 (fun _ => rfl) ?_
    refine x_A k18_59 (fun _ => rfl) ?_
    refine x_getI k18_60 (f := 5) rfl (q := 209) (n := 8) (kd := 9) ⟨by decide, rfl⟩ (by decide) rfl ?_
    refine x_top (fun z8 e_z8 => ?_)
    have g_z8 : (-2147483648) ≤ s7 209 5 ∧ s7 209 5 ≤ 2147483647 := hG_s7 209 5
    refine x_A k18_63 (fun _ => rfl) ?_
    refine x_iadd k18_64 ?_
    refine x_topW (fun z9 g_z9 => ?_)
    unfold in32 at g_z9
    refine x_putI k18_65 (f := 5) rfl (q := 209) (n := 8) (kd := 9) ⟨by decide, rfl⟩ rfl rfl rfl ?_
    refine x_nh (fun s10 e_s10 => ?_)
    have hG_s10 : GI s10 := by rw [e_s10]; exact hG_s7.up (show (-2147483648) ≤ z9 ∧ z9 ≤ 2147483647 from (by first | exact x_rbe e_z9 g_z9 rfl rfl | exact x_rb g_z9 rfl rfl | exact ⟨by omega, by omega⟩))
    have f_s10 : FL [1921, 1926, 1927, 1928, 1984, 2048, 2112, 2176] s0 s10 := by rw [e_s10]; exact f_s7.up (show 1926 ∈ [1921, 1926, 1927, 1928, 1984, 2048, 2112, 2176] from by decide +kernel)
    have q11 : s10 209 5 = z9 := by rw [e_s10]; exact x_up_same
    refine x_goto k18_68 (t := 134) rfl ?_
    exact x_vret k18_134 rfl ⟨hG_s10, f_s10, rfl⟩
  · rw [c1]
    refine x_B k18_1 rfl (fun _ => rfl) (fun _ => rfl) (fun _ _ => rfl) ?_
    show xe none 18 71 [(0, .ref 209), (1, vi 3), (2, vi b), (3, vi d)] [] s0 0 0 _
    refine x_A k18_71 (fun _ => rfl) ?_
    refine x_A k18_72 (fun _ => rfl) ?_
    refine x_ic_eq k18_73 (t := 88) rfl (by first | exact x_rb b_b rfl rfl | exact ⟨by omega, by omega⟩) (by first | exact x_rb b_d rfl rfl | exact ⟨by omega, by omega⟩) (fun c12 => ?_) (fun c12 => ?_)
    · skip
      refine x_A k18_88 (fun _ => rfl) ?_
      refine x_A k18_89 (fun _ => rfl) ?_
      refine x_getI k18_90 (f := 6) rfl (q := 209) (n := 8) (kd := 9) ⟨by decide, rfl⟩ (by decide) rfl ?_
      refine x_top (fun z13 e_z13 => ?_)
      have g_z13 : (-2147483648) ≤ s0 209 6 ∧ s0 209 6 ≤ 2147483647 := hG0 209 6
      refine x_A k18_93 (fun _ => rfl) ?_
      refine x_iadd k18_94 ?_
      refine x_topW (fun z14 g_z14 => ?_)
      unfold in32 at g_z14
      refine x_putI k18_95 (f := 6) rfl (q := 209) (n := 8) (kd := 9) ⟨by decide, rfl⟩ rfl rfl rfl ?_
      refine x_nh (fun s15 e_s15 => ?_)
      have hG_s15 : GI s15 := by rw [e_s15]; exact hG0.up (show (-2147483648) ≤ z14 ∧ z14 ≤ 2147483647 from (by first | exact x_rbe e_z14 g_z14 rfl rfl | exact x_rb g_z14 rfl rfl | exact ⟨by omega, by omega⟩))
      have f_s15 : FL [1921, 1926, 1927, 1928, 1984, 2048, 2112, 2176] s0 s15 := by rw [e_s15]; exact f0.up (show 1927 ∈ [1921, 1926, 1927, 1928, 1984, 2048, 2112, 2176] from by decide +kernel)
      have q16 : s15 209 6 = z14 := by rw [e_s15]; exact x_up_same
      refine x_goto k18_98 (t := 134) rfl ?_
      exact x_vret k18_134 rfl ⟨hG_s15, f_s15, rfl⟩
    · skip
      refine x_A k18_76 (fun _ => rfl) ?_
      refine x_getR k18_77 (f := 3) rfl (q := 209) (n := 8) (kd := 9) ⟨by decide, rfl⟩ (q2 := 212) (by decide) rfl ?_
      refine x_A k18_80 (fun _ => rfl) ?_
      refine x_A k18_81 (fun _ => rfl) ?_
      refine x_iald k18_82 (q := 212) (n := 6) ⟨by decide, rfl⟩ (by decide) (by first | exact x_rbl b_b rfl rfl | exact ⟨by omega, by omega⟩) ?_
      refine x_top (fun z17 e_z17 => ?_)
      have g_z17 : (-2147483648) ≤ s0 212 b.toNat ∧ s0 212 b.toNat ≤ 2147483647 := hG0 212 b.toNat
      refine x_A k18_83 (fun _ => rfl) ?_
      refine x_A k18_84 (fun _ => rfl) ?_
      refine x_ishl_any k18_85 (fun z18 g_z18 => ?_)
      unfold in32 at g_z18
      refine x_ior_any k18_86 (fun z19 g_z19 => ?_)
      unfold in32 at g_z19
      refine x_iast k18_87 (q := 212) (n := 6) ⟨by decide, rfl⟩ (by decide) (by first | exact x_rbl b_b rfl rfl | exact ⟨by omega, by omega⟩) ?_
      refine x_nh (fun s20 e_s20 => ?_)
      have hG_s20 : GI s20 := by rw [e_s20]; exact hG0.up (show (-2147483648) ≤ z19 ∧ z19 ≤ 2147483647 from (by first | exact x_rbe e_z19 g_z19 rfl rfl | exact x_rb g_z19 rfl rfl | exact ⟨by omega, by omega⟩))
      have f_s20 : FL [1921, 1926, 1927, 1928, 1984, 2048, 2112, 2176] s0 s20 := by rw [e_s20]; exact f0.up (show 2112 ∈ [1921, 1926, 1927, 1928, 1984, 2048, 2112, 2176] from by decide +kernel)
      have q21 : s20 212 b.toNat = z19 := by rw [e_s20]; exact x_up_same
      refine x_A k18_88 (fun _ => rfl) ?_
      refine x_A k18_89 (fun _ => rfl) ?_
      refine x_getI k18_90 (f := 6) rfl (q := 209) (n := 8) (kd := 9) ⟨by decide, rfl⟩ (by decide) rfl ?_
      refine x_top (fun z22 e_z22 => ?_)
      have g_z22 : (-2147483648) ≤ s20 209 6 ∧ s20 209 6 ≤ 2147483647 := hG_s20 209 6
      refine x_A k18_93 (fun _ => rfl) ?_
      refine x_iadd k18_94 ?_
      refine x_topW (fun z23 g_z23 => ?_)
      unfold in32 at g_z23
      refine x_putI k18_95 (f := 6) rfl (q := 209) (n := 8) (kd := 9) ⟨by decide, rfl⟩ rfl rfl rfl ?_
      refine x_nh (fun s24 e_s24 => ?_)
      have hG_s24 : GI s24 := by rw [e_s24]; exact hG_s20.up (show (-2147483648) ≤ z23 ∧ z23 ≤ 2147483647 from (by first | exact x_rbe e_z23 g_z23 rfl rfl | exact x_rb g_z23 rfl rfl | exact ⟨by omega, by omega⟩))
      have f_s24 : FL [1921, 1926, 1927, 1928, 1984, 2048, 2112, 2176] s0 s24 := by rw [e_s24]; exact f_s20.up (show 1927 ∈ [1921, 1926, 1927, 1928, 1984, 2048, 2112, 2176] from by decide +kernel)
      have q25 : s24 209 6 = z23 := by rw [e_s24]; exact x_up_same
      have q26 : s24 212 b.toNat = z19 := by rw [e_s24, x_up_q (by first | decide | omega)]; exact q21
      refine x_goto k18_98 (t := 134) rfl ?_
      exact x_vret k18_134 rfl ⟨hG_s24, f_s24, rfl⟩
  · rw [c1]
    refine x_B k18_1 rfl (fun _ => rfl) (fun _ => rfl) (fun _ _ => rfl) ?_
    show xe none 18 101 [(0, .ref 209), (1, vi 4), (2, vi b), (3, vi d)] [] s0 0 0 _
    refine x_A k18_101 (fun _ => rfl) ?_
    refine x_getR k18_102 (f := 4) rfl (q := 209) (n := 8) (kd := 9) ⟨by decide, rfl⟩ (q2 := 213) (by decide) rfl ?_
    refine x_A k18_105 (fun _ => rfl) ?_
    refine x_A k18_106 (fun _ => rfl) ?_
    refine x_lald k18_107 (q := 213) (n := 40) ⟨by decide, rfl⟩ (by decide) (by first | exact x_rbl b_b rfl rfl | exact ⟨by omega, by omega⟩) ?_
    refine x_topL (fun z27 e_z27 => ?_)
    have b_z27 : in64 z27 := by rw [e_z27]; exact hG0 213 b.toNat
    refine x_lconst k18_108 (z := 1) (by decide +kernel) ?_
    refine x_A k18_109 (fun _ => rfl) ?_
    refine x_lshl_any k18_110 (fun z28 b_z28 => ?_)
    refine x_lor_any k18_111 (fun z29 b_z29 => ?_)
    refine x_last k18_112 (q := 213) (n := 40) ⟨by decide, rfl⟩ (by decide) (by first | exact x_rbl b_b rfl rfl | exact ⟨by omega, by omega⟩) ?_
    refine x_nh (fun s30 e_s30 => ?_)
    have hG_s30 : GI s30 := by rw [e_s30]; exact hG0.up (show in64 z29 from b_z29)
    have f_s30 : FL [1921, 1926, 1927, 1928, 1984, 2048, 2112, 2176] s0 s30 := by rw [e_s30]; exact f0.up (show 2176 ∈ [1921, 1926, 1927, 1928, 1984, 2048, 2112, 2176] from by decide +kernel)
    refine x_A k18_113 (fun _ => rfl) ?_
    refine x_A k18_114 (fun _ => rfl) ?_
    refine x_getI k18_115 (f := 7) rfl (q := 209) (n := 8) (kd := 9) ⟨by decide, rfl⟩ (by decide) rfl ?_
    refine x_top (fun z31 e_z31 => ?_)
    have g_z31 : (-2147483648) ≤ s30 209 7 ∧ s30 209 7 ≤ 2147483647 := hG_s30 209 7
    refine x_A k18_118 (fun _ => rfl) ?_
    refine x_iadd k18_119 ?_
    refine x_topW (fun z32 g_z32 => ?_)
    unfold in32 at g_z32
    refine x_putI k18_120 (f := 7) rfl (q := 209) (n := 8) (kd := 9) ⟨by decide, rfl⟩ rfl rfl rfl ?_
    refine x_nh (fun s33 e_s33 => ?_)
    have hG_s33 : GI s33 := by rw [e_s33]; exact hG_s30.up (show (-2147483648) ≤ z32 ∧ z32 ≤ 2147483647 from (by first | exact x_rbe e_z32 g_z32 rfl rfl | exact x_rb g_z32 rfl rfl | exact ⟨by omega, by omega⟩))
    have f_s33 : FL [1921, 1926, 1927, 1928, 1984, 2048, 2112, 2176] s0 s33 := by rw [e_s33]; exact f_s30.up (show 1928 ∈ [1921, 1926, 1927, 1928, 1984, 2048, 2112, 2176] from by decide +kernel)
    have q34 : s33 209 7 = z32 := by rw [e_s33]; exact x_up_same
    refine x_goto k18_123 (t := 134) rfl ?_
    exact x_vret k18_134 rfl ⟨hG_s33, f_s33, rfl⟩
  · rw [c1]
    refine x_B k18_1 rfl (fun _ => rfl) (fun _ => rfl) (fun _ _ => rfl) ?_
    show xe none 18 126 [(0, .ref 209), (1, vi 5), (2, vi b), (3, vi d)] [] s0 0 0 _
    refine x_A k18_126 (fun _ => rfl) ?_
    refine x_A k18_127 (fun _ => rfl) ?_
    refine x_putI k18_128 (f := 0) rfl (q := 209) (n := 8) (kd := 9) ⟨by decide, rfl⟩ rfl rfl rfl ?_
    refine x_nh (fun s35 e_s35 => ?_)
    have hG_s35 : GI s35 := by rw [e_s35]; exact hG0.up (show (-2147483648) ≤ b ∧ b ≤ 2147483647 from (by first | exact x_rb b_b rfl rfl | exact ⟨by omega, by omega⟩))
    have f_s35 : FL [1921, 1926, 1927, 1928, 1984, 2048, 2112, 2176] s0 s35 := by rw [e_s35]; exact f0.up (show 1921 ∈ [1921, 1926, 1927, 1928, 1984, 2048, 2112, 2176] from by decide +kernel)
    have q36 : s35 209 0 = b := by rw [e_s35]; exact x_up_same
    refine x_goto k18_131 (t := 134) rfl ?_
    exact x_vret k18_134 rfl ⟨hG_s35, f_s35, rfl⟩
  · refine x_tabD k18_1 ⟨by omega, by omega⟩ c1 (t0 := 134) rfl ?_
    exact x_vret k18_134 rfl ⟨hG0, f0, rfl⟩
theorem L_C_X1_apply_209_179_2 (s0 : xS) (hJ0 : J s0) (a : Int) (b_a : 0 ≤ a ∧ a ≤ 7) (pa : a < s0 179 5)  : ∀ (n : Nat) (s : xS) (x2 : Int) (x3 : Int) (x1000 : Int) (hG : GI s) (f : FL [1921, 1926, 1927, 1928, 1984, 2048, 2112, 2176] s0 s) (b_x2 : 0 ≤ x2 ∧ x2 ≤ 7) (b_x3 : 0 ≤ x3 ∧ x3 ≤ 8) (b_x1000 : 0 ≤ x1000 ∧ x1000 ≤ 8) (w_0 : x2 < x1000) (e_x1000 : x1000 = s 179 5)  (hm : (8 - x3) < (n : Int)), xe none 17 2 [(0, .ref 209), (1, .ref 179), (2, vi x2), (3, vi x3)] [] s 0 0 (fun s' v => GI s' ∧ FL [1921, 1926, 1927, 1928, 1984, 2048, 2112, 2176] s0 s' ∧ v = none) := by
  intro n
  induction n with
  | zero => intro s x2 x3 x1000 hG f b_x2 b_x3 b_x1000 w_0 e_x1000  hm; exfalso; omega
  | succ n ih =>
    intro s x2 x3 x1000 hG f b_x2 b_x3 b_x1000 w_0 e_x1000  hm
    refine x_A k17_2 (fun _ => rfl) ?_
    refine x_A k17_3 (fun _ => rfl) ?_
    refine x_getR k17_4 (f := 1) rfl (q := 179) (n := 6) (kd := 8) ⟨by decide, rfl⟩ (q2 := 181) (by decide) rfl ?_
    refine x_A k17_7 (fun _ => rfl) ?_
    refine x_iald k17_8 (q := 181) (n := 8) ⟨by decide, rfl⟩ (by decide) (by first | exact x_rbl b_x2 rfl rfl | exact ⟨by omega, by omega⟩) ?_
    refine x_top (fun z99 e_z99 => ?_)
    have g_z99 : (0 : Int) ≤ s 181 x2.toNat ∧ s 181 x2.toNat ≤ 9 := hG 181 x2.toNat
    refine x_ic_ge k17_9 (t := 46) rfl (by first | exact x_rb b_x3 rfl rfl | exact ⟨by omega, by omega⟩) (by first | exact x_rbe e_z99 g_z99 rfl rfl | exact x_rb g_z99 rfl rfl | exact ⟨by omega, by omega⟩) (fun c100 => ?_) (fun c100 => ?_)
    · skip
      exact x_vret k17_46 rfl ⟨hG, f, rfl⟩
    · skip
      have cr101 := (hJ0.fl f (by decide +kernel)).cr x2 x3 ⟨by omega, by omega⟩ (by omega) (by omega) (by rw [e_z99.symm]; omega)
      refine x_A k17_12 (fun _ => rfl) ?_
      refine x_A k17_13 (fun _ => rfl) ?_
      refine x_getR k17_14 (f := 2) rfl (q := 179) (n := 6) (kd := 8) ⟨by decide, rfl⟩ (q2 := 182) (by decide) rfl ?_
      refine x_A k17_17 (fun _ => rfl) ?_
      refine x_aald k17_18 (q := 182) (t := 23) (n := 8) ⟨by decide, rfl⟩ (by decide) (by decide) ⟨by omega, by omega⟩ ?_
      refine x_A k17_19 (fun _ => rfl) ?_
      refine x_iald k17_20 (q := (182 + 1 + x2.toNat)) (n := 8) (xg_183 (by omega) (by omega)) (by decide) (by first | exact x_rbl b_x3 rfl rfl | exact ⟨by omega, by omega⟩) ?_
      refine x_top (fun z102 e_z102 => ?_)
      have r_z102 := hG (182 + 1 + x2.toNat) x3.toNat
      rw [(gr_183 x3.toNat (show 183 ≤ (182 + 1 + x2.toNat) by omega) (by omega)).1, (gr_183 x3.toNat (show 183 ≤ (182 + 1 + x2.toNat) by omega) (by omega)).2.1, ← e_z102] at r_z102
      refine x_A k17_21 (fun _ => rfl) ?_
      refine x_getR k17_22 (f := 3) rfl (q := 179) (n := 6) (kd := 8) ⟨by decide, rfl⟩ (q2 := 191) (by decide) rfl ?_
      refine x_A k17_25 (fun _ => rfl) ?_
      refine x_aald k17_26 (q := 191) (t := 23) (n := 8) ⟨by decide, rfl⟩ (by decide) (by decide) ⟨by omega, by omega⟩ ?_
      refine x_A k17_27 (fun _ => rfl) ?_
      refine x_iald k17_28 (q := (191 + 1 + x2.toNat)) (n := 8) (xg_192 (by omega) (by omega)) (by decide) (by first | exact x_rbl b_x3 rfl rfl | exact ⟨by omega, by omega⟩) ?_
      refine x_top (fun z103 e_z103 => ?_)
      have r_z103 := hG (191 + 1 + x2.toNat) x3.toNat
      rw [(gr_192 x3.toNat (show 192 ≤ (191 + 1 + x2.toNat) by omega) (by omega)).1, (gr_192 x3.toNat (show 192 ≤ (191 + 1 + x2.toNat) by omega) (by omega)).2.1, ← e_z103] at r_z103
      refine x_A k17_29 (fun _ => rfl) ?_
      refine x_getR k17_30 (f := 4) rfl (q := 179) (n := 6) (kd := 8) ⟨by decide, rfl⟩ (q2 := 200) (by decide) rfl ?_
      refine x_A k17_33 (fun _ => rfl) ?_
      refine x_aald k17_34 (q := 200) (t := 23) (n := 8) ⟨by decide, rfl⟩ (by decide) (by decide) ⟨by omega, by omega⟩ ?_
      refine x_A k17_35 (fun _ => rfl) ?_
      refine x_iald k17_36 (q := (200 + 1 + x2.toNat)) (n := 8) (xg_201 (by omega) (by omega)) (by decide) (by first | exact x_rbl b_x3 rfl rfl | exact ⟨by omega, by omega⟩) ?_
      refine x_top (fun z104 e_z104 => ?_)
      have r_z104 := hG (200 + 1 + x2.toNat) x3.toNat
      rw [(gr_201 x3.toNat (show 201 ≤ (200 + 1 + x2.toNat) by omega) (by omega)).1, (gr_201 x3.toNat (show 201 ≤ (200 + 1 + x2.toNat) by omega) (by omega)).2.1, ← e_z104] at r_z104
      rw [e_z102.symm, e_z103.symm, e_z104.symm] at cr101
      refine x_callV k17_37 (y := 18) (n := 3) (w0 := 0) (w1 := 3) (as := [vi z102, vi z103, vi z104]) (rest := []) (by decide +kernel) (q := 209) (nq := 8) (kq := 9) ⟨by decide, rfl⟩ rfl rfl rfl rfl (xe_mono (C_X1_applyClause_209 s hG z102 (by first | exact x_rbe e_z102 g_z102 rfl rfl | exact x_rb g_z102 rfl rfl | exact ⟨by omega, by omega⟩) z103 (by first | exact x_rbe e_z103 g_z103 rfl rfl | exact x_rb g_z103 rfl rfl | exact ⟨by omega, by omega⟩) z104 (by first | exact x_rbe e_z104 g_z104 rfl rfl | exact x_rb g_z104 rfl rfl | exact ⟨by omega, by omega⟩) (by omega)) ?_)
      rintro s106 v ⟨hG_s106, t_s106, rfl⟩
      have f_s106 : FL [1921, 1926, 1927, 1928, 1984, 2048, 2112, 2176] s0 s106 := f.tr t_s106 (by decide +kernel)
      have q107 : s106 179 5 = x1000 := (t_s106 179 5 (show 1350 ∉ [1921, 1926, 1927, 1928, 1984, 2048, 2112, 2176] from by decide +kernel)).trans e_x1000.symm
      have q108 : s106 181 x2.toNat = z99 := (t_s106 181 x2.toNat (show 1472 ∉ [1921, 1926, 1927, 1928, 1984, 2048, 2112, 2176] from by decide +kernel)).trans e_z99.symm
      show xe none 17 40 [(0, .ref 209), (1, .ref 179), (2, vi x2), (3, vi x3)] [] s106 0 0 _
      refine x_iinc k17_40 (ls' := [(3, vi (x3 + 1)), (0, .ref 209), (1, .ref 179), (2, vi x2)]) rfl (by decide) rfl ?_
      refine x_goto k17_43 (t := 2) rfl ?_
      refine x_ls (l := [(0, .ref 209), (1, .ref 179), (2, vi x2), (3, vi (x3 + 1))]) (show ([0, 1, 2, 3] : List Nat).Nodup from by decide +kernel) ⟨rfl, rfl, rfl, rfl, trivial⟩ ?_
      exact ih s106 x2 (x3 + 1) x1000 hG_s106 f_s106 (by first | exact x_rb b_x2 rfl rfl | exact ⟨by omega, by omega⟩) ⟨by omega, by omega⟩ (by first | exact x_rb b_x1000 rfl rfl | exact ⟨by omega, by omega⟩) (by omega) (q107).symm  (by omega)
theorem C_X1_apply_209_179 (s0 : xS) (hG0 : GI s0) (hJ0 : J s0) (a : Int) (b_a : 0 ≤ a ∧ a ≤ 7) (pa : a < s0 179 5) : xe none 17 0 (lv_args 0 [.ref 209, .ref 179, vi a]) [] s0 0 0 (fun s' v => GI s' ∧ FL [1921, 1926, 1927, 1928, 1984, 2048, 2112, 2176] s0 s' ∧ v = none) := by
  have f0 : FL [1921, 1926, 1927, 1928, 1984, 2048, 2112, 2176] s0 s0 := FL.rf
  show xe none 17 0 [(0, .ref 209), (1, .ref 179), (2, vi a)] [] s0 0 0 _
  refine x_A k17_0 (fun _ => rfl) ?_
  refine x_istore_n k17_1 (ls' := [(3, vi 0), (0, .ref 209), (1, .ref 179), (2, vi a)]) (by decide) rfl ?_
  obtain ⟨z109, e_z109⟩ : ∃ z, z = s0 179 5 := ⟨_, rfl⟩
  have g_z109 : (0 : Int) ≤ s0 179 5 ∧ s0 179 5 ≤ 8 := hG0 179 5
  refine x_ls (l := [(0, .ref 209), (1, .ref 179), (2, vi a), (3, vi 0)]) (show ([0, 1, 2, 3] : List Nat).Nodup from by decide +kernel) ⟨rfl, rfl, rfl, rfl, trivial⟩ ?_
  exact L_C_X1_apply_209_179_2 s0 hJ0 a b_a pa  (((8 - 0) + 1 : Int)).toNat s0 a 0 z109 hG0 f0 (by first | exact x_rb b_a rfl rfl | exact ⟨by omega, by omega⟩) ⟨by decide, by decide⟩ (by first | exact x_rbe e_z109 g_z109 rfl rfl | exact x_rb g_z109 rfl rfl | exact ⟨by omega, by omega⟩) (by omega) (e_z109.symm).symm  (by omega)
theorem L_C_X1_setTo_209_179_29 (s0 : xS) (hJ0 : J s0) (n_13 : Nat) (ih_13 : ∀ (s : xS) (x2 : Int) (x3 : Int) (x4 : Int) (x1000 : Int) (hG : GI s) (f : FL [1921, 1926, 1927, 1928, 1984, 2048, 2112, 2176] s0 s) (b_x2 : (-2147483648) ≤ x2 ∧ x2 ≤ 2147483647) (b_x3 : (-2147483648) ≤ x3 ∧ x3 ≤ 2147483647) (b_x4 : 0 ≤ x4 ∧ x4 ≤ 10) (b_x1000 : 0 ≤ x1000 ∧ x1000 ≤ 8) (e_x1000 : x1000 = s 179 5) (hm : (10 - x4) < (n_13 : Int)), xe none 16 13 [(0, .ref 209), (1, .ref 179), (2, vi x2), (3, vi x3), (4, vi x4)] [] s 0 0 (fun s' v => GI s' ∧ FL [1921, 1926, 1927, 1928, 1984, 2048, 2112, 2176] s0 s' ∧ v = none)) : ∀ (n : Nat) (s : xS) (x2 : Int) (x3 : Int) (x4 : Int) (x5 : Int) (x1000 : Int) (hG : GI s) (f : FL [1921, 1926, 1927, 1928, 1984, 2048, 2112, 2176] s0 s) (b_x2 : 0 ≤ x2 ∧ x2 ≤ 2147483647) (b_x3 : (-2147483648) ≤ x3 ∧ x3 ≤ 2147483647) (b_x4 : 0 ≤ x4 ∧ x4 ≤ 9) (b_x5 : 0 ≤ x5 ∧ x5 ≤ 8) (b_x1000 : 0 ≤ x1000 ∧ x1000 ≤ 8) (r_5_1000 : x5 ≤ x1000 + 0) (r_4_2 : x4 ≤ x2 + 0) (e_x1000 : x1000 = s 179 5) (k_13 : (10 - x4) < (n_13 : Int) + 1) (hm : (8 - x5) < (n : Int)), xe none 16 29 [(0, .ref 209), (1, .ref 179), (2, vi x2), (3, vi x3), (4, vi x4), (5, vi x5)] [] s 0 0 (fun s' v => GI s' ∧ FL [1921, 1926, 1927, 1928, 1984, 2048, 2112, 2176] s0 s' ∧ v = none) := by
  intro n
  induction n with
  | zero => intro s x2 x3 x4 x5 x1000 hG f b_x2 b_x3 b_x4 b_x5 b_x1000 r_5_1000 r_4_2 e_x1000 k_13 hm; exfalso; omega
  | succ n ih =>
    intro s x2 x3 x4 x5 x1000 hG f b_x2 b_x3 b_x4 b_x5 b_x1000 r_5_1000 r_4_2 e_x1000 k_13 hm
    refine x_A k16_29 (fun _ => rfl) ?_
    refine x_A k16_31 (fun _ => rfl) ?_
    refine x_getI k16_32 (f := 5) rfl (q := 179) (n := 6) (kd := 8) ⟨by decide, rfl⟩ (by decide) rfl ?_
    rw [e_x1000.symm]
    refine x_ic_ge k16_35 (t := 72) rfl (by first | exact x_rb b_x5 rfl rfl | exact ⟨by omega, by omega⟩) (by first | exact x_rb b_x1000 rfl rfl | exact ⟨by omega, by omega⟩) (fun c190 => ?_) (fun c190 => ?_)
    · skip
      refine x_iinc k16_72 (ls' := [(4, vi (x4 + 1)), (0, .ref 209), (1, .ref 179), (2, vi x2), (3, vi x3), (5, vi x5)]) rfl (by decide) rfl ?_
      refine x_goto k16_75 (t := 13) rfl ?_
      refine x_ls (l := [(0, .ref 209), (1, .ref 179), (2, vi x2), (3, vi x3), (4, vi (x4 + 1))]) (show ([0, 1, 2, 3, 4] : List Nat).Nodup from by decide +kernel) ⟨rfl, rfl, rfl, rfl, rfl, trivial⟩ ?_
      exact ih_13 s x2 x3 (x4 + 1) x1000 hG f (by first | exact x_rb b_x2 rfl rfl | exact ⟨by omega, by omega⟩) (by first | exact x_rb b_x3 rfl rfl | exact ⟨by omega, by omega⟩) ⟨by omega, by omega⟩ (by first | exact x_rb b_x1000 rfl rfl | exact ⟨by omega, by omega⟩) (e_x1000.symm).symm (by omega)
    · skip
      refine x_A k16_38 (fun _ => rfl) ?_
      refine x_getR k16_39 (f := 0) rfl (q := 179) (n := 6) (kd := 8) ⟨by decide, rfl⟩ (q2 := 180) (by decide) rfl ?_
      refine x_A k16_42 (fun _ => rfl) ?_
      refine x_iald k16_44 (q := 180) (n := 8) ⟨by decide, rfl⟩ (by decide) (by first | exact x_rbl b_x5 rfl rfl | exact ⟨by omega, by omega⟩) ?_
      refine x_top (fun z191 e_z191 => ?_)
      have g_z191 : (0 : Int) ≤ s 180 x5.toNat ∧ s 180 x5.toNat ≤ 9 := hG 180 x5.toNat
      refine x_A k16_45 (fun _ => rfl) ?_
      refine x_ic_ne k16_47 (t := 66) rfl (by first | exact x_rbe e_z191 g_z191 rfl rfl | exact x_rb g_z191 rfl rfl | exact ⟨by omega, by omega⟩) (by first | exact x_rb b_x4 rfl rfl | exact ⟨by omega, by omega⟩) (fun c192 => ?_) (fun c192 => ?_)
      · skip
        refine x_iinc k16_66 (ls' := [(5, vi (x5 + 1)), (0, .ref 209), (1, .ref 179), (2, vi x2), (3, vi x3), (4, vi x4)]) rfl (by decide) rfl ?_
        refine x_goto k16_69 (t := 29) rfl ?_
        refine x_ls (l := [(0, .ref 209), (1, .ref 179), (2, vi x2), (3, vi x3), (4, vi x4), (5, vi (x5 + 1))]) (show ([0, 1, 2, 3, 4, 5] : List Nat).Nodup from by decide +kernel) ⟨rfl, rfl, rfl, rfl, rfl, rfl, trivial⟩ ?_
        exact ih s x2 x3 x4 (x5 + 1) x1000 hG f (by first | exact x_rb b_x2 rfl rfl | exact ⟨by omega, by omega⟩) (by first | exact x_rb b_x3 rfl rfl | exact ⟨by omega, by omega⟩) (by first | exact x_rb b_x4 rfl rfl | exact ⟨by omega, by omega⟩) ⟨by omega, by omega⟩ (by first | exact x_rb b_x1000 rfl rfl | exact ⟨by omega, by omega⟩) (by omega) (by omega) (e_x1000.symm).symm (by omega) (by omega)
      · skip
        refine x_A k16_50 (fun _ => rfl) ?_
        refine x_A k16_51 (fun _ => rfl) ?_
        refine x_iushr_any k16_53 (fun z193 g_z193 => ?_)
        unfold in32 at g_z193
        refine x_A k16_54 (fun _ => rfl) ?_
        refine x_and_mask k16_55 ⟨by omega, by omega⟩ (fun z194 g_z194 => ?_)
        refine x_if_eq k16_56 (t := 66) rfl (by first | exact x_rbe e_z194 g_z194 rfl rfl | exact x_rb g_z194 rfl rfl | exact ⟨by omega, by omega⟩) (fun c195 => ?_) (fun c195 => ?_)
        · skip
          refine x_iinc k16_66 (ls' := [(5, vi (x5 + 1)), (0, .ref 209), (1, .ref 179), (2, vi x2), (3, vi x3), (4, vi x4)]) rfl (by decide) rfl ?_
          refine x_goto k16_69 (t := 29) rfl ?_
          refine x_ls (l := [(0, .ref 209), (1, .ref 179), (2, vi x2), (3, vi x3), (4, vi x4), (5, vi (x5 + 1))]) (show ([0, 1, 2, 3, 4, 5] : List Nat).Nodup from by decide +kernel) ⟨rfl, rfl, rfl, rfl, rfl, rfl, trivial⟩ ?_
          exact ih s x2 x3 x4 (x5 + 1) x1000 hG f (by first | exact x_rb b_x2 rfl rfl | exact ⟨by omega, by omega⟩) (by first | exact x_rb b_x3 rfl rfl | exact ⟨by omega, by omega⟩) (by first | exact x_rb b_x4 rfl rfl | exact ⟨by omega, by omega⟩) ⟨by omega, by omega⟩ (by first | exact x_rb b_x1000 rfl rfl | exact ⟨by omega, by omega⟩) (by omega) (by omega) (e_x1000.symm).symm (by omega) (by omega)
        · skip
          refine x_A k16_59 (fun _ => rfl) ?_
          refine x_A k16_60 (fun _ => rfl) ?_
          refine x_A k16_61 (fun _ => rfl) ?_
          refine x_callV k16_63 (y := 17) (n := 2) (w0 := 0) (w1 := 2) (as := [.ref 179, vi x5]) (rest := []) (by decide +kernel) (q := 209) (nq := 8) (kq := 9) ⟨by decide, rfl⟩ rfl rfl rfl rfl (xe_mono (C_X1_apply_209_179 s hG (hJ0.fl f (by decide +kernel)) x5 (by first | exact x_rb b_x5 rfl rfl | exact ⟨by omega, by omega⟩) (by omega)) ?_)
          rintro s197 v ⟨hG_s197, t_s197, rfl⟩
          have f_s197 : FL [1921, 1926, 1927, 1928, 1984, 2048, 2112, 2176] s0 s197 := f.tr t_s197 (by decide +kernel)
          have q198 : s197 179 5 = x1000 := (t_s197 179 5 (show 1350 ∉ [1921, 1926, 1927, 1928, 1984, 2048, 2112, 2176] from by decide +kernel)).trans e_x1000.symm
          have q199 : s197 180 x5.toNat = z191 := (t_s197 180 x5.toNat (show 1408 ∉ [1921, 1926, 1927, 1928, 1984, 2048, 2112, 2176] from by decide +kernel)).trans e_z191.symm
          show xe none 16 66 [(0, .ref 209), (1, .ref 179), (2, vi x2), (3, vi x3), (4, vi x4), (5, vi x5)] [] s197 0 0 _
          refine x_iinc k16_66 (ls' := [(5, vi (x5 + 1)), (0, .ref 209), (1, .ref 179), (2, vi x2), (3, vi x3), (4, vi x4)]) rfl (by decide) rfl ?_
          refine x_goto k16_69 (t := 29) rfl ?_
          refine x_ls (l := [(0, .ref 209), (1, .ref 179), (2, vi x2), (3, vi x3), (4, vi x4), (5, vi (x5 + 1))]) (show ([0, 1, 2, 3, 4, 5] : List Nat).Nodup from by decide +kernel) ⟨rfl, rfl, rfl, rfl, rfl, rfl, trivial⟩ ?_
          exact ih s197 x2 x3 x4 (x5 + 1) x1000 hG_s197 f_s197 (by first | exact x_rb b_x2 rfl rfl | exact ⟨by omega, by omega⟩) (by first | exact x_rb b_x3 rfl rfl | exact ⟨by omega, by omega⟩) (by first | exact x_rb b_x4 rfl rfl | exact ⟨by omega, by omega⟩) ⟨by omega, by omega⟩ (by first | exact x_rb b_x1000 rfl rfl | exact ⟨by omega, by omega⟩) (by omega) (by omega) (q198).symm (by omega) (by omega)
theorem L_C_X1_setTo_209_179_13 (s0 : xS) (hJ0 : J s0)  : ∀ (n : Nat) (s : xS) (x2 : Int) (x3 : Int) (x4 : Int) (x1000 : Int) (hG : GI s) (f : FL [1921, 1926, 1927, 1928, 1984, 2048, 2112, 2176] s0 s) (b_x2 : (-2147483648) ≤ x2 ∧ x2 ≤ 2147483647) (b_x3 : (-2147483648) ≤ x3 ∧ x3 ≤ 2147483647) (b_x4 : 0 ≤ x4 ∧ x4 ≤ 10) (b_x1000 : 0 ≤ x1000 ∧ x1000 ≤ 8) (e_x1000 : x1000 = s 179 5)  (hm : (10 - x4) < (n : Int)), xe none 16 13 [(0, .ref 209), (1, .ref 179), (2, vi x2), (3, vi x3), (4, vi x4)] [] s 0 0 (fun s' v => GI s' ∧ FL [1921, 1926, 1927, 1928, 1984, 2048, 2112, 2176] s0 s' ∧ v = none) := by
  intro n
  induction n with
  | zero => intro s x2 x3 x4 x1000 hG f b_x2 b_x3 b_x4 b_x1000 e_x1000  hm; exfalso; omega
  | succ n ih =>
    intro s x2 x3 x4 x1000 hG f b_x2 b_x3 b_x4 b_x1000 e_x1000  hm
    refine x_A k16_13 (fun _ => rfl) ?_
    refine x_A k16_15 (fun _ => rfl) ?_
    refine x_ic_gt k16_16 (t := 78) rfl (by first | exact x_rb b_x4 rfl rfl | exact ⟨by omega, by omega⟩) (by first | exact x_rb b_x2 rfl rfl | exact ⟨by omega, by omega⟩) (fun c200 => ?_) (fun c200 => ?_)
    · skip
      exact x_vret k16_78 rfl ⟨hG, f, rfl⟩
    · skip
      refine x_A k16_19 (fun _ => rfl) ?_
      refine x_bipush k16_21 (by decide +kernel) ?_
      refine x_ic_ge k16_23 (t := 78) rfl (by first | exact x_rb b_x4 rfl rfl | exact ⟨by omega, by omega⟩) ⟨by decide, by decide⟩ (fun c201 => ?_) (fun c201 => ?_)
      · skip
        exact x_vret k16_78 rfl ⟨hG, f, rfl⟩
      · skip
        refine x_A k16_26 (fun _ => rfl) ?_
        refine x_istore k16_27 (ls' := [(5, vi 0), (0, .ref 209), (1, .ref 179), (2, vi x2), (3, vi x3), (4, vi x4)]) (by decide) rfl ?_
        refine x_ls (l := [(0, .ref 209), (1, .ref 179), (2, vi x2), (3, vi x3), (4, vi x4), (5, vi 0)]) (show ([0, 1, 2, 3, 4, 5] : List Nat).Nodup from by decide +kernel) ⟨rfl, rfl, rfl, rfl, rfl, rfl, trivial⟩ ?_
        exact L_C_X1_setTo_209_179_29 s0 hJ0 n (fun s x2 x3 x4 x1000 hG f b_x2 b_x3 b_x4 b_x1000 e_x1000 hm => ih s x2 x3 x4 x1000 hG f b_x2 b_x3 b_x4 b_x1000 e_x1000  hm) (((8 - 0) + 1 : Int)).toNat s x2 x3 x4 0 x1000 hG f (by first | exact x_rb b_x2 rfl rfl | exact ⟨by omega, by omega⟩) (by first | exact x_rb b_x3 rfl rfl | exact ⟨by omega, by omega⟩) (by first | exact x_rb b_x4 rfl rfl | exact ⟨by omega, by omega⟩) ⟨by decide, by decide⟩ (by first | exact x_rb b_x1000 rfl rfl | exact ⟨by omega, by omega⟩) (by omega) (by omega) (e_x1000.symm).symm (by omega) (by omega)
theorem C_X1_setTo_209_179 (s0 : xS) (hG0 : GI s0) (hJ0 : J s0) (a : Int) (b_a : (-2147483648) ≤ a ∧ a ≤ 2147483647) : xe none 16 0 (lv_args 0 [.ref 209, .ref 179, vi a]) [] s0 0 0 (fun s' v => GI s' ∧ FL [1921, 1926, 1927, 1928, 1984, 2048, 2112, 2176] s0 s' ∧ v = none) := by
  have f0 : FL [1921, 1926, 1927, 1928, 1984, 2048, 2112, 2176] s0 s0 := FL.rf
  show xe none 16 0 [(0, .ref 209), (1, .ref 179), (2, vi a)] [] s0 0 0 _
  refine x_A k16_0 (fun _ => rfl) ?_
  refine x_callV k16_1 (y := 15) (n := 0) (w0 := 0) (w1 := 0) (as := []) (rest := []) (by decide +kernel) (q := 209) (nq := 8) (kq := 9) ⟨by decide, rfl⟩ rfl rfl rfl rfl (xe_mono (C_X1_clear_209 s0 hG0) ?_)
  rintro s203 v ⟨hG_s203, t_s203, rfl⟩
  have f_s203 : FL [1921, 1926, 1927, 1928, 1984, 2048, 2112, 2176] s0 s203 := f0.tr t_s203 (by decide +kernel)
  show xe none 16 4 [(0, .ref 209), (1, .ref 179), (2, vi a)] [] s203 0 0 _
  refine x_A k16_4 (fun _ => rfl) ?_
  refine x_A k16_5 (fun _ => rfl) ?_
  refine x_callV k16_6 (y := 41) (n := 1) (w0 := 0) (w1 := 1) (as := [vi a]) (rest := []) (by decide +kernel) (q := 179) (nq := 6) (kq := 8) ⟨by decide, rfl⟩ rfl rfl rfl rfl (xe_mono (C_X4_counting_179 s203 hG_s203 (hJ0.fl f_s203 (by decide +kernel)) a (by first | exact x_rb b_a rfl rfl | exact ⟨by omega, by omega⟩)) ?_)
  rintro s205 v ⟨-, t_s205, z204, rfl, g_z204⟩
  rw [t_s205.nil]
  show xe none 16 9 [(0, .ref 209), (1, .ref 179), (2, vi a)] [vi z204] s203 0 0 _
  refine x_istore_n k16_9 (ls' := [(3, vi z204), (0, .ref 209), (1, .ref 179), (2, vi a)]) (by decide) rfl ?_
  refine x_A k16_10 (fun _ => rfl) ?_
  refine x_istore k16_11 (ls' := [(4, vi 0), (3, vi z204), (0, .ref 209), (1, .ref 179), (2, vi a)]) (by decide) rfl ?_
  obtain ⟨z206, e_z206⟩ : ∃ z, z = s203 179 5 := ⟨_, rfl⟩
  have g_z206 : (0 : Int) ≤ s203 179 5 ∧ s203 179 5 ≤ 8 := hG_s203 179 5
  refine x_ls (l := [(0, .ref 209), (1, .ref 179), (2, vi a), (3, vi z204), (4, vi 0)]) (show ([0, 1, 2, 3, 4] : List Nat).Nodup from by decide +kernel) ⟨rfl, rfl, rfl, rfl, rfl, trivial⟩ ?_
  exact L_C_X1_setTo_209_179_13 s0 hJ0  (((10 - 0) + 1 : Int)).toNat s203 a z204 0 z206 hG_s203 f_s203 (by first | exact x_rb b_a rfl rfl | exact ⟨by omega, by omega⟩) (by first | exact x_rbe e_z204 g_z204 rfl rfl | exact x_rb g_z204 rfl rfl | exact ⟨by omega, by omega⟩) ⟨by decide, by decide⟩ (by first | exact x_rbe e_z206 g_z206 rfl rfl | exact x_rb g_z206 rfl rfl | exact ⟨by omega, by omega⟩) (e_z206.symm).symm  (by omega)
theorem C_X1_applyClause_244 (s0 : xS) (hG0 : GI s0) (a : Int) (b_a : (-1) ≤ a ∧ a ≤ 6) (b : Int) (b_b : (-1) ≤ b ∧ b ≤ 99) (d : Int) (b_d : (-1) ≤ d ∧ d ≤ 99) (pa : ((a = 1 ∨ a = 2 ∨ a = 3) → 0 ≤ b ∧ b ≤ 5) ∧ (a = 3 → 0 ≤ d ∧ d ≤ 5) ∧ (a = 4 → 0 ≤ b ∧ b ≤ 39)) : xe none 18 0 (lv_args 0 [.ref 244, vi a, vi b, vi d]) [] s0 0 0 (fun s' v => GI s' ∧ FL [3329, 3334, 3335, 3336, 3392, 3456, 3520, 3584] s0 s' ∧ v = none) := by
  have f0 : FL [3329, 3334, 3335, 3336, 3392, 3456, 3520, 3584] s0 s0 := FL.rf
  show xe none 18 0 [(0, .ref 244), (1, vi a), (2, vi b), (3, vi d)] [] s0 0 0 _
  refine x_A k18_0 (fun _ => rfl) ?_
  have c1 : a = 1 ∨ a = 2 ∨ a = 3 ∨ a = 4 ∨ a = 5 ∨ ¬ (1 ≤ a ∧ a ≤ 5) := by omega
  rcases c1 with c1 | c1 | c1 | c1 | c1 | c1
  · rw [c1]
    refine x_B k18_1 rfl (fun _ => rfl) (fun _ => rfl) (fun _ _ => rfl) ?_
    show xe none 18 36 [(0, .ref 244), (1, vi 1), (2, vi b), (3, vi d)] [] s0 0 0 _
    refine x_A k18_36 (fun _ => rfl) ?_
    refine x_getR k18_37 (f := 1) rfl (q := 244) (n := 8) (kd := 14) ⟨by decide, rfl⟩ (q2 := 245) (by decide) rfl ?_
    refine x_A k18_40 (fun _ => rfl) ?_
    refine x_A k18_41 (fun _ => rfl) ?_
    refine x_iast k18_42 (q := 245) (n := 6) ⟨by decide, rfl⟩ (by decide) (by first | exact x_rbl b_b rfl rfl | exact ⟨by omega, by omega⟩) ?_
    refine x_nh (fun s2 e_s2 => ?_)
    have hG_s2 : GI s2 := by rw [e_s2]; exact hG0.up (show (-2147483648) ≤ d ∧ d ≤ 2147483647 from (by first | exact x_rb b_d rfl rfl | exact ⟨by omega, by omega⟩))
    have f_s2 : FL [3329, 3334, 3335, 3336, 3392, 3456, 3520, 3584] s0 s2 := by rw [e_s2]; exact f0.up (show 3392 ∈ [3329, 3334, 3335, 3336, 3392, 3456, 3520, 3584] from by decide +kernel)
    have q3 : s2 245 b.toNat = d := by rw [e_s2]; exact x_up_same
    refine x_goto k18_43 (t := 134) rfl ?_
    exact x_vret k18_134 rfl ⟨hG_s2, f_s2, rfl⟩
  · rw [c1]
    refine x_B k18_1 rfl (fun _ => rfl) (fun _ => rfl) (fun _ _ => rfl) ?_
    show xe none 18 46 [(0, .ref 244), (1, vi 2), (2, vi b), (3, vi d)] [] s0 0 0 _
    refine x_A k18_46 (fun _ => rfl) ?_
    refine x_getR k18_47 (f := 2) rfl (q := 244) (n := 8) (kd := 14) ⟨by decide, rfl⟩ (q2 := 246) (by decide) rfl ?_
    refine x_A k18_50 (fun _ => rfl) ?_
    refine x_A k18_51 (fun _ => rfl) ?_
    refine x_lald k18_52 (q := 246) (n := 6) ⟨by decide, rfl⟩ (by decide) (by first | exact x_rbl b_b rfl rfl | exact ⟨by omega, by omega⟩) ?_
    refine x_topL (fun z4 e_z4 => ?_)
    have b_z4 : in64 z4 := by rw [e_z4]; exact hG0 246 b.toNat
    refine x_lconst k18_53 (z := 1) (by decide +kernel) ?_
    refine x_A k18_54 (fun _ => rfl) ?_
    refine x_lshl_any k18_55 (fun z5 b_z5 => ?_)
    refine x_lor_any k18_56 (fun z6 b_z6 => ?_)
    refine x_last k18_57 (q := 246) (n := 6) ⟨by decide, rfl⟩ (by decide) (by first | exact x_rbl b_b rfl rfl | exact ⟨by omega, by omega⟩) ?_
    refine x_nh (fun s7 e_s7 => ?_)
    have hG_s7 : GI s7 := by rw [e_s7]; exact hG0.up (show in64 z6 from b_z6)
    have f_s7 : FL [3329, 3334, 3335, 3336, 3392, 3456, 3520, 3584] s0 s7 := by rw [e_s7]; exact f0.up (show 3456 ∈ [3329, 3334, 3335, 3336, 3392, 3456, 3520, 3584] from by decide +kernel)
    refine x_A k18_58 (fun _ => rfl) ?_
    refine x_A k18_59 (fun _ => rfl) ?_
    refine x_getI k18_60 (f := 5) rfl (q := 244) (n := 8) (kd := 14) ⟨by decide, rfl⟩ (by decide) rfl ?_
    refine x_top (fun z8 e_z8 => ?_)
    have g_z8 : (-2147483648) ≤ s7 244 5 ∧ s7 244 5 ≤ 2147483647 := hG_s7 244 5
    refine x_A k18_63 (fun _ => rfl) ?_
    refine x_iadd k18_64 ?_
    refine x_topW (fun z9 g_z9 => ?_)
    unfold in32 at g_z9
    refine x_putI k18_65 (f := 5) rfl (q := 244) (n := 8) (kd := 14) ⟨by decide, rfl⟩ rfl rfl rfl ?_
    refine x_nh (fun s10 e_s10 => ?_)
    have hG_s10 : GI s10 := by rw [e_s10]; exact hG_s7.up (show (-2147483648) ≤ z9 ∧ z9 ≤ 2147483647 from (by first | exact x_rbe e_z9 g_z9 rfl rfl | exact x_rb g_z9 rfl rfl | exact ⟨by omega, by omega⟩))
    have f_s10 : FL [3329, 3334, 3335, 3336, 3392, 3456, 3520, 3584] s0 s10 := by rw [e_s10]; exact f_s7.up (show 3334 ∈ [3329, 3334, 3335, 3336, 3392, 3456, 3520, 3584] from by decide +kernel)
    have q11 : s10 244 5 = z9 := by rw [e_s10]; exact x_up_same
    refine x_goto k18_68 (t := 134) rfl ?_
    exact x_vret k18_134 rfl ⟨hG_s10, f_s10, rfl⟩
  · rw [c1]
    refine x_B k18_1 rfl (fun _ => rfl) (fun _ => rfl) (fun _ _ => rfl) ?_
    show xe none 18 71 [(0, .ref 244), (1, vi 3), (2, vi b), (3, vi d)] [] s0 0 0 _
    refine x_A k18_71 (fun _ => rfl) ?_
    refine x_A k18_72 (fun _ => rfl) ?_
    refine x_ic_eq k18_73 (t := 88) rfl (by first | exact x_rb b_b rfl rfl | exact ⟨by omega, by omega⟩) (by first | exact x_rb b_d rfl rfl | exact ⟨by omega, by omega⟩) (fun c12 => ?_) (fun c12 => ?_)
    · skip
      refine x_A k18_88 (fun _ => rfl) ?_
      refine x_A k18_89 (fun _ => rfl) ?_
      refine x_getI k18_90 (f := 6) rfl (q := 244) (n := 8) (kd := 14) ⟨by decide, rfl⟩ (by decide) rfl ?_
      refine x_top (fun z13 e_z13 => ?_)
      have g_z13 : (-2147483648) ≤ s0 244 6 ∧ s0 244 6 ≤ 2147483647 := hG0 244 6
      refine x_A k18_93 (fun _ => rfl) ?_
      refine x_iadd k18_94 ?_
      refine x_topW (fun z14 g_z14 => ?_)
      unfold in32 at g_z14
      refine x_putI k18_95 (f := 6) rfl (q := 244) (n := 8) (kd := 14) ⟨by decide, rfl⟩ rfl rfl rfl ?_
      refine x_nh (fun s15 e_s15 => ?_)
      have hG_s15 : GI s15 := by rw [e_s15]; exact hG0.up (show (-2147483648) ≤ z14 ∧ z14 ≤ 2147483647 from (by first | exact x_rbe e_z14 g_z14 rfl rfl | exact x_rb g_z14 rfl rfl | exact ⟨by omega, by omega⟩))
      have f_s15 : FL [3329, 3334, 3335, 3336, 3392, 3456, 3520, 3584] s0 s15 := by rw [e_s15]; exact f0.up (show 3335 ∈ [3329, 3334, 3335, 3336, 3392, 3456, 3520, 3584] from by decide +kernel)
      have q16 : s15 244 6 = z14 := by rw [e_s15]; exact x_up_same
      refine x_goto k18_98 (t := 134) rfl ?_
      exact x_vret k18_134 rfl ⟨hG_s15, f_s15, rfl⟩
    · skip
      refine x_A k18_76 (fun _ => rfl) ?_
      refine x_getR k18_77 (f := 3) rfl (q := 244) (n := 8) (kd := 14) ⟨by decide, rfl⟩ (q2 := 247) (by decide) rfl ?_
      refine x_A k18_80 (fun _ => rfl) ?_
      refine x_A k18_81 (fun _ => rfl) ?_
      refine x_iald k18_82 (q := 247) (n := 6) ⟨by decide, rfl⟩ (by decide) (by first | exact x_rbl b_b rfl rfl | exact ⟨by omega, by omega⟩) ?_
      refine x_top (fun z17 e_z17 => ?_)
      have g_z17 : (-2147483648) ≤ s0 247 b.toNat ∧ s0 247 b.toNat ≤ 2147483647 := hG0 247 b.toNat
      refine x_A k18_83 (fun _ => rfl) ?_
      refine x_A k18_84 (fun _ => rfl) ?_
      refine x_ishl_any k18_85 (fun z18 g_z18 => ?_)
      unfold in32 at g_z18
      refine x_ior_any k18_86 (fun z19 g_z19 => ?_)
      unfold in32 at g_z19
      refine x_iast k18_87 (q := 247) (n := 6) ⟨by decide, rfl⟩ (by decide) (by first | exact x_rbl b_b rfl rfl | exact ⟨by omega, by omega⟩) ?_
      refine x_nh (fun s20 e_s20 => ?_)
      have hG_s20 : GI s20 := by rw [e_s20]; exact hG0.up (show (-2147483648) ≤ z19 ∧ z19 ≤ 2147483647 from (by first | exact x_rbe e_z19 g_z19 rfl rfl | exact x_rb g_z19 rfl rfl | exact ⟨by omega, by omega⟩))
      have f_s20 : FL [3329, 3334, 3335, 3336, 3392, 3456, 3520, 3584] s0 s20 := by rw [e_s20]; exact f0.up (show 3520 ∈ [3329, 3334, 3335, 3336, 3392, 3456, 3520, 3584] from by decide +kernel)
      have q21 : s20 247 b.toNat = z19 := by rw [e_s20]; exact x_up_same
      refine x_A k18_88 (fun _ => rfl) ?_
      refine x_A k18_89 (fun _ => rfl) ?_
      refine x_getI k18_90 (f := 6) rfl (q := 244) (n := 8) (kd := 14) ⟨by decide, rfl⟩ (by decide) rfl ?_
      refine x_top (fun z22 e_z22 => ?_)
      have g_z22 : (-2147483648) ≤ s20 244 6 ∧ s20 244 6 ≤ 2147483647 := hG_s20 244 6
      refine x_A k18_93 (fun _ => rfl) ?_
      refine x_iadd k18_94 ?_
      refine x_topW (fun z23 g_z23 => ?_)
      unfold in32 at g_z23
      refine x_putI k18_95 (f := 6) rfl (q := 244) (n := 8) (kd := 14) ⟨by decide, rfl⟩ rfl rfl rfl ?_
      refine x_nh (fun s24 e_s24 => ?_)
      have hG_s24 : GI s24 := by rw [e_s24]; exact hG_s20.up (show (-2147483648) ≤ z23 ∧ z23 ≤ 2147483647 from (by first | exact x_rbe e_z23 g_z23 rfl rfl | exact x_rb g_z23 rfl rfl | exact ⟨by omega, by omega⟩))
      have f_s24 : FL [3329, 3334, 3335, 3336, 3392, 3456, 3520, 3584] s0 s24 := by rw [e_s24]; exact f_s20.up (show 3335 ∈ [3329, 3334, 3335, 3336, 3392, 3456, 3520, 3584] from by decide +kernel)
      have q25 : s24 244 6 = z23 := by rw [e_s24]; exact x_up_same
      have q26 : s24 247 b.toNat = z19 := by rw [e_s24, x_up_q (by first | decide | omega)]; exact q21
      refine x_goto k18_98 (t := 134) rfl ?_
      exact x_vret k18_134 rfl ⟨hG_s24, f_s24, rfl⟩
  · rw [c1]
    refine x_B k18_1 rfl (fun _ => rfl) (fun _ => rfl) (fun _ _ => rfl) ?_
    show xe none 18 101 [(0, .ref 244), (1, vi 4), (2, vi b), (3, vi d)] [] s0 0 0 _
    refine x_A k18_101 (fun _ => rfl) ?_
    refine x_getR k18_102 (f := 4) rfl (q := 244) (n := 8) (kd := 14) ⟨by decide, rfl⟩ (q2 := 248) (by decide) rfl ?_
    refine x_A k18_105 (fun _ => rfl) ?_
    refine x_A k18_106 (fun _ => rfl) ?_
    refine x_lald k18_107 (q := 248) (n := 40) ⟨by decide, rfl⟩ (by decide) (by first | exact x_rbl b_b rfl rfl | exact ⟨by omega, by omega⟩) ?_
    refine x_topL (fun z27 e_z27 => ?_)
    have b_z27 : in64 z27 := by rw [e_z27]; exact hG0 248 b.toNat
    refine x_lconst k18_108 (z := 1) (by decide +kernel) ?_
    refine x_A k18_109 (fun _ => rfl) ?_
    refine x_lshl_any k18_110 (fun z28 b_z28 => ?_)
    refine x_lor_any k18_111 (fun z29 b_z29 => ?_)
    refine x_last k18_112 (q := 248) (n := 40) ⟨by decide, rfl⟩ (by decide) (by first | exact x_rbl b_b rfl rfl | exact ⟨by omega, by omega⟩) ?_
    refine x_nh (fun s30 e_s30 => ?_)
    have hG_s30 : GI s30 := by rw [e_s30]; exact hG0.up (show in64 z29 from b_z29)
    have f_s30 : FL [3329, 3334, 3335, 3336, 3392, 3456, 3520, 3584] s0 s30 := by rw [e_s30]; exact f0.up (show 3584 ∈ [3329, 3334, 3335, 3336, 3392, 3456, 3520, 3584] from by decide +kernel)
    refine x_A k18_113 (fun _ => rfl) ?_
    refine x_A k18_114 (fun _ => rfl) ?_
    refine x_getI k18_115 (f := 7) rfl (q := 244) (n := 8) (kd := 14) ⟨by decide, rfl⟩ (by decide) rfl ?_
    refine x_top (fun z31 e_z31 => ?_)
    have g_z31 : (-2147483648) ≤ s30 244 7 ∧ s30 244 7 ≤ 2147483647 := hG_s30 244 7
    refine x_A k18_118 (fun _ => rfl) ?_
    refine x_iadd k18_119 ?_
    refine x_topW (fun z32 g_z32 => ?_)
    unfold in32 at g_z32
    refine x_putI k18_120 (f := 7) rfl (q := 244) (n := 8) (kd := 14) ⟨by decide, rfl⟩ rfl rfl rfl ?_
    refine x_nh (fun s33 e_s33 => ?_)
    have hG_s33 : GI s33 := by rw [e_s33]; exact hG_s30.up (show (-2147483648) ≤ z32 ∧ z32 ≤ 2147483647 from (by first | exact x_rbe e_z32 g_z32 rfl rfl | exact x_rb g_z32 rfl rfl | exact ⟨by omega, by omega⟩))
    have f_s33 : FL [3329, 3334, 3335, 3336, 3392, 3456, 3520, 3584] s0 s33 := by rw [e_s33]; exact f_s30.up (show 3336 ∈ [3329, 3334, 3335, 3336, 3392, 3456, 3520, 3584] from by decide +kernel)
    have q34 : s33 244 7 = z32 := by rw [e_s33]; exact x_up_same
    refine x_goto k18_123 (t := 134) rfl ?_
    exact x_vret k18_134 rfl ⟨hG_s33, f_s33, rfl⟩
  · rw [c1]
    refine x_B k18_1 rfl (fun _ => rfl) (fun _ => rfl) (fun _ _ => rfl) ?_
    show xe none 18 126 [(0, .ref 244), (1, vi 5), (2, vi b), (3, vi d)] [] s0 0 0 _
    refine x_A k18_126 (fun _ => rfl) ?_
    refine x_A k18_127 (fun _ => rfl) ?_
    refine x_putI k18_128 (f := 0) rfl (q := 244) (n := 8) (kd := 14) ⟨by decide, rfl⟩ rfl rfl rfl ?_
    refine x_nh (fun s35 e_s35 => ?_)
    have hG_s35 : GI s35 := by rw [e_s35]; exact hG0.up (show (-2147483648) ≤ b ∧ b ≤ 2147483647 from (by first | exact x_rb b_b rfl rfl | exact ⟨by omega, by omega⟩))
    have f_s35 : FL [3329, 3334, 3335, 3336, 3392, 3456, 3520, 3584] s0 s35 := by rw [e_s35]; exact f0.up (show 3329 ∈ [3329, 3334, 3335, 3336, 3392, 3456, 3520, 3584] from by decide +kernel)
    have q36 : s35 244 0 = b := by rw [e_s35]; exact x_up_same
    refine x_goto k18_131 (t := 134) rfl ?_
    exact x_vret k18_134 rfl ⟨hG_s35, f_s35, rfl⟩
  · refine x_tabD k18_1 ⟨by omega, by omega⟩ c1 (t0 := 134) rfl ?_
    exact x_vret k18_134 rfl ⟨hG0, f0, rfl⟩
theorem L_C_X1_apply_244_179_2 (s0 : xS) (hJ0 : J s0) (a : Int) (b_a : 0 ≤ a ∧ a ≤ 7) (pa : a < s0 179 5)  : ∀ (n : Nat) (s : xS) (x2 : Int) (x3 : Int) (x1000 : Int) (hG : GI s) (f : FL [3329, 3334, 3335, 3336, 3392, 3456, 3520, 3584] s0 s) (b_x2 : 0 ≤ x2 ∧ x2 ≤ 7) (b_x3 : 0 ≤ x3 ∧ x3 ≤ 8) (b_x1000 : 0 ≤ x1000 ∧ x1000 ≤ 8) (w_0 : x2 < x1000) (e_x1000 : x1000 = s 179 5)  (hm : (8 - x3) < (n : Int)), xe none 17 2 [(0, .ref 244), (1, .ref 179), (2, vi x2), (3, vi x3)] [] s 0 0 (fun s' v => GI s' ∧ FL [3329, 3334, 3335, 3336, 3392, 3456, 3520, 3584] s0 s' ∧ v = none) := by
  intro n
  induction n with
  | zero => intro s x2 x3 x1000 hG f b_x2 b_x3 b_x1000 w_0 e_x1000  hm; exfalso; omega
  | succ n ih =>
    intro s x2 x3 x1000 hG f b_x2 b_x3 b_x1000 w_0 e_x1000  hm
    refine x_A k17_2 (fun _ => rfl) ?_
    refine x_A k17_3 (fun _ => rfl) ?_
    refine x_getR k17_4 (f := 1) rfl (q := 179) (n := 6) (kd := 8) ⟨by decide, rfl⟩ (q2 := 181) (by decide) rfl ?_
    refine x_A k17_7 (fun _ => rfl) ?_
    refine x_iald k17_8 (q := 181) (n := 8) ⟨by decide, rfl⟩ (by decide) (by first | exact x_rbl b_x2 rfl rfl | exact ⟨by omega, by omega⟩) ?_
    refine x_top (fun z99 e_z99 => ?_)
    have g_z99 : (0 : Int) ≤ s 181 x2.toNat ∧ s 181 x2.toNat ≤ 9 := hG 181 x2.toNat
    refine x_ic_ge k17_9 (t := 46) rfl (by first | exact x_rb b_x3 rfl rfl | exact ⟨by omega, by omega⟩) (by first | exact x_rbe e_z99 g_z99 rfl rfl | exact x_rb g_z99 rfl rfl | exact ⟨by omega, by omega⟩) (fun c100 => ?_) (fun c100 => ?_)
    · skip
      exact x_vret k17_46 rfl ⟨hG, f, rfl⟩
    · skip
      have cr101 := (hJ0.fl f (by decide +kernel)).cr x2 x3 ⟨by omega, by omega⟩ (by omega) (by omega) (by rw [e_z99.symm]; omega)
      refine x_A k17_12 (fun _ => rfl) ?_
      refine x_A k17_13 (fun _ => rfl) ?_
      refine x_getR k17_14 (f := 2) rfl (q := 179) (n := 6) (kd := 8) ⟨by decide, rfl⟩ (q2 := 182) (by decide) rfl ?_
      refine x_A k17_17 (fun _ => rfl) ?_
      refine x_aald k17_18 (q := 182) (t := 23) (n := 8) ⟨by decide, rfl⟩ (by decide) (by decide) ⟨by omega, by omega⟩ ?_
      refine x_A k17_19 (fun _ => rfl) ?_
      refine x_iald k17_20 (q := (182 + 1 + x2.toNat)) (n := 8) (xg_183 (by omega) (by omega)) (by decide) (by first | exact x_rbl b_x3 rfl rfl | exact ⟨by omega, by omega⟩) ?_
      refine x_top (fun z102 e_z102 => ?_)
      have r_z102 := hG (182 + 1 + x2.toNat) x3.toNat
      rw [(gr_183 x3.toNat (show 183 ≤ (182 + 1 + x2.toNat) by omega) (by omega)).1, (gr_183 x3.toNat (show 183 ≤ (182 + 1 + x2.toNat) by omega) (by omega)).2.1, ← e_z102] at r_z102
      refine x_A k17_21 (fun _ => rfl) ?_
      refine x_getR k17_22 (f := 3) rfl (q := 179) (n := 6) (kd := 8) ⟨by decide, rfl⟩ (q2 := 191) (by decide) rfl ?_
      refine x_A k17_25 (fun _ => rfl) ?_
      refine x_aald k17_26 (q := 191) (t := 23) (n := 8) ⟨by decide, rfl⟩ (by decide) (by decide) ⟨by omega, by omega⟩ ?_
      refine x_A k17_27 (fun _ => rfl) ?_
      refine x_iald k17_28 (q := (191 + 1 + x2.toNat)) (n := 8) (xg_192 (by omega) (by omega)) (by decide) (by first | exact x_rbl b_x3 rfl rfl | exact ⟨by omega, by omega⟩) ?_
      refine x_top (fun z103 e_z103 => ?_)
      have r_z103 := hG (191 + 1 + x2.toNat) x3.toNat
      rw [(gr_192 x3.toNat (show 192 ≤ (191 + 1 + x2.toNat) by omega) (by omega)).1, (gr_192 x3.toNat (show 192 ≤ (191 + 1 + x2.toNat) by omega) (by omega)).2.1, ← e_z103] at r_z103
      refine x_A k17_29 (fun _ => rfl) ?_
      refine x_getR k17_30 (f := 4) rfl (q := 179) (n := 6) (kd := 8) ⟨by decide, rfl⟩ (q2 := 200) (by decide) rfl ?_
      refine x_A k17_33 (fun _ => rfl) ?_
      refine x_aald k17_34 (q := 200) (t := 23) (n := 8) ⟨by decide, rfl⟩ (by decide) (by decide) ⟨by omega, by omega⟩ ?_
      refine x_A k17_35 (fun _ => rfl) ?_
      refine x_iald k17_36 (q := (200 + 1 + x2.toNat)) (n := 8) (xg_201 (by omega) (by omega)) (by decide) (by first | exact x_rbl b_x3 rfl rfl | exact ⟨by omega, by omega⟩) ?_
      refine x_top (fun z104 e_z104 => ?_)
      have r_z104 := hG (200 + 1 + x2.toNat) x3.toNat
      rw [(gr_201 x3.toNat (show 201 ≤ (200 + 1 + x2.toNat) by omega) (by omega)).1, (gr_201 x3.toNat (show 201 ≤ (200 + 1 + x2.toNat) by omega) (by omega)).2.1, ← e_z104] at r_z104
      rw [e_z102.symm, e_z103.symm, e_z104.symm] at cr101
      refine x_callV k17_37 (y := 18) (n := 3) (w0 := 0) (w1 := 3) (as := [vi z102, vi z103, vi z104]) (rest := []) (by decide +kernel) (q := 244) (nq := 8) (kq := 14) ⟨by decide, rfl⟩ rfl rfl rfl rfl (xe_mono (C_X1_applyClause_244 s hG z102 (by first | exact x_rbe e_z102 g_z102 rfl rfl | exact x_rb g_z102 rfl rfl | exact ⟨by omega, by omega⟩) z103 (by first | exact x_rbe e_z103 g_z103 rfl rfl | exact x_rb g_z103 rfl rfl | exact ⟨by omega, by omega⟩) z104 (by first | exact x_rbe e_z104 g_z104 rfl rfl | exact x_rb g_z104 rfl rfl | exact ⟨by omega, by omega⟩) (by omega)) ?_)
      rintro s106 v ⟨hG_s106, t_s106, rfl⟩
      have f_s106 : FL [3329, 3334, 3335, 3336, 3392, 3456, 3520, 3584] s0 s106 := f.tr t_s106 (by decide +kernel)
      have q107 : s106 179 5 = x1000 := (t_s106 179 5 (show 1350 ∉ [3329, 3334, 3335, 3336, 3392, 3456, 3520, 3584] from by decide +kernel)).trans e_x1000.symm
      have q108 : s106 181 x2.toNat = z99 := (t_s106 181 x2.toNat (show 1472 ∉ [3329, 3334, 3335, 3336, 3392, 3456, 3520, 3584] from by decide +kernel)).trans e_z99.symm
      show xe none 17 40 [(0, .ref 244), (1, .ref 179), (2, vi x2), (3, vi x3)] [] s106 0 0 _
      refine x_iinc k17_40 (ls' := [(3, vi (x3 + 1)), (0, .ref 244), (1, .ref 179), (2, vi x2)]) rfl (by decide) rfl ?_
      refine x_goto k17_43 (t := 2) rfl ?_
      refine x_ls (l := [(0, .ref 244), (1, .ref 179), (2, vi x2), (3, vi (x3 + 1))]) (show ([0, 1, 2, 3] : List Nat).Nodup from by decide +kernel) ⟨rfl, rfl, rfl, rfl, trivial⟩ ?_
      exact ih s106 x2 (x3 + 1) x1000 hG_s106 f_s106 (by first | exact x_rb b_x2 rfl rfl | exact ⟨by omega, by omega⟩) ⟨by omega, by omega⟩ (by first | exact x_rb b_x1000 rfl rfl | exact ⟨by omega, by omega⟩) (by omega) (q107).symm  (by omega)
theorem C_X1_apply_244_179 (s0 : xS) (hG0 : GI s0) (hJ0 : J s0) (a : Int) (b_a : 0 ≤ a ∧ a ≤ 7) (pa : a < s0 179 5) : xe none 17 0 (lv_args 0 [.ref 244, .ref 179, vi a]) [] s0 0 0 (fun s' v => GI s' ∧ FL [3329, 3334, 3335, 3336, 3392, 3456, 3520, 3584] s0 s' ∧ v = none) := by
  have f0 : FL [3329, 3334, 3335, 3336, 3392, 3456, 3520, 3584] s0 s0 := FL.rf
  show xe none 17 0 [(0, .ref 244), (1, .ref 179), (2, vi a)] [] s0 0 0 _
  refine x_A k17_0 (fun _ => rfl) ?_
  refine x_istore_n k17_1 (ls' := [(3, vi 0), (0, .ref 244), (1, .ref 179), (2, vi a)]) (by decide) rfl ?_
  obtain ⟨z109, e_z109⟩ : ∃ z, z = s0 179 5 := ⟨_, rfl⟩
  have g_z109 : (0 : Int) ≤ s0 179 5 ∧ s0 179 5 ≤ 8 := hG0 179 5
  refine x_ls (l := [(0, .ref 244), (1, .ref 179), (2, vi a), (3, vi 0)]) (show ([0, 1, 2, 3] : List Nat).Nodup from by decide +kernel) ⟨rfl, rfl, rfl, rfl, trivial⟩ ?_
  exact L_C_X1_apply_244_179_2 s0 hJ0 a b_a pa  (((8 - 0) + 1 : Int)).toNat s0 a 0 z109 hG0 f0 (by first | exact x_rb b_a rfl rfl | exact ⟨by omega, by omega⟩) ⟨by decide, by decide⟩ (by first | exact x_rbe e_z109 g_z109 rfl rfl | exact x_rb g_z109 rfl rfl | exact ⟨by omega, by omega⟩) (by omega) (e_z109.symm).symm  (by omega)
theorem L_C_X1_setTo_244_179_29 (s0 : xS) (hJ0 : J s0) (n_13 : Nat) (ih_13 : ∀ (s : xS) (x2 : Int) (x3 : Int) (x4 : Int) (x1000 : Int) (hG : GI s) (f : FL [3329, 3334, 3335, 3336, 3392, 3456, 3520, 3584] s0 s) (b_x2 : (-2147483648) ≤ x2 ∧ x2 ≤ 2147483647) (b_x3 : (-2147483648) ≤ x3 ∧ x3 ≤ 2147483647) (b_x4 : 0 ≤ x4 ∧ x4 ≤ 10) (b_x1000 : 0 ≤ x1000 ∧ x1000 ≤ 8) (e_x1000 : x1000 = s 179 5) (hm : (10 - x4) < (n_13 : Int)), xe none 16 13 [(0, .ref 244), (1, .ref 179), (2, vi x2), (3, vi x3), (4, vi x4)] [] s 0 0 (fun s' v => GI s' ∧ FL [3329, 3334, 3335, 3336, 3392, 3456, 3520, 3584] s0 s' ∧ v = none)) : ∀ (n : Nat) (s : xS) (x2 : Int) (x3 : Int) (x4 : Int) (x5 : Int) (x1000 : Int) (hG : GI s) (f : FL [3329, 3334, 3335, 3336, 3392, 3456, 3520, 3584] s0 s) (b_x2 : 0 ≤ x2 ∧ x2 ≤ 2147483647) (b_x3 : (-2147483648) ≤ x3 ∧ x3 ≤ 2147483647) (b_x4 : 0 ≤ x4 ∧ x4 ≤ 9) (b_x5 : 0 ≤ x5 ∧ x5 ≤ 8) (b_x1000 : 0 ≤ x1000 ∧ x1000 ≤ 8) (r_5_1000 : x5 ≤ x1000 + 0) (r_4_2 : x4 ≤ x2 + 0) (e_x1000 : x1000 = s 179 5) (k_13 : (10 - x4) < (n_13 : Int) + 1) (hm : (8 - x5) < (n : Int)), xe none 16 29 [(0, .ref 244), (1, .ref 179), (2, vi x2), (3, vi x3), (4, vi x4), (5, vi x5)] [] s 0 0 (fun s' v => GI s' ∧ FL [3329, 3334, 3335, 3336, 3392, 3456, 3520, 3584] s0 s' ∧ v = none) := by
  intro n
  induction n with
  | zero => intro s x2 x3 x4 x5 x1000 hG f b_x2 b_x3 b_x4 b_x5 b_x1000 r_5_1000 r_4_2 e_x1000 k_13 hm; exfalso; omega
  | succ n ih =>
    intro s x2 x3 x4 x5 x1000 hG f b_x2 b_x3 b_x4 b_x5 b_x1000 r_5_1000 r_4_2 e_x1000 k_13 hm
    refine x_A k16_29 (fun _ => rfl) ?_
    refine x_A k16_31 (fun _ => rfl) ?_
    refine x_getI k16_32 (f := 5) rfl (q := 179) (n := 6) (kd := 8) ⟨by decide, rfl⟩ (by decide) rfl ?_
    rw [e_x1000.symm]
    refine x_ic_ge k16_35 (t := 72) rfl (by first | exact x_rb b_x5 rfl rfl | exact ⟨by omega, by omega⟩) (by first | exact x_rb b_x1000 rfl rfl | exact ⟨by omega, by omega⟩) (fun c190 => ?_) (fun c190 => ?_)
    · skip
      refine x_iinc k16_72 (ls' := [(4, vi (x4 + 1)), (0, .ref 244), (1, .ref 179), (2, vi x2), (3, vi x3), (5, vi x5)]) rfl (by decide) rfl ?_
      refine x_goto k16_75 (t := 13) rfl ?_
      refine x_ls (l := [(0, .ref 244), (1, .ref 179), (2, vi x2), (3, vi x3), (4, vi (x4 + 1))]) (show ([0, 1, 2, 3, 4] : List Nat).Nodup from by decide +kernel) ⟨rfl, rfl, rfl, rfl, rfl, trivial⟩ ?_
      exact ih_13 s x2 x3 (x4 + 1) x1000 hG f (by first | exact x_rb b_x2 rfl rfl | exact ⟨by omega, by omega⟩) (by first | exact x_rb b_x3 rfl rfl | exact ⟨by omega, by omega⟩) ⟨by omega, by omega⟩ (by first | exact x_rb b_x1000 rfl rfl | exact ⟨by omega, by omega⟩) (e_x1000.symm).symm (by omega)
    · skip
      refine x_A k16_38 (fun _ => rfl) ?_
      refine x_getR k16_39 (f := 0) rfl (q := 179) (n := 6) (kd := 8) ⟨by decide, rfl⟩ (q2 := 180) (by decide) rfl ?_
      refine x_A k16_42 (fun _ => rfl) ?_
      refine x_iald k16_44 (q := 180) (n := 8) ⟨by decide, rfl⟩ (by decide) (by first | exact x_rbl b_x5 rfl rfl | exact ⟨by omega, by omega⟩) ?_
      refine x_top (fun z191 e_z191 => ?_)
      have g_z191 : (0 : Int) ≤ s 180 x5.toNat ∧ s 180 x5.toNat ≤ 9 := hG 180 x5.toNat
      refine x_A k16_45 (fun _ => rfl) ?_
      refine x_ic_ne k16_47 (t := 66) rfl (by first | exact x_rbe e_z191 g_z191 rfl rfl | exact x_rb g_z191 rfl rfl | exact ⟨by omega, by omega⟩) (by first | exact x_rb b_x4 rfl rfl | exact ⟨by omega, by omega⟩) (fun c192 => ?_) (fun c192 => ?_)
      · skip
        refine x_iinc k16_66 (ls' := [(5, vi (x5 + 1)), (0, .ref 244), (1, .ref 179), (2, vi x2), (3, vi x3), (4, vi x4)]) rfl (by decide) rfl ?_
        refine x_goto k16_69 (t := 29) rfl ?_
        refine x_ls (l := [(0, .ref 244), (1, .ref 179), (2, vi x2), (3, vi x3), (4, vi x4), (5, vi (x5 + 1))]) (show ([0, 1, 2, 3, 4, 5] : List Nat).Nodup from by decide +kernel) ⟨rfl, rfl, rfl, rfl, rfl, rfl, trivial⟩ ?_
        exact ih s x2 x3 x4 (x5 + 1) x1000 hG f (by first | exact x_rb b_x2 rfl rfl | exact ⟨by omega, by omega⟩) (by first | exact x_rb b_x3 rfl rfl | exact ⟨by omega, by omega⟩) (by first | exact x_rb b_x4 rfl rfl | exact ⟨by omega, by omega⟩) ⟨by omega, by omega⟩ (by first | exact x_rb b_x1000 rfl rfl | exact ⟨by omega, by omega⟩) (by omega) (by omega) (e_x1000.symm).symm (by omega) (by omega)
      · skip
        refine x_A k16_50 (fun _ => rfl) ?_
        refine x_A k16_51 (fun _ => rfl) ?_
        refine x_iushr_any k16_53 (fun z193 g_z193 => ?_)
        unfold in32 at g_z193
        refine x_A k16_54 (fun _ => rfl) ?_
        refine x_and_mask k16_55 ⟨by omega, by omega⟩ (fun z194 g_z194 => ?_)
        refine x_if_eq k16_56 (t := 66) rfl (by first | exact x_rbe e_z194 g_z194 rfl rfl | exact x_rb g_z194 rfl rfl | exact ⟨by omega, by omega⟩) (fun c195 => ?_) (fun c195 => ?_)
        · skip
          refine x_iinc k16_66 (ls' := [(5, vi (x5 + 1)), (0, .ref 244), (1, .ref 179), (2, vi x2), (3, vi x3), (4, vi x4)]) rfl (by decide) rfl ?_
          refine x_goto k16_69 (t := 29) rfl ?_
          refine x_ls (l := [(0, .ref 244), (1, .ref 179), (2, vi x2), (3, vi x3), (4, vi x4), (5, vi (x5 + 1))]) (show ([0, 1, 2, 3, 4, 5] : List Nat).Nodup from by decide +kernel) ⟨rfl, rfl, rfl, rfl, rfl, rfl, trivial⟩ ?_
          exact ih s x2 x3 x4 (x5 + 1) x1000 hG f (by first | exact x_rb b_x2 rfl rfl | exact ⟨by omega, by omega⟩) (by first | exact x_rb b_x3 rfl rfl | exact ⟨by omega, by omega⟩) (by first | exact x_rb b_x4 rfl rfl | exact ⟨by omega, by omega⟩) ⟨by omega, by omega⟩ (by first | exact x_rb b_x1000 rfl rfl | exact ⟨by omega, by omega⟩) (by omega) (by omega) (e_x1000.symm).symm (by omega) (by omega)
        · skip
          refine x_A k16_59 (fun _ => rfl) ?_
          refine x_A k16_60 (fun _ => rfl) ?_
          refine x_A k16_61 (fun _ => rfl) ?_
          refine x_callV k16_63 (y := 17) (n := 2) (w0 := 0) (w1 := 2) (as := [.ref 179, vi x5]) (rest := []) (by decide +kernel) (q := 244) (nq := 8) (kq := 14) ⟨by decide, rfl⟩ rfl rfl rfl rfl (xe_mono (C_X1_apply_244_179 s hG (hJ0.fl f (by decide +kernel)) x5 (by first | exact x_rb b_x5 rfl rfl | exact ⟨by omega, by omega⟩) (by omega)) ?_)
          rintro s197 v ⟨hG_s197, t_s197, rfl⟩
          have f_s197 : FL [3329, 3334, 3335, 3336, 3392, 3456, 3520, 3584] s0 s197 := f.tr t_s197 (by decide +kernel)
          have q198 : s197 179 5 = x1000 := (t_s197 179 5 (show 1350 ∉ [3329, 3334, 3335, 3336, 3392, 3456, 3520, 3584] from by decide +kernel)).trans e_x1000.symm
          have q199 : s197 180 x5.toNat = z191 := (t_s197 180 x5.toNat (show 1408 ∉ [3329, 3334, 3335, 3336, 3392, 3456, 3520, 3584] from by decide +kernel)).trans e_z191.symm
          show xe none 16 66 [(0, .ref 244), (1, .ref 179), (2, vi x2), (3, vi x3), (4, vi x4), (5, vi x5)] [] s197 0 0 _
          refine x_iinc k16_66 (ls' := [(5, vi (x5 + 1)), (0, .ref 244), (1, .ref 179), (2, vi x2), (3, vi x3), (4, vi x4)]) rfl (by decide) rfl ?_
          refine x_goto k16_69 (t := 29) rfl ?_
          refine x_ls (l := [(0, .ref 244), (1, .ref 179), (2, vi x2), (3, vi x3), (4, vi x4), (5, vi (x5 + 1))]) (show ([0, 1, 2, 3, 4, 5] : List Nat).Nodup from by decide +kernel) ⟨rfl, rfl, rfl, rfl, rfl, rfl, trivial⟩ ?_
          exact ih s197 x2 x3 x4 (x5 + 1) x1000 hG_s197 f_s197 (by first | exact x_rb b_x2 rfl rfl | exact ⟨by omega, by omega⟩) (by first | exact x_rb b_x3 rfl rfl | exact ⟨by omega, by omega⟩) (by first | exact x_rb b_x4 rfl rfl | exact ⟨by omega, by omega⟩) ⟨by omega, by omega⟩ (by first | exact x_rb b_x1000 rfl rfl | exact ⟨by omega, by omega⟩) (by omega) (by omega) (q198).symm (by omega) (by omega)
theorem L_C_X1_setTo_244_179_13 (s0 : xS) (hJ0 : J s0)  : ∀ (n : Nat) (s : xS) (x2 : Int) (x3 : Int) (x4 : Int) (x1000 : Int) (hG : GI s) (f : FL [3329, 3334, 3335, 3336, 3392, 3456, 3520, 3584] s0 s) (b_x2 : (-2147483648) ≤ x2 ∧ x2 ≤ 2147483647) (b_x3 : (-2147483648) ≤ x3 ∧ x3 ≤ 2147483647) (b_x4 : 0 ≤ x4 ∧ x4 ≤ 10) (b_x1000 : 0 ≤ x1000 ∧ x1000 ≤ 8) (e_x1000 : x1000 = s 179 5)  (hm : (10 - x4) < (n : Int)), xe none 16 13 [(0, .ref 244), (1, .ref 179), (2, vi x2), (3, vi x3), (4, vi x4)] [] s 0 0 (fun s' v => GI s' ∧ FL [3329, 3334, 3335, 3336, 3392, 3456, 3520, 3584] s0 s' ∧ v = none) := by
  intro n
  induction n with
  | zero => intro s x2 x3 x4 x1000 hG f b_x2 b_x3 b_x4 b_x1000 e_x1000  hm; exfalso; omega
  | succ n ih =>
    intro s x2 x3 x4 x1000 hG f b_x2 b_x3 b_x4 b_x1000 e_x1000  hm
    refine x_A k16_13 (fun _ => rfl) ?_
    refine x_A k16_15 (fun _ => rfl) ?_
    refine x_ic_gt k16_16 (t := 78) rfl (by first | exact x_rb b_x4 rfl rfl | exact ⟨by omega, by omega⟩) (by first | exact x_rb b_x2 rfl rfl | exact ⟨by omega, by omega⟩) (fun c200 => ?_) (fun c200 => ?_)
    · skip
      exact x_vret k16_78 rfl ⟨hG, f, rfl⟩
    · skip
      refine x_A k16_19 (fun _ => rfl) ?_
      refine x_bipush k16_21 (by decide +kernel) ?_
      refine x_ic_ge k16_23 (t := 78) rfl (by first | exact x_rb b_x4 rfl rfl | exact ⟨by omega, by omega⟩) ⟨by decide, by decide⟩ (fun c201 => ?_) (fun c201 => ?_)
      · skip
        exact x_vret k16_78 rfl ⟨hG, f, rfl⟩
      · skip
        refine x_A k16_26 (fun _ => rfl) ?_
        refine x_istore k16_27 (ls' := [(5, vi 0), (0, .ref 244), (1, .ref 179), (2, vi x2), (3, vi x3), (4, vi x4)]) (by decide) rfl ?_
        refine x_ls (l := [(0, .ref 244), (1, .ref 179), (2, vi x2), (3, vi x3), (4, vi x4), (5, vi 0)]) (show ([0, 1, 2, 3, 4, 5] : List Nat).Nodup from by decide +kernel) ⟨rfl, rfl, rfl, rfl, rfl, rfl, trivial⟩ ?_
        exact L_C_X1_setTo_244_179_29 s0 hJ0 n (fun s x2 x3 x4 x1000 hG f b_x2 b_x3 b_x4 b_x1000 e_x1000 hm => ih s x2 x3 x4 x1000 hG f b_x2 b_x3 b_x4 b_x1000 e_x1000  hm) (((8 - 0) + 1 : Int)).toNat s x2 x3 x4 0 x1000 hG f (by first | exact x_rb b_x2 rfl rfl | exact ⟨by omega, by omega⟩) (by first | exact x_rb b_x3 rfl rfl | exact ⟨by omega, by omega⟩) (by first | exact x_rb b_x4 rfl rfl | exact ⟨by omega, by omega⟩) ⟨by decide, by decide⟩ (by first | exact x_rb b_x1000 rfl rfl | exact ⟨by omega, by omega⟩) (by omega) (by omega) (e_x1000.symm).symm (by omega) (by omega)
theorem C_X1_setTo_244_179 (s0 : xS) (hG0 : GI s0) (hJ0 : J s0) (a : Int) (b_a : (-2147483648) ≤ a ∧ a ≤ 2147483647) : xe none 16 0 (lv_args 0 [.ref 244, .ref 179, vi a]) [] s0 0 0 (fun s' v => GI s' ∧ FL [3329, 3334, 3335, 3336, 3392, 3456, 3520, 3584] s0 s' ∧ v = none) := by
  have f0 : FL [3329, 3334, 3335, 3336, 3392, 3456, 3520, 3584] s0 s0 := FL.rf
  show xe none 16 0 [(0, .ref 244), (1, .ref 179), (2, vi a)] [] s0 0 0 _
  refine x_A k16_0 (fun _ => rfl) ?_
  refine x_callV k16_1 (y := 15) (n := 0) (w0 := 0) (w1 := 0) (as := []) (rest := []) (by decide +kernel) (q := 244) (nq := 8) (kq := 14) ⟨by decide, rfl⟩ rfl rfl rfl rfl (xe_mono (C_X1_clear_244 s0 hG0) ?_)
  rintro s203 v ⟨hG_s203, t_s203, rfl⟩
  have f_s203 : FL [3329, 3334, 3335, 3336, 3392, 3456, 3520, 3584] s0 s203 := f0.tr t_s203 (by decide +kernel)
  show xe none 16 4 [(0, .ref 244), (1, .ref 179), (2, vi a)] [] s203 0 0 _
  refine x_A k16_4 (fun _ => rfl) ?_
  refine x_A k16_5 (fun _ => rfl) ?_
  refine x_callV k16_6 (y := 41) (n := 1) (w0 := 0) (w1 := 1) (as := [vi a]) (rest := []) (by decide +kernel) (q := 179) (nq := 6) (kq := 8) ⟨by decide, rfl⟩ rfl rfl rfl rfl (xe_mono (C_X4_counting_179 s203 hG_s203 (hJ0.fl f_s203 (by decide +kernel)) a (by first | exact x_rb b_a rfl rfl | exact ⟨by omega, by omega⟩)) ?_)
  rintro s205 v ⟨-, t_s205, z204, rfl, g_z204⟩
  rw [t_s205.nil]
  show xe none 16 9 [(0, .ref 244), (1, .ref 179), (2, vi a)] [vi z204] s203 0 0 _
  refine x_istore_n k16_9 (ls' := [(3, vi z204), (0, .ref 244), (1, .ref 179), (2, vi a)]) (by decide) rfl ?_
  refine x_A k16_10 (fun _ => rfl) ?_
  refine x_istore k16_11 (ls' := [(4, vi 0), (3, vi z204), (0, .ref 244), (1, .ref 179), (2, vi a)]) (by decide) rfl ?_
  obtain ⟨z206, e_z206⟩ : ∃ z, z = s203 179 5 := ⟨_, rfl⟩
  have g_z206 : (0 : Int) ≤ s203 179 5 ∧ s203 179 5 ≤ 8 := hG_s203 179 5
  refine x_ls (l := [(0, .ref 244), (1, .ref 179), (2, vi a), (3, vi z204), (4, vi 0)]) (show ([0, 1, 2, 3, 4] : List Nat).Nodup from by decide +kernel) ⟨rfl, rfl, rfl, rfl, rfl, trivial⟩ ?_
  exact L_C_X1_setTo_244_179_13 s0 hJ0  (((10 - 0) + 1 : Int)).toNat s203 a z204 0 z206 hG_s203 f_s203 (by first | exact x_rb b_a rfl rfl | exact ⟨by omega, by omega⟩) (by first | exact x_rbe e_z204 g_z204 rfl rfl | exact x_rb g_z204 rfl rfl | exact ⟨by omega, by omega⟩) ⟨by decide, by decide⟩ (by first | exact x_rbe e_z206 g_z206 rfl rfl | exact x_rb g_z206 rfl rfl | exact ⟨by omega, by omega⟩) (e_z206.symm).symm  (by omega)
theorem C_X8_whyWrong_243 (s0 : xS) (hG0 : GI s0) (a : Int) (b_a : 0 ≤ a ∧ a ≤ 119) (b : Int) (b_b : (-2147483648) ≤ b ∧ b ≤ 2147483647) : xe none 75 0 (lv_args 0 [.ref 243, vi a, vi b]) [] s0 0 0 (fun s' v => GI s' ∧ FL [] s0 s' ∧ ∃ z, v = some (vi z) ∧ (0 ≤ z ∧ z ≤ 4)) := by
  have f0 : FL [] s0 s0 := FL.rf
  show xe none 75 0 [(0, .ref 243), (1, vi a), (2, vi b)] [] s0 0 0 _
  refine x_A k75_0 (fun _ => rfl) ?_
  refine x_getR k75_1 (f := 1) rfl (q := 243) (n := 13) (kd := 13) ⟨by decide, rfl⟩ (q2 := 50) (by decide) rfl ?_
  refine x_getR k75_4 (f := 1) rfl (q := 50) (n := 7) (kd := 6) ⟨by decide, rfl⟩ (q2 := 52) (by decide) rfl ?_
  refine x_A k75_7 (fun _ => rfl) ?_
  refine x_iald k75_8 (q := 52) (n := 120) ⟨by decide, rfl⟩ (by decide) (by first | exact x_rbl b_a rfl rfl | exact ⟨by omega, by omega⟩) ?_
  refine x_top (fun z1 e_z1 => ?_)
  have g_z1 : (0 : Int) ≤ s0 52 a.toNat ∧ s0 52 a.toNat ≤ 39 := hG0 52 a.toNat
  refine x_istore_n k75_9 (ls' := [(3, vi z1), (0, .ref 243), (1, vi a), (2, vi b)]) (by decide) rfl ?_
  refine x_A k75_10 (fun _ => rfl) ?_
  refine x_getR k75_11 (f := 1) rfl (q := 243) (n := 13) (kd := 13) ⟨by decide, rfl⟩ (q2 := 50) (by decide) rfl ?_
  refine x_getR k75_14 (f := 3) rfl (q := 50) (n := 7) (kd := 6) ⟨by decide, rfl⟩ (q2 := 54) (by decide) rfl ?_
  refine x_A k75_17 (fun _ => rfl) ?_
  refine x_iald k75_18 (q := 54) (n := 120) ⟨by decide, rfl⟩ (by decide) (by first | exact x_rbl b_a rfl rfl | exact ⟨by omega, by omega⟩) ?_
  refine x_top (fun z2 e_z2 => ?_)
  have g_z2 : (0 : Int) ≤ s0 54 a.toNat ∧ s0 54 a.toNat ≤ 63 := hG0 54 a.toNat
  refine x_istore k75_19 (ls' := [(4, vi z2), (3, vi z1), (0, .ref 243), (1, vi a), (2, vi b)]) (by decide) rfl ?_
  refine x_A k75_21 (fun _ => rfl) ?_
  refine x_getR k75_22 (f := 0) rfl (q := 243) (n := 13) (kd := 13) ⟨by decide, rfl⟩ (q2 := 1) (by decide) rfl ?_
  refine x_A k75_25 (fun _ => rfl) ?_
  refine x_A k75_26 (fun _ => rfl) ?_
  obtain ⟨z3, e_z3⟩ : ∃ z, z = s0 1 4 := ⟨_, rfl⟩
  have g_z3 : (1 : Int) ≤ s0 1 4 ∧ s0 1 4 ≤ 40 := hG0 1 4
  refine x_callV k75_27 (y := 64) (n := 2) (w0 := 0) (w1 := 2) (as := [vi z1, vi b]) (rest := []) (by decide +kernel) (q := 1) (nq := 5) (kq := 4) ⟨by decide, rfl⟩ rfl rfl rfl rfl (xe_mono (C_X7_isThere_1 s0 hG0 z1 (by first | exact x_rbe e_z1 g_z1 rfl rfl | exact x_rb g_z1 rfl rfl | exact ⟨by omega, by omega⟩) b (by first | exact x_rb b_b rfl rfl | exact ⟨by omega, by omega⟩)) ?_)
  rintro s5 v ⟨h_s5, z4, rfl, hz_z4⟩
  rw [h_s5]
  rcases hz_z4 with ⟨c_z4, e_z4⟩ | e_z4
  · rw [e_z4]
    show xe none 75 30 [(4, vi z2), (3, vi z1), (0, .ref 243), (1, vi a), (2, vi b)] [vi 1] s0 0 0 _
    refine x_if_ne k75_30 (t := 35) rfl ⟨by decide, by decide⟩ (fun c6 => ?_) (fun c6 => by exfalso; omega)
    refine x_A k75_35 (fun _ => rfl) ?_
    refine x_if_eq k75_37 (t := 63) rfl (by first | exact x_rbe e_z2 g_z2 rfl rfl | exact x_rb g_z2 rfl rfl | exact ⟨by omega, by omega⟩) (fun c7 => ?_) (fun c7 => ?_)
    · skip
      refine x_A k75_63 (fun _ => rfl) ?_
      refine x_if_eq k75_65 (t := 82) rfl (by first | exact x_rbe e_z2 g_z2 rfl rfl | exact x_rb g_z2 rfl rfl | exact ⟨by omega, by omega⟩) (fun c8 => ?_) (fun c8 => by exfalso; omega)
      refine x_A k75_82 (fun _ => rfl) ?_
      refine x_getR k75_83 (f := 4) rfl (q := 243) (n := 13) (kd := 13) ⟨by decide, rfl⟩ (q2 := 249) (by decide) rfl ?_
      refine x_A k75_86 (fun _ => rfl) ?_
      refine x_getR k75_87 (f := 1) rfl (q := 243) (n := 13) (kd := 13) ⟨by decide, rfl⟩ (q2 := 50) (by decide) rfl ?_
      refine x_getR k75_90 (f := 0) rfl (q := 50) (n := 7) (kd := 6) ⟨by decide, rfl⟩ (q2 := 51) (by decide) rfl ?_
      refine x_A k75_93 (fun _ => rfl) ?_
      refine x_iald k75_94 (q := 51) (n := 120) ⟨by decide, rfl⟩ (by decide) (by first | exact x_rbl b_a rfl rfl | exact ⟨by omega, by omega⟩) ?_
      refine x_top (fun z9 e_z9 => ?_)
      have g_z9 : (0 : Int) ≤ s0 51 a.toNat ∧ s0 51 a.toNat ≤ 39 := hG0 51 a.toNat
      refine x_iald k75_95 (q := 249) (n := 40) ⟨by decide, rfl⟩ (by decide) (by first | exact x_rbel e_z9 g_z9 rfl rfl | exact x_rbl g_z9 rfl rfl | exact ⟨by omega, by omega⟩) ?_
      refine x_top (fun z10 e_z10 => ?_)
      have g_z10 : (-2147483648) ≤ s0 249 z9.toNat ∧ s0 249 z9.toNat ≤ 2147483647 := hG0 249 z9.toNat
      refine x_A k75_96 (fun _ => rfl) ?_
      refine x_getR k75_97 (f := 3) rfl (q := 243) (n := 13) (kd := 13) ⟨by decide, rfl⟩ (q2 := 244) (by decide) rfl ?_
      refine x_getI k75_100 (f := 0) rfl (q := 244) (n := 8) (kd := 14) ⟨by decide, rfl⟩ (by decide) rfl ?_
      refine x_top (fun z11 e_z11 => ?_)
      have g_z11 : (-2147483648) ≤ s0 244 0 ∧ s0 244 0 ≤ 2147483647 := hG0 244 0
      refine x_ic_lt k75_103 (t := 108) rfl (by first | exact x_rbe e_z10 g_z10 rfl rfl | exact x_rb g_z10 rfl rfl | exact ⟨by omega, by omega⟩) (by first | exact x_rbe e_z11 g_z11 rfl rfl | exact x_rb g_z11 rfl rfl | exact ⟨by omega, by omega⟩) (fun c12 => ?_) (fun c12 => ?_)
      · skip
        refine x_A k75_108 (fun _ => rfl) ?_
        exact x_iret k75_109 rfl ⟨hG0, f0, 0, rfl, ⟨by decide, by decide⟩⟩
      · skip
        refine x_A k75_106 (fun _ => rfl) ?_
        exact x_iret k75_107 rfl ⟨hG0, f0, 4, rfl, ⟨by decide, by decide⟩⟩
    · skip
      refine x_A k75_40 (fun _ => rfl) ?_
      refine x_getR k75_41 (f := 3) rfl (q := 243) (n := 13) (kd := 13) ⟨by decide, rfl⟩ (q2 := 244) (by decide) rfl ?_
      refine x_A k75_44 (fun _ => rfl) ?_
      refine x_A k75_46 (fun _ => rfl) ?_
      refine x_getR k75_47 (f := 0) rfl (q := 243) (n := 13) (kd := 13) ⟨by decide, rfl⟩ (q2 := 1) (by decide) rfl ?_
      refine x_A k75_50 (fun _ => rfl) ?_
      refine x_A k75_51 (fun _ => rfl) ?_
      refine x_callV k75_52 (y := 65) (n := 2) (w0 := 2) (w1 := 2) (as := [vi z1, vi b]) (rest := [vi z2, .ref 244]) (by decide +kernel) (q := 1) (nq := 5) (kq := 4) ⟨by decide, rfl⟩ rfl rfl rfl rfl (xe_mono (C_X7_pathUp_1 s0 hG0 z1 (by first | exact x_rbe e_z1 g_z1 rfl rfl | exact x_rb g_z1 rfl rfl | exact ⟨by omega, by omega⟩) b (by first | exact x_rb b_b rfl rfl | exact ⟨by omega, by omega⟩)) ?_)
      rintro s14 v ⟨-, t_s14, z13, rfl, b_z13⟩
      rw [t_s14.nil]
      show xe none 75 55 [(4, vi z2), (3, vi z1), (0, .ref 243), (1, vi a), (2, vi b)] [vj z13, vi z2, .ref 244] s0 0 0 _
      refine x_callV k75_55 (y := 20) (n := 2) (w0 := 0) (w1 := 3) (as := [vi z2, vj z13]) (rest := []) (by decide +kernel) (q := 244) (nq := 8) (kq := 14) ⟨by decide, rfl⟩ rfl rfl rfl rfl (xe_mono (C_X1_disallows_244 s0 hG0 z2 (by first | exact x_rbe e_z2 g_z2 rfl rfl | exact x_rb g_z2 rfl rfl | exact ⟨by omega, by omega⟩) z13 b_z13) ?_)
      rintro s16 v ⟨-, t_s16, z15, rfl, g_z15⟩
      rw [t_s16.nil]
      show xe none 75 58 [(4, vi z2), (3, vi z1), (0, .ref 243), (1, vi a), (2, vi b)] [vi z15] s0 0 0 _
      refine x_if_eq k75_58 (t := 63) rfl (by first | exact x_rbe e_z15 g_z15 rfl rfl | exact x_rb g_z15 rfl rfl | exact ⟨by omega, by omega⟩) (fun c17 => ?_) (fun c17 => ?_)
      · skip
        refine x_A k75_63 (fun _ => rfl) ?_
        refine x_if_eq k75_65 (t := 82) rfl (by first | exact x_rbe e_z2 g_z2 rfl rfl | exact x_rb g_z2 rfl rfl | exact ⟨by omega, by omega⟩) (fun c18 => by exfalso; omega) (fun c18 => ?_)
        refine x_A k75_68 (fun _ => rfl) ?_
        refine x_getR k75_69 (f := 3) rfl (q := 243) (n := 13) (kd := 13) ⟨by decide, rfl⟩ (q2 := 244) (by decide) rfl ?_
        refine x_A k75_72 (fun _ => rfl) ?_
        refine x_callV k75_74 (y := 21) (n := 1) (w0 := 0) (w1 := 1) (as := [vi z2]) (rest := []) (by decide +kernel) (q := 244) (nq := 8) (kq := 14) ⟨by decide, rfl⟩ rfl rfl rfl rfl (xe_mono (C_X1_barsTwo_244 s0 hG0 z2 (by first | exact x_rbe e_z2 g_z2 rfl rfl | exact x_rb g_z2 rfl rfl | exact ⟨by omega, by omega⟩)) ?_)
        rintro s20 v ⟨-, t_s20, z19, rfl, g_z19⟩
        rw [t_s20.nil]
        show xe none 75 77 [(4, vi z2), (3, vi z1), (0, .ref 243), (1, vi a), (2, vi b)] [vi z19] s0 0 0 _
        refine x_if_eq k75_77 (t := 82) rfl (by first | exact x_rbe e_z19 g_z19 rfl rfl | exact x_rb g_z19 rfl rfl | exact ⟨by omega, by omega⟩) (fun c21 => ?_) (fun c21 => ?_)
        · skip
          refine x_A k75_82 (fun _ => rfl) ?_
          refine x_getR k75_83 (f := 4) rfl (q := 243) (n := 13) (kd := 13) ⟨by decide, rfl⟩ (q2 := 249) (by decide) rfl ?_
          refine x_A k75_86 (fun _ => rfl) ?_
          refine x_getR k75_87 (f := 1) rfl (q := 243) (n := 13) (kd := 13) ⟨by decide, rfl⟩ (q2 := 50) (by decide) rfl ?_
          refine x_getR k75_90 (f := 0) rfl (q := 50) (n := 7) (kd := 6) ⟨by decide, rfl⟩ (q2 := 51) (by decide) rfl ?_
          refine x_A k75_93 (fun _ => rfl) ?_
          refine x_iald k75_94 (q := 51) (n := 120) ⟨by decide, rfl⟩ (by decide) (by first | exact x_rbl b_a rfl rfl | exact ⟨by omega, by omega⟩) ?_
          refine x_top (fun z22 e_z22 => ?_)
          have g_z22 : (0 : Int) ≤ s0 51 a.toNat ∧ s0 51 a.toNat ≤ 39 := hG0 51 a.toNat
          refine x_iald k75_95 (q := 249) (n := 40) ⟨by decide, rfl⟩ (by decide) (by first | exact x_rbel e_z22 g_z22 rfl rfl | exact x_rbl g_z22 rfl rfl | exact ⟨by omega, by omega⟩) ?_
          refine x_top (fun z23 e_z23 => ?_)
          have g_z23 : (-2147483648) ≤ s0 249 z22.toNat ∧ s0 249 z22.toNat ≤ 2147483647 := hG0 249 z22.toNat
          refine x_A k75_96 (fun _ => rfl) ?_
          refine x_getR k75_97 (f := 3) rfl (q := 243) (n := 13) (kd := 13) ⟨by decide, rfl⟩ (q2 := 244) (by decide) rfl ?_
          refine x_getI k75_100 (f := 0) rfl (q := 244) (n := 8) (kd := 14) ⟨by decide, rfl⟩ (by decide) rfl ?_
          refine x_top (fun z24 e_z24 => ?_)
          have g_z24 : (-2147483648) ≤ s0 244 0 ∧ s0 244 0 ≤ 2147483647 := hG0 244 0
          refine x_ic_lt k75_103 (t := 108) rfl (by first | exact x_rbe e_z23 g_z23 rfl rfl | exact x_rb g_z23 rfl rfl | exact ⟨by omega, by omega⟩) (by first | exact x_rbe e_z24 g_z24 rfl rfl | exact x_rb g_z24 rfl rfl | exact ⟨by omega, by omega⟩) (fun c25 => ?_) (fun c25 => ?_)
          · skip
            refine x_A k75_108 (fun _ => rfl) ?_
            exact x_iret k75_109 rfl ⟨hG0, f0, 0, rfl, ⟨by decide, by decide⟩⟩
          · skip
            refine x_A k75_106 (fun _ => rfl) ?_
            exact x_iret k75_107 rfl ⟨hG0, f0, 4, rfl, ⟨by decide, by decide⟩⟩
        · skip
          refine x_A k75_80 (fun _ => rfl) ?_
          exact x_iret k75_81 rfl ⟨hG0, f0, 3, rfl, ⟨by decide, by decide⟩⟩
      · skip
        refine x_A k75_61 (fun _ => rfl) ?_
        exact x_iret k75_62 rfl ⟨hG0, f0, 2, rfl, ⟨by decide, by decide⟩⟩
  · rw [e_z4]
    show xe none 75 30 [(4, vi z2), (3, vi z1), (0, .ref 243), (1, vi a), (2, vi b)] [vi 0] s0 0 0 _
    refine x_if_ne k75_30 (t := 35) rfl ⟨by decide, by decide⟩ (fun c26 => by exfalso; omega) (fun c26 => ?_)
    refine x_A k75_33 (fun _ => rfl) ?_
    exact x_iret k75_34 rfl ⟨hG0, f0, 1, rfl, ⟨by decide, by decide⟩⟩
theorem L_C_X8_judge_243_25 (s0 : xS) (hJ0 : J s0)  : ∀ (n : Nat) (s : xS) (x1 : Int) (x2 : Int) (hG : GI s) (f : FL [3329, 3334, 3335, 3336, 3392, 3456, 3520, 3584, 3276, 3648, 3712, 3776, 3840] s0 s) (b_x1 : (-1) ≤ x1 ∧ x1 ≤ 9) (b_x2 : 0 ≤ x2 ∧ x2 ≤ 120)  (hm : (120 - x2) < (n : Int)), xe none 74 25 [(0, .ref 243), (1, vi x1), (2, vi x2)] [] s 0 0 (fun s' v => GI s' ∧ FL [3329, 3334, 3335, 3336, 3392, 3456, 3520, 3584, 3276, 3648, 3712, 3776, 3840] s0 s' ∧ v = none) := by
  intro n
  induction n with
  | zero => intro s x1 x2 hG f b_x1 b_x2  hm; exfalso; omega
  | succ n ih =>
    intro s x1 x2 hG f b_x1 b_x2  hm
    refine x_A k74_25 (fun _ => rfl) ?_
    refine x_A k74_26 (fun _ => rfl) ?_
    refine x_getR k74_27 (f := 1) rfl (q := 243) (n := 13) (kd := 13) ⟨by decide, rfl⟩ (q2 := 50) (by decide) rfl ?_
    refine x_getI k74_30 (f := 6) rfl (q := 50) (n := 7) (kd := 6) ⟨by decide, rfl⟩ (by decide) rfl ?_
    refine x_top (fun z4038 e_z4038 => ?_)
    have g_z4038 : (0 : Int) ≤ s 50 6 ∧ s 50 6 ≤ 120 := hG 50 6
    refine x_ic_ge k74_33 (t := 175) rfl (by first | exact x_rb b_x2 rfl rfl | exact ⟨by omega, by omega⟩) (by first | exact x_rbe e_z4038 g_z4038 rfl rfl | exact x_rb g_z4038 rfl rfl | exact ⟨by omega, by omega⟩) (fun c4039 => ?_) (fun c4039 => ?_)
    · skip
      exact x_vret k74_175 rfl ⟨hG, f, rfl⟩
    · skip
      refine x_A k74_36 (fun _ => rfl) ?_
      refine x_getR k74_37 (f := 1) rfl (q := 243) (n := 13) (kd := 13) ⟨by decide, rfl⟩ (q2 := 50) (by decide) rfl ?_
      refine x_getR k74_40 (f := 4) rfl (q := 50) (n := 7) (kd := 6) ⟨by decide, rfl⟩ (q2 := 55) (by decide) rfl ?_
      refine x_A k74_43 (fun _ => rfl) ?_
      refine x_iald k74_44 (q := 55) (n := 120) ⟨by decide, rfl⟩ (by decide) (by first | exact x_rbl b_x2 rfl rfl | exact ⟨by omega, by omega⟩) ?_
      refine x_top (fun z4040 e_z4040 => ?_)
      have g_z4040 : (0 : Int) ≤ s 55 x2.toNat ∧ s 55 x2.toNat ≤ 9 := hG 55 x2.toNat
      refine x_istore_n k74_45 (ls' := [(3, vi z4040), (0, .ref 243), (1, vi x1), (2, vi x2)]) (by decide) rfl ?_
      refine x_A k74_46 (fun _ => rfl) ?_
      refine x_A k74_47 (fun _ => rfl) ?_
      refine x_ic_eq k74_48 (t := 63) rfl (by first | exact x_rbe e_z4040 g_z4040 rfl rfl | exact x_rb g_z4040 rfl rfl | exact ⟨by omega, by omega⟩) (by first | exact x_rb b_x1 rfl rfl | exact ⟨by omega, by omega⟩) (fun c4041 => ?_) (fun c4041 => ?_)
      · skip
        refine x_A k74_63 (fun _ => rfl) ?_
        refine x_istore_n k74_64 (ls' := [(1, vi z4040), (3, vi z4040), (0, .ref 243), (2, vi x2)]) (by decide) rfl ?_
        refine x_A k74_65 (fun _ => rfl) ?_
        refine x_getR k74_66 (f := 7) rfl (q := 243) (n := 13) (kd := 13) ⟨by decide, rfl⟩ (q2 := 252) (by decide) rfl ?_
        refine x_A k74_69 (fun _ => rfl) ?_
        refine x_A k74_70 (fun _ => rfl) ?_
        refine x_A k74_71 (fun _ => rfl) ?_
        refine x_A k74_72 (fun _ => rfl) ?_
        refine x_callV k74_73 (y := 75) (n := 2) (w0 := 2) (w1 := 2) (as := [vi x2, vi z4040]) (rest := [vi x2, .ref 252]) (by decide +kernel) (q := 243) (nq := 13) (kq := 13) ⟨by decide, rfl⟩ rfl rfl rfl rfl (xe_mono (C_X8_whyWrong_243 s hG x2 (by first | exact x_rb b_x2 rfl rfl | exact ⟨by omega, by omega⟩) z4040 (by first | exact x_rbe e_z4040 g_z4040 rfl rfl | exact x_rb g_z4040 rfl rfl | exact ⟨by omega, by omega⟩)) ?_)
        rintro s4043 v ⟨-, t_s4043, z4042, rfl, g_z4042⟩
        rw [t_s4043.nil]
        show xe none 74 76 [(1, vi z4040), (3, vi z4040), (0, .ref 243), (2, vi x2)] [vi z4042, vi x2, .ref 252] s 0 0 _
        refine x_iast k74_76 (q := 252) (n := 120) ⟨by decide, rfl⟩ (by decide) (by first | exact x_rbl b_x2 rfl rfl | exact ⟨by omega, by omega⟩) ?_
        refine x_nh (fun s4044 e_s4044 => ?_)
        have hG_s4044 : GI s4044 := by rw [e_s4044]; exact hG.up (show 0 ≤ z4042 ∧ z4042 ≤ 4 from (by first | exact x_rbe e_z4042 g_z4042 rfl rfl | exact x_rb g_z4042 rfl rfl | exact ⟨by omega, by omega⟩))
        have f_s4044 : FL [3329, 3334, 3335, 3336, 3392, 3456, 3520, 3584, 3276, 3648, 3712, 3776, 3840] s0 s4044 := by rw [e_s4044]; exact f.up (show 3840 ∈ [3329, 3334, 3335, 3336, 3392, 3456, 3520, 3584, 3276, 3648, 3712, 3776, 3840] from by decide +kernel)
        have q4045 : s4044 50 6 = z4038 := by rw [e_s4044, x_up_q (by decide)]; exact e_z4038.symm
        have q4046 : s4044 55 x2.toNat = z4040 := by rw [e_s4044, x_up_q (by first | decide | omega)]; exact e_z4040.symm
        have q4047 : s4044 252 x2.toNat = z4042 := by rw [e_s4044]; exact x_up_same
        refine x_A k74_77 (fun _ => rfl) ?_
        refine x_getR k74_78 (f := 1) rfl (q := 243) (n := 13) (kd := 13) ⟨by decide, rfl⟩ (q2 := 50) (by decide) rfl ?_
        refine x_getR k74_81 (f := 3) rfl (q := 50) (n := 7) (kd := 6) ⟨by decide, rfl⟩ (q2 := 54) (by decide) rfl ?_
        refine x_A k74_84 (fun _ => rfl) ?_
        refine x_iald k74_85 (q := 54) (n := 120) ⟨by decide, rfl⟩ (by decide) (by first | exact x_rbl b_x2 rfl rfl | exact ⟨by omega, by omega⟩) ?_
        refine x_top (fun z4048 e_z4048 => ?_)
        have g_z4048 : (0 : Int) ≤ s4044 54 x2.toNat ∧ s4044 54 x2.toNat ≤ 63 := hG_s4044 54 x2.toNat
        refine x_istore k74_86 (ls' := [(4, vi z4048), (1, vi z4040), (3, vi z4040), (0, .ref 243), (2, vi x2)]) (by decide) rfl ?_
        refine x_A k74_88 (fun _ => rfl) ?_
        refine x_getR k74_89 (f := 5) rfl (q := 243) (n := 13) (kd := 13) ⟨by decide, rfl⟩ (q2 := 250) (by decide) rfl ?_
        refine x_A k74_92 (fun _ => rfl) ?_
        refine x_A k74_93 (fun _ => rfl) ?_
        refine x_if_eq k74_95 (t := 115) rfl (by first | exact x_rbe e_z4048 g_z4048 rfl rfl | exact x_rb g_z4048 rfl rfl | exact ⟨by omega, by omega⟩) (fun c4049 => ?_) (fun c4049 => ?_)
        · skip
          refine x_A k74_115 (fun _ => rfl) ?_
          refine x_bast k74_116 (q := 250) (n := 120) ⟨by decide, rfl⟩ (by decide) (by first | exact x_rbl b_x2 rfl rfl | exact ⟨by omega, by omega⟩) ⟨by omega, by omega⟩ ?_
          refine x_nh (fun s4050 e_s4050 => ?_)
          have hG_s4050 : GI s4050 := by rw [e_s4050]; exact hG_s4044.up (show 0 ≤ 0 ∧ 0 ≤ 1 from ⟨by decide, by decide⟩)
          have f_s4050 : FL [3329, 3334, 3335, 3336, 3392, 3456, 3520, 3584, 3276, 3648, 3712, 3776, 3840] s0 s4050 := by rw [e_s4050]; exact f_s4044.up (show 3712 ∈ [3329, 3334, 3335, 3336, 3392, 3456, 3520, 3584, 3276, 3648, 3712, 3776, 3840] from by decide +kernel)
          have q4051 : s4050 50 6 = z4038 := by rw [e_s4050, x_up_q (by decide)]; exact q4045
          have q4052 : s4050 55 x2.toNat = z4040 := by rw [e_s4050, x_up_q (by first | decide | omega)]; exact q4046
          have q4053 : s4050 252 x2.toNat = z4042 := by rw [e_s4050, x_up_q (by first | decide | omega)]; exact q4047
          have q4054 : s4050 54 x2.toNat = z4048 := by rw [e_s4050, x_up_q (by first | decide | omega)]; exact e_z4048.symm
          have q4055 : s4050 250 x2.toNat = 0 := by rw [e_s4050]; exact x_up_same
          refine x_A k74_117 (fun _ => rfl) ?_
          refine x_getR k74_118 (f := 6) rfl (q := 243) (n := 13) (kd := 13) ⟨by decide, rfl⟩ (q2 := 251) (by decide) rfl ?_
          refine x_A k74_121 (fun _ => rfl) ?_
          refine x_A k74_122 (fun _ => rfl) ?_
          refine x_if_ne k74_124 (t := 131) rfl (by first | exact x_rbe e_z4048 g_z4048 rfl rfl | exact x_rb g_z4048 rfl rfl | exact ⟨by omega, by omega⟩) (fun c4056 => by exfalso; omega) (fun c4056 => ?_)
          refine x_A k74_127 (fun _ => rfl) ?_
          refine x_goto k74_128 (t := 141) rfl ?_
          refine x_iast k74_141 (q := 251) (n := 120) ⟨by decide, rfl⟩ (by decide) (by first | exact x_rbl b_x2 rfl rfl | exact ⟨by omega, by omega⟩) ?_
          refine x_nh (fun s4057 e_s4057 => ?_)
          have hG_s4057 : GI s4057 := by rw [e_s4057]; exact hG_s4050.up (show 0 ≤ 0 ∧ 0 ≤ 6 from ⟨by decide, by decide⟩)
          have f_s4057 : FL [3329, 3334, 3335, 3336, 3392, 3456, 3520, 3584, 3276, 3648, 3712, 3776, 3840] s0 s4057 := by rw [e_s4057]; exact f_s4050.up (show 3776 ∈ [3329, 3334, 3335, 3336, 3392, 3456, 3520, 3584, 3276, 3648, 3712, 3776, 3840] from by decide +kernel)
          have q4058 : s4057 50 6 = z4038 := by rw [e_s4057, x_up_q (by decide)]; exact q4051
          have q4059 : s4057 55 x2.toNat = z4040 := by rw [e_s4057, x_up_q (by first | decide | omega)]; exact q4052
          have q4060 : s4057 252 x2.toNat = z4042 := by rw [e_s4057, x_up_q (by first | decide | omega)]; exact q4053
          have q4061 : s4057 54 x2.toNat = z4048 := by rw [e_s4057, x_up_q (by first | decide | omega)]; exact q4054
          have q4062 : s4057 250 x2.toNat = 0 := by rw [e_s4057, x_up_q (by first | decide | omega)]; exact q4055
          have q4063 : s4057 251 x2.toNat = 0 := by rw [e_s4057]; exact x_up_same
          refine x_A k74_142 (fun _ => rfl) ?_
          refine x_getR k74_143 (f := 7) rfl (q := 243) (n := 13) (kd := 13) ⟨by decide, rfl⟩ (q2 := 252) (by decide) rfl ?_
          refine x_A k74_146 (fun _ => rfl) ?_
          refine x_iald k74_147 (q := 252) (n := 120) ⟨by decide, rfl⟩ (by decide) (by first | exact x_rbl b_x2 rfl rfl | exact ⟨by omega, by omega⟩) ?_
          rw [q4060]
          refine x_if_ne k74_148 (t := 169) rfl (by first | exact x_rbe e_z4042 g_z4042 rfl rfl | exact x_rb g_z4042 rfl rfl | exact ⟨by omega, by omega⟩) (fun c4064 => ?_) (fun c4064 => ?_)
          · skip
            refine x_iinc k74_169 (ls' := [(2, vi (x2 + 1)), (4, vi z4048), (1, vi z4040), (3, vi z4040), (0, .ref 243)]) rfl (by decide) rfl ?_
            refine x_goto k74_172 (t := 25) rfl ?_
            refine x_ls (l := [(0, .ref 243), (1, vi z4040), (2, vi (x2 + 1))]) (show ([0, 1, 2] : List Nat).Nodup from by decide +kernel) ⟨rfl, rfl, rfl, trivial⟩ ?_
            exact ih s4057 z4040 (x2 + 1) hG_s4057 f_s4057 (by first | exact x_rbe e_z4040 g_z4040 rfl rfl | exact x_rb g_z4040 rfl rfl | exact ⟨by omega, by omega⟩) ⟨by omega, by omega⟩  (by omega)
          · skip
            refine x_A k74_151 (fun _ => rfl) ?_
            refine x_getR k74_152 (f := 4) rfl (q := 243) (n := 13) (kd := 13) ⟨by decide, rfl⟩ (q2 := 249) (by decide) rfl ?_
            refine x_A k74_155 (fun _ => rfl) ?_
            refine x_getR k74_156 (f := 1) rfl (q := 243) (n := 13) (kd := 13) ⟨by decide, rfl⟩ (q2 := 50) (by decide) rfl ?_
            refine x_getR k74_159 (f := 0) rfl (q := 50) (n := 7) (kd := 6) ⟨by decide, rfl⟩ (q2 := 51) (by decide) rfl ?_
            refine x_A k74_162 (fun _ => rfl) ?_
            refine x_iald k74_163 (q := 51) (n := 120) ⟨by decide, rfl⟩ (by decide) (by first | exact x_rbl b_x2 rfl rfl | exact ⟨by omega, by omega⟩) ?_
            refine x_top (fun z4065 e_z4065 => ?_)
            have g_z4065 : (0 : Int) ≤ s4057 51 x2.toNat ∧ s4057 51 x2.toNat ≤ 39 := hG_s4057 51 x2.toNat
            refine x_A k74_164 (fun _ => rfl) ?_
            refine x_iald k74_165 (q := 249) (n := 40) ⟨by decide, rfl⟩ (by decide) (by first | exact x_rbel e_z4065 g_z4065 rfl rfl | exact x_rbl g_z4065 rfl rfl | exact ⟨by omega, by omega⟩) ?_
            refine x_top (fun z4066 e_z4066 => ?_)
            have g_z4066 : (-2147483648) ≤ s4057 249 z4065.toNat ∧ s4057 249 z4065.toNat ≤ 2147483647 := hG_s4057 249 z4065.toNat
            refine x_A k74_166 (fun _ => rfl) ?_
            refine x_iadd k74_167 ?_
            refine x_topW (fun z4067 g_z4067 => ?_)
            unfold in32 at g_z4067
            refine x_iast k74_168 (q := 249) (n := 40) ⟨by decide, rfl⟩ (by decide) (by first | exact x_rbel e_z4065 g_z4065 rfl rfl | exact x_rbl g_z4065 rfl rfl | exact ⟨by omega, by omega⟩) ?_
            refine x_nh (fun s4068 e_s4068 => ?_)
            have hG_s4068 : GI s4068 := by rw [e_s4068]; exact hG_s4057.up (show (-2147483648) ≤ z4067 ∧ z4067 ≤ 2147483647 from (by first | exact x_rbe e_z4067 g_z4067 rfl rfl | exact x_rb g_z4067 rfl rfl | exact ⟨by omega, by omega⟩))
            have f_s4068 : FL [3329, 3334, 3335, 3336, 3392, 3456, 3520, 3584, 3276, 3648, 3712, 3776, 3840] s0 s4068 := by rw [e_s4068]; exact f_s4057.up (show 3648 ∈ [3329, 3334, 3335, 3336, 3392, 3456, 3520, 3584, 3276, 3648, 3712, 3776, 3840] from by decide +kernel)
            have q4069 : s4068 50 6 = z4038 := by rw [e_s4068, x_up_q (by decide)]; exact q4058
            have q4070 : s4068 55 x2.toNat = z4040 := by rw [e_s4068, x_up_q (by first | decide | omega)]; exact q4059
            have q4071 : s4068 252 x2.toNat = z4042 := by rw [e_s4068, x_up_q (by first | decide | omega)]; exact q4060
            have q4072 : s4068 54 x2.toNat = z4048 := by rw [e_s4068, x_up_q (by first | decide | omega)]; exact q4061
            have q4073 : s4068 250 x2.toNat = 0 := by rw [e_s4068, x_up_q (by first | decide | omega)]; exact q4062
            have q4074 : s4068 251 x2.toNat = 0 := by rw [e_s4068, x_up_q (by first | decide | omega)]; exact q4063
            have q4075 : s4068 51 x2.toNat = z4065 := by rw [e_s4068, x_up_q (by first | decide | omega)]; exact e_z4065.symm
            have q4076 : s4068 249 z4065.toNat = z4067 := by rw [e_s4068]; exact x_up_same
            refine x_iinc k74_169 (ls' := [(2, vi (x2 + 1)), (4, vi z4048), (1, vi z4040), (3, vi z4040), (0, .ref 243)]) rfl (by decide) rfl ?_
            refine x_goto k74_172 (t := 25) rfl ?_
            refine x_ls (l := [(0, .ref 243), (1, vi z4040), (2, vi (x2 + 1))]) (show ([0, 1, 2] : List Nat).Nodup from by decide +kernel) ⟨rfl, rfl, rfl, trivial⟩ ?_
            exact ih s4068 z4040 (x2 + 1) hG_s4068 f_s4068 (by first | exact x_rbe e_z4040 g_z4040 rfl rfl | exact x_rb g_z4040 rfl rfl | exact ⟨by omega, by omega⟩) ⟨by omega, by omega⟩  (by omega)
        · skip
          refine x_A k74_98 (fun _ => rfl) ?_
          refine x_getR k74_99 (f := 3) rfl (q := 243) (n := 13) (kd := 13) ⟨by decide, rfl⟩ (q2 := 244) (by decide) rfl ?_
          refine x_A k74_102 (fun _ => rfl) ?_
          refine x_A k74_104 (fun _ => rfl) ?_
          refine x_callV k74_105 (y := 22) (n := 2) (w0 := 2) (w1 := 2) (as := [vi z4048, vi 1]) (rest := [vi x2, .ref 250]) (by decide +kernel) (q := 244) (nq := 8) (kq := 14) ⟨by decide, rfl⟩ rfl rfl rfl rfl (xe_mono (C_X1_countSense_244 s4044 hG_s4044 z4048 (by first | exact x_rbe e_z4048 g_z4048 rfl rfl | exact x_rb g_z4048 rfl rfl | exact ⟨by omega, by omega⟩) 1 ⟨by decide, by decide⟩) ?_)
          rintro s4078 v ⟨-, t_s4078, z4077, rfl, g_z4077⟩
          rw [t_s4078.nil]
          show xe none 74 108 [(4, vi z4048), (1, vi z4040), (3, vi z4040), (0, .ref 243), (2, vi x2)] [vi z4077, vi x2, .ref 250] s4044 0 0 _
          refine x_if_le k74_108 (t := 115) rfl (by first | exact x_rbe e_z4077 g_z4077 rfl rfl | exact x_rb g_z4077 rfl rfl | exact ⟨by omega, by omega⟩) (fun c4079 => ?_) (fun c4079 => ?_)
          · skip
            refine x_A k74_115 (fun _ => rfl) ?_
            refine x_bast k74_116 (q := 250) (n := 120) ⟨by decide, rfl⟩ (by decide) (by first | exact x_rbl b_x2 rfl rfl | exact ⟨by omega, by omega⟩) ⟨by omega, by omega⟩ ?_
            refine x_nh (fun s4080 e_s4080 => ?_)
            have hG_s4080 : GI s4080 := by rw [e_s4080]; exact hG_s4044.up (show 0 ≤ 0 ∧ 0 ≤ 1 from ⟨by decide, by decide⟩)
            have f_s4080 : FL [3329, 3334, 3335, 3336, 3392, 3456, 3520, 3584, 3276, 3648, 3712, 3776, 3840] s0 s4080 := by rw [e_s4080]; exact f_s4044.up (show 3712 ∈ [3329, 3334, 3335, 3336, 3392, 3456, 3520, 3584, 3276, 3648, 3712, 3776, 3840] from by decide +kernel)
            have q4081 : s4080 50 6 = z4038 := by rw [e_s4080, x_up_q (by decide)]; exact q4045
            have q4082 : s4080 55 x2.toNat = z4040 := by rw [e_s4080, x_up_q (by first | decide | omega)]; exact q4046
            have q4083 : s4080 252 x2.toNat = z4042 := by rw [e_s4080, x_up_q (by first | decide | omega)]; exact q4047
            have q4084 : s4080 54 x2.toNat = z4048 := by rw [e_s4080, x_up_q (by first | decide | omega)]; exact e_z4048.symm
            have q4085 : s4080 250 x2.toNat = 0 := by rw [e_s4080]; exact x_up_same
            refine x_A k74_117 (fun _ => rfl) ?_
            refine x_getR k74_118 (f := 6) rfl (q := 243) (n := 13) (kd := 13) ⟨by decide, rfl⟩ (q2 := 251) (by decide) rfl ?_
            refine x_A k74_121 (fun _ => rfl) ?_
            refine x_A k74_122 (fun _ => rfl) ?_
            refine x_if_ne k74_124 (t := 131) rfl (by first | exact x_rbe e_z4048 g_z4048 rfl rfl | exact x_rb g_z4048 rfl rfl | exact ⟨by omega, by omega⟩) (fun c4086 => ?_) (fun c4086 => by exfalso; omega)
            refine x_A k74_131 (fun _ => rfl) ?_
            refine x_getR k74_132 (f := 3) rfl (q := 243) (n := 13) (kd := 13) ⟨by decide, rfl⟩ (q2 := 244) (by decide) rfl ?_
            refine x_A k74_135 (fun _ => rfl) ?_
            refine x_A k74_137 (fun _ => rfl) ?_
            refine x_callV k74_138 (y := 22) (n := 2) (w0 := 2) (w1 := 2) (as := [vi z4048, vi 2]) (rest := [vi x2, .ref 251]) (by decide +kernel) (q := 244) (nq := 8) (kq := 14) ⟨by decide, rfl⟩ rfl rfl rfl rfl (xe_mono (C_X1_countSense_244 s4080 hG_s4080 z4048 (by first | exact x_rbe e_z4048 g_z4048 rfl rfl | exact x_rb g_z4048 rfl rfl | exact ⟨by omega, by omega⟩) 2 ⟨by decide, by decide⟩) ?_)
            rintro s4088 v ⟨-, t_s4088, z4087, rfl, g_z4087⟩
            rw [t_s4088.nil]
            show xe none 74 141 [(4, vi z4048), (1, vi z4040), (3, vi z4040), (0, .ref 243), (2, vi x2)] [vi z4087, vi x2, .ref 251] s4080 0 0 _
            refine x_iast k74_141 (q := 251) (n := 120) ⟨by decide, rfl⟩ (by decide) (by first | exact x_rbl b_x2 rfl rfl | exact ⟨by omega, by omega⟩) ?_
            refine x_nh (fun s4089 e_s4089 => ?_)
            have hG_s4089 : GI s4089 := by rw [e_s4089]; exact hG_s4080.up (show 0 ≤ z4087 ∧ z4087 ≤ 6 from (by first | exact x_rbe e_z4087 g_z4087 rfl rfl | exact x_rb g_z4087 rfl rfl | exact ⟨by omega, by omega⟩))
            have f_s4089 : FL [3329, 3334, 3335, 3336, 3392, 3456, 3520, 3584, 3276, 3648, 3712, 3776, 3840] s0 s4089 := by rw [e_s4089]; exact f_s4080.up (show 3776 ∈ [3329, 3334, 3335, 3336, 3392, 3456, 3520, 3584, 3276, 3648, 3712, 3776, 3840] from by decide +kernel)
            have q4090 : s4089 50 6 = z4038 := by rw [e_s4089, x_up_q (by decide)]; exact q4081
            have q4091 : s4089 55 x2.toNat = z4040 := by rw [e_s4089, x_up_q (by first | decide | omega)]; exact q4082
            have q4092 : s4089 252 x2.toNat = z4042 := by rw [e_s4089, x_up_q (by first | decide | omega)]; exact q4083
            have q4093 : s4089 54 x2.toNat = z4048 := by rw [e_s4089, x_up_q (by first | decide | omega)]; exact q4084
            have q4094 : s4089 250 x2.toNat = 0 := by rw [e_s4089, x_up_q (by first | decide | omega)]; exact q4085
            have q4095 : s4089 251 x2.toNat = z4087 := by rw [e_s4089]; exact x_up_same
            refine x_A k74_142 (fun _ => rfl) ?_
            refine x_getR k74_143 (f := 7) rfl (q := 243) (n := 13) (kd := 13) ⟨by decide, rfl⟩ (q2 := 252) (by decide) rfl ?_
            refine x_A k74_146 (fun _ => rfl) ?_
            refine x_iald k74_147 (q := 252) (n := 120) ⟨by decide, rfl⟩ (by decide) (by first | exact x_rbl b_x2 rfl rfl | exact ⟨by omega, by omega⟩) ?_
            rw [q4092]
            refine x_if_ne k74_148 (t := 169) rfl (by first | exact x_rbe e_z4042 g_z4042 rfl rfl | exact x_rb g_z4042 rfl rfl | exact ⟨by omega, by omega⟩) (fun c4096 => ?_) (fun c4096 => ?_)
            · skip
              refine x_iinc k74_169 (ls' := [(2, vi (x2 + 1)), (4, vi z4048), (1, vi z4040), (3, vi z4040), (0, .ref 243)]) rfl (by decide) rfl ?_
              refine x_goto k74_172 (t := 25) rfl ?_
              refine x_ls (l := [(0, .ref 243), (1, vi z4040), (2, vi (x2 + 1))]) (show ([0, 1, 2] : List Nat).Nodup from by decide +kernel) ⟨rfl, rfl, rfl, trivial⟩ ?_
              exact ih s4089 z4040 (x2 + 1) hG_s4089 f_s4089 (by first | exact x_rbe e_z4040 g_z4040 rfl rfl | exact x_rb g_z4040 rfl rfl | exact ⟨by omega, by omega⟩) ⟨by omega, by omega⟩  (by omega)
            · skip
              refine x_A k74_151 (fun _ => rfl) ?_
              refine x_getR k74_152 (f := 4) rfl (q := 243) (n := 13) (kd := 13) ⟨by decide, rfl⟩ (q2 := 249) (by decide) rfl ?_
              refine x_A k74_155 (fun _ => rfl) ?_
              refine x_getR k74_156 (f := 1) rfl (q := 243) (n := 13) (kd := 13) ⟨by decide, rfl⟩ (q2 := 50) (by decide) rfl ?_
              refine x_getR k74_159 (f := 0) rfl (q := 50) (n := 7) (kd := 6) ⟨by decide, rfl⟩ (q2 := 51) (by decide) rfl ?_
              refine x_A k74_162 (fun _ => rfl) ?_
              refine x_iald k74_163 (q := 51) (n := 120) ⟨by decide, rfl⟩ (by decide) (by first | exact x_rbl b_x2 rfl rfl | exact ⟨by omega, by omega⟩) ?_
              refine x_top (fun z4097 e_z4097 => ?_)
              have g_z4097 : (0 : Int) ≤ s4089 51 x2.toNat ∧ s4089 51 x2.toNat ≤ 39 := hG_s4089 51 x2.toNat
              refine x_A k74_164 (fun _ => rfl) ?_
              refine x_iald k74_165 (q := 249) (n := 40) ⟨by decide, rfl⟩ (by decide) (by first | exact x_rbel e_z4097 g_z4097 rfl rfl | exact x_rbl g_z4097 rfl rfl | exact ⟨by omega, by omega⟩) ?_
              refine x_top (fun z4098 e_z4098 => ?_)
              have g_z4098 : (-2147483648) ≤ s4089 249 z4097.toNat ∧ s4089 249 z4097.toNat ≤ 2147483647 := hG_s4089 249 z4097.toNat
              refine x_A k74_166 (fun _ => rfl) ?_
              refine x_iadd k74_167 ?_
              refine x_topW (fun z4099 g_z4099 => ?_)
              unfold in32 at g_z4099
              refine x_iast k74_168 (q := 249) (n := 40) ⟨by decide, rfl⟩ (by decide) (by first | exact x_rbel e_z4097 g_z4097 rfl rfl | exact x_rbl g_z4097 rfl rfl | exact ⟨by omega, by omega⟩) ?_
              refine x_nh (fun s4100 e_s4100 => ?_)
              have hG_s4100 : GI s4100 := by rw [e_s4100]; exact hG_s4089.up (show (-2147483648) ≤ z4099 ∧ z4099 ≤ 2147483647 from (by first | exact x_rbe e_z4099 g_z4099 rfl rfl | exact x_rb g_z4099 rfl rfl | exact ⟨by omega, by omega⟩))
              have f_s4100 : FL [3329, 3334, 3335, 3336, 3392, 3456, 3520, 3584, 3276, 3648, 3712, 3776, 3840] s0 s4100 := by rw [e_s4100]; exact f_s4089.up (show 3648 ∈ [3329, 3334, 3335, 3336, 3392, 3456, 3520, 3584, 3276, 3648, 3712, 3776, 3840] from by decide +kernel)
              have q4101 : s4100 50 6 = z4038 := by rw [e_s4100, x_up_q (by decide)]; exact q4090
              have q4102 : s4100 55 x2.toNat = z4040 := by rw [e_s4100, x_up_q (by first | decide | omega)]; exact q4091
              have q4103 : s4100 252 x2.toNat = z4042 := by rw [e_s4100, x_up_q (by first | decide | omega)]; exact q4092
              have q4104 : s4100 54 x2.toNat = z4048 := by rw [e_s4100, x_up_q (by first | decide | omega)]; exact q4093
              have q4105 : s4100 250 x2.toNat = 0 := by rw [e_s4100, x_up_q (by first | decide | omega)]; exact q4094
              have q4106 : s4100 251 x2.toNat = z4087 := by rw [e_s4100, x_up_q (by first | decide | omega)]; exact q4095
              have q4107 : s4100 51 x2.toNat = z4097 := by rw [e_s4100, x_up_q (by first | decide | omega)]; exact e_z4097.symm
              have q4108 : s4100 249 z4097.toNat = z4099 := by rw [e_s4100]; exact x_up_same
              refine x_iinc k74_169 (ls' := [(2, vi (x2 + 1)), (4, vi z4048), (1, vi z4040), (3, vi z4040), (0, .ref 243)]) rfl (by decide) rfl ?_
              refine x_goto k74_172 (t := 25) rfl ?_
              refine x_ls (l := [(0, .ref 243), (1, vi z4040), (2, vi (x2 + 1))]) (show ([0, 1, 2] : List Nat).Nodup from by decide +kernel) ⟨rfl, rfl, rfl, trivial⟩ ?_
              exact ih s4100 z4040 (x2 + 1) hG_s4100 f_s4100 (by first | exact x_rbe e_z4040 g_z4040 rfl rfl | exact x_rb g_z4040 rfl rfl | exact ⟨by omega, by omega⟩) ⟨by omega, by omega⟩  (by omega)
          · skip
            refine x_A k74_111 (fun _ => rfl) ?_
            refine x_goto k74_112 (t := 116) rfl ?_
            refine x_bast k74_116 (q := 250) (n := 120) ⟨by decide, rfl⟩ (by decide) (by first | exact x_rbl b_x2 rfl rfl | exact ⟨by omega, by omega⟩) ⟨by omega, by omega⟩ ?_
            refine x_nh (fun s4109 e_s4109 => ?_)
            have hG_s4109 : GI s4109 := by rw [e_s4109]; exact hG_s4044.up (show 0 ≤ 1 ∧ 1 ≤ 1 from ⟨by decide, by decide⟩)
            have f_s4109 : FL [3329, 3334, 3335, 3336, 3392, 3456, 3520, 3584, 3276, 3648, 3712, 3776, 3840] s0 s4109 := by rw [e_s4109]; exact f_s4044.up (show 3712 ∈ [3329, 3334, 3335, 3336, 3392, 3456, 3520, 3584, 3276, 3648, 3712, 3776, 3840] from by decide +kernel)
            have q4110 : s4109 50 6 = z4038 := by rw [e_s4109, x_up_q (by decide)]; exact q4045
            have q4111 : s4109 55 x2.toNat = z4040 := by rw [e_s4109, x_up_q (by first | decide | omega)]; exact q4046
            have q4112 : s4109 252 x2.toNat = z4042 := by rw [e_s4109, x_up_q (by first | decide | omega)]; exact q4047
            have q4113 : s4109 54 x2.toNat = z4048 := by rw [e_s4109, x_up_q (by first | decide | omega)]; exact e_z4048.symm
            have q4114 : s4109 250 x2.toNat = 1 := by rw [e_s4109]; exact x_up_same
            refine x_A k74_117 (fun _ => rfl) ?_
            refine x_getR k74_118 (f := 6) rfl (q := 243) (n := 13) (kd := 13) ⟨by decide, rfl⟩ (q2 := 251) (by decide) rfl ?_
            refine x_A k74_121 (fun _ => rfl) ?_
            refine x_A k74_122 (fun _ => rfl) ?_
            refine x_if_ne k74_124 (t := 131) rfl (by first | exact x_rbe e_z4048 g_z4048 rfl rfl | exact x_rb g_z4048 rfl rfl | exact ⟨by omega, by omega⟩) (fun c4115 => ?_) (fun c4115 => by exfalso; omega)
            refine x_A k74_131 (fun _ => rfl) ?_
            refine x_getR k74_132 (f := 3) rfl (q := 243) (n := 13) (kd := 13) ⟨by decide, rfl⟩ (q2 := 244) (by decide) rfl ?_
            refine x_A k74_135 (fun _ => rfl) ?_
            refine x_A k74_137 (fun _ => rfl) ?_
            refine x_callV k74_138 (y := 22) (n := 2) (w0 := 2) (w1 := 2) (as := [vi z4048, vi 2]) (rest := [vi x2, .ref 251]) (by decide +kernel) (q := 244) (nq := 8) (kq := 14) ⟨by decide, rfl⟩ rfl rfl rfl rfl (xe_mono (C_X1_countSense_244 s4109 hG_s4109 z4048 (by first | exact x_rbe e_z4048 g_z4048 rfl rfl | exact x_rb g_z4048 rfl rfl | exact ⟨by omega, by omega⟩) 2 ⟨by decide, by decide⟩) ?_)
            rintro s4117 v ⟨-, t_s4117, z4116, rfl, g_z4116⟩
            rw [t_s4117.nil]
            show xe none 74 141 [(4, vi z4048), (1, vi z4040), (3, vi z4040), (0, .ref 243), (2, vi x2)] [vi z4116, vi x2, .ref 251] s4109 0 0 _
            refine x_iast k74_141 (q := 251) (n := 120) ⟨by decide, rfl⟩ (by decide) (by first | exact x_rbl b_x2 rfl rfl | exact ⟨by omega, by omega⟩) ?_
            refine x_nh (fun s4118 e_s4118 => ?_)
            have hG_s4118 : GI s4118 := by rw [e_s4118]; exact hG_s4109.up (show 0 ≤ z4116 ∧ z4116 ≤ 6 from (by first | exact x_rbe e_z4116 g_z4116 rfl rfl | exact x_rb g_z4116 rfl rfl | exact ⟨by omega, by omega⟩))
            have f_s4118 : FL [3329, 3334, 3335, 3336, 3392, 3456, 3520, 3584, 3276, 3648, 3712, 3776, 3840] s0 s4118 := by rw [e_s4118]; exact f_s4109.up (show 3776 ∈ [3329, 3334, 3335, 3336, 3392, 3456, 3520, 3584, 3276, 3648, 3712, 3776, 3840] from by decide +kernel)
            have q4119 : s4118 50 6 = z4038 := by rw [e_s4118, x_up_q (by decide)]; exact q4110
            have q4120 : s4118 55 x2.toNat = z4040 := by rw [e_s4118, x_up_q (by first | decide | omega)]; exact q4111
            have q4121 : s4118 252 x2.toNat = z4042 := by rw [e_s4118, x_up_q (by first | decide | omega)]; exact q4112
            have q4122 : s4118 54 x2.toNat = z4048 := by rw [e_s4118, x_up_q (by first | decide | omega)]; exact q4113
            have q4123 : s4118 250 x2.toNat = 1 := by rw [e_s4118, x_up_q (by first | decide | omega)]; exact q4114
            have q4124 : s4118 251 x2.toNat = z4116 := by rw [e_s4118]; exact x_up_same
            refine x_A k74_142 (fun _ => rfl) ?_
            refine x_getR k74_143 (f := 7) rfl (q := 243) (n := 13) (kd := 13) ⟨by decide, rfl⟩ (q2 := 252) (by decide) rfl ?_
            refine x_A k74_146 (fun _ => rfl) ?_
            refine x_iald k74_147 (q := 252) (n := 120) ⟨by decide, rfl⟩ (by decide) (by first | exact x_rbl b_x2 rfl rfl | exact ⟨by omega, by omega⟩) ?_
            rw [q4121]
            refine x_if_ne k74_148 (t := 169) rfl (by first | exact x_rbe e_z4042 g_z4042 rfl rfl | exact x_rb g_z4042 rfl rfl | exact ⟨by omega, by omega⟩) (fun c4125 => ?_) (fun c4125 => ?_)
            · skip
              refine x_iinc k74_169 (ls' := [(2, vi (x2 + 1)), (4, vi z4048), (1, vi z4040), (3, vi z4040), (0, .ref 243)]) rfl (by decide) rfl ?_
              refine x_goto k74_172 (t := 25) rfl ?_
              refine x_ls (l := [(0, .ref 243), (1, vi z4040), (2, vi (x2 + 1))]) (show ([0, 1, 2] : List Nat).Nodup from by decide +kernel) ⟨rfl, rfl, rfl, trivial⟩ ?_
              exact ih s4118 z4040 (x2 + 1) hG_s4118 f_s4118 (by first | exact x_rbe e_z4040 g_z4040 rfl rfl | exact x_rb g_z4040 rfl rfl | exact ⟨by omega, by omega⟩) ⟨by omega, by omega⟩  (by omega)
            · skip
              refine x_A k74_151 (fun _ => rfl) ?_
              refine x_getR k74_152 (f := 4) rfl (q := 243) (n := 13) (kd := 13) ⟨by decide, rfl⟩ (q2 := 249) (by decide) rfl ?_
              refine x_A k74_155 (fun _ => rfl) ?_
              refine x_getR k74_156 (f := 1) rfl (q := 243) (n := 13) (kd := 13) ⟨by decide, rfl⟩ (q2 := 50) (by decide) rfl ?_
              refine x_getR k74_159 (f := 0) rfl (q := 50) (n := 7) (kd := 6) ⟨by decide, rfl⟩ (q2 := 51) (by decide) rfl ?_
              refine x_A k74_162 (fun _ => rfl) ?_
              refine x_iald k74_163 (q := 51) (n := 120) ⟨by decide, rfl⟩ (by decide) (by first | exact x_rbl b_x2 rfl rfl | exact ⟨by omega, by omega⟩) ?_
              refine x_top (fun z4126 e_z4126 => ?_)
              have g_z4126 : (0 : Int) ≤ s4118 51 x2.toNat ∧ s4118 51 x2.toNat ≤ 39 := hG_s4118 51 x2.toNat
              refine x_A k74_164 (fun _ => rfl) ?_
              refine x_iald k74_165 (q := 249) (n := 40) ⟨by decide, rfl⟩ (by decide) (by first | exact x_rbel e_z4126 g_z4126 rfl rfl | exact x_rbl g_z4126 rfl rfl | exact ⟨by omega, by omega⟩) ?_
              refine x_top (fun z4127 e_z4127 => ?_)
              have g_z4127 : (-2147483648) ≤ s4118 249 z4126.toNat ∧ s4118 249 z4126.toNat ≤ 2147483647 := hG_s4118 249 z4126.toNat
              refine x_A k74_166 (fun _ => rfl) ?_
              refine x_iadd k74_167 ?_
              refine x_topW (fun z4128 g_z4128 => ?_)
              unfold in32 at g_z4128
              refine x_iast k74_168 (q := 249) (n := 40) ⟨by decide, rfl⟩ (by decide) (by first | exact x_rbel e_z4126 g_z4126 rfl rfl | exact x_rbl g_z4126 rfl rfl | exact ⟨by omega, by omega⟩) ?_
              refine x_nh (fun s4129 e_s4129 => ?_)
              have hG_s4129 : GI s4129 := by rw [e_s4129]; exact hG_s4118.up (show (-2147483648) ≤ z4128 ∧ z4128 ≤ 2147483647 from (by first | exact x_rbe e_z4128 g_z4128 rfl rfl | exact x_rb g_z4128 rfl rfl | exact ⟨by omega, by omega⟩))
              have f_s4129 : FL [3329, 3334, 3335, 3336, 3392, 3456, 3520, 3584, 3276, 3648, 3712, 3776, 3840] s0 s4129 := by rw [e_s4129]; exact f_s4118.up (show 3648 ∈ [3329, 3334, 3335, 3336, 3392, 3456, 3520, 3584, 3276, 3648, 3712, 3776, 3840] from by decide +kernel)
              have q4130 : s4129 50 6 = z4038 := by rw [e_s4129, x_up_q (by decide)]; exact q4119
              have q4131 : s4129 55 x2.toNat = z4040 := by rw [e_s4129, x_up_q (by first | decide | omega)]; exact q4120
              have q4132 : s4129 252 x2.toNat = z4042 := by rw [e_s4129, x_up_q (by first | decide | omega)]; exact q4121
              have q4133 : s4129 54 x2.toNat = z4048 := by rw [e_s4129, x_up_q (by first | decide | omega)]; exact q4122
              have q4134 : s4129 250 x2.toNat = 1 := by rw [e_s4129, x_up_q (by first | decide | omega)]; exact q4123
              have q4135 : s4129 251 x2.toNat = z4116 := by rw [e_s4129, x_up_q (by first | decide | omega)]; exact q4124
              have q4136 : s4129 51 x2.toNat = z4126 := by rw [e_s4129, x_up_q (by first | decide | omega)]; exact e_z4126.symm
              have q4137 : s4129 249 z4126.toNat = z4128 := by rw [e_s4129]; exact x_up_same
              refine x_iinc k74_169 (ls' := [(2, vi (x2 + 1)), (4, vi z4048), (1, vi z4040), (3, vi z4040), (0, .ref 243)]) rfl (by decide) rfl ?_
              refine x_goto k74_172 (t := 25) rfl ?_
              refine x_ls (l := [(0, .ref 243), (1, vi z4040), (2, vi (x2 + 1))]) (show ([0, 1, 2] : List Nat).Nodup from by decide +kernel) ⟨rfl, rfl, rfl, trivial⟩ ?_
              exact ih s4129 z4040 (x2 + 1) hG_s4129 f_s4129 (by first | exact x_rbe e_z4040 g_z4040 rfl rfl | exact x_rb g_z4040 rfl rfl | exact ⟨by omega, by omega⟩) ⟨by omega, by omega⟩  (by omega)
      · skip
        refine x_A k74_51 (fun _ => rfl) ?_
        refine x_getR k74_52 (f := 3) rfl (q := 243) (n := 13) (kd := 13) ⟨by decide, rfl⟩ (q2 := 244) (by decide) rfl ?_
        refine x_A k74_55 (fun _ => rfl) ?_
        refine x_getR k74_56 (f := 2) rfl (q := 243) (n := 13) (kd := 13) ⟨by decide, rfl⟩ (q2 := 179) (by decide) rfl ?_
        refine x_A k74_59 (fun _ => rfl) ?_
        refine x_callV k74_60 (y := 16) (n := 2) (w0 := 0) (w1 := 2) (as := [.ref 179, vi z4040]) (rest := []) (by decide +kernel) (q := 244) (nq := 8) (kq := 14) ⟨by decide, rfl⟩ rfl rfl rfl rfl (xe_mono (C_X1_setTo_244_179 s hG (hJ0.fl f (by decide +kernel)) z4040 (by first | exact x_rbe e_z4040 g_z4040 rfl rfl | exact x_rb g_z4040 rfl rfl | exact ⟨by omega, by omega⟩)) ?_)
        rintro s4139 v ⟨hG_s4139, t_s4139, rfl⟩
        have f_s4139 : FL [3329, 3334, 3335, 3336, 3392, 3456, 3520, 3584, 3276, 3648, 3712, 3776, 3840] s0 s4139 := f.tr t_s4139 (by decide +kernel)
        have q4140 : s4139 50 6 = z4038 := (t_s4139 50 6 (show 711 ∉ [3329, 3334, 3335, 3336, 3392, 3456, 3520, 3584] from by decide +kernel)).trans e_z4038.symm
        have q4141 : s4139 55 x2.toNat = z4040 := (t_s4139 55 x2.toNat (show 1024 ∉ [3329, 3334, 3335, 3336, 3392, 3456, 3520, 3584] from by decide +kernel)).trans e_z4040.symm
        show xe none 74 63 [(3, vi z4040), (0, .ref 243), (1, vi x1), (2, vi x2)] [] s4139 0 0 _
        refine x_A k74_63 (fun _ => rfl) ?_
        refine x_istore_n k74_64 (ls' := [(1, vi z4040), (3, vi z4040), (0, .ref 243), (2, vi x2)]) (by decide) rfl ?_
        refine x_A k74_65 (fun _ => rfl) ?_
        refine x_getR k74_66 (f := 7) rfl (q := 243) (n := 13) (kd := 13) ⟨by decide, rfl⟩ (q2 := 252) (by decide) rfl ?_
        refine x_A k74_69 (fun _ => rfl) ?_
        refine x_A k74_70 (fun _ => rfl) ?_
        refine x_A k74_71 (fun _ => rfl) ?_
        refine x_A k74_72 (fun _ => rfl) ?_
        refine x_callV k74_73 (y := 75) (n := 2) (w0 := 2) (w1 := 2) (as := [vi x2, vi z4040]) (rest := [vi x2, .ref 252]) (by decide +kernel) (q := 243) (nq := 13) (kq := 13) ⟨by decide, rfl⟩ rfl rfl rfl rfl (xe_mono (C_X8_whyWrong_243 s4139 hG_s4139 x2 (by first | exact x_rb b_x2 rfl rfl | exact ⟨by omega, by omega⟩) z4040 (by first | exact x_rbe e_z4040 g_z4040 rfl rfl | exact x_rb g_z4040 rfl rfl | exact ⟨by omega, by omega⟩)) ?_)
        rintro s4143 v ⟨-, t_s4143, z4142, rfl, g_z4142⟩
        rw [t_s4143.nil]
        show xe none 74 76 [(1, vi z4040), (3, vi z4040), (0, .ref 243), (2, vi x2)] [vi z4142, vi x2, .ref 252] s4139 0 0 _
        refine x_iast k74_76 (q := 252) (n := 120) ⟨by decide, rfl⟩ (by decide) (by first | exact x_rbl b_x2 rfl rfl | exact ⟨by omega, by omega⟩) ?_
        refine x_nh (fun s4144 e_s4144 => ?_)
        have hG_s4144 : GI s4144 := by rw [e_s4144]; exact hG_s4139.up (show 0 ≤ z4142 ∧ z4142 ≤ 4 from (by first | exact x_rbe e_z4142 g_z4142 rfl rfl | exact x_rb g_z4142 rfl rfl | exact ⟨by omega, by omega⟩))
        have f_s4144 : FL [3329, 3334, 3335, 3336, 3392, 3456, 3520, 3584, 3276, 3648, 3712, 3776, 3840] s0 s4144 := by rw [e_s4144]; exact f_s4139.up (show 3840 ∈ [3329, 3334, 3335, 3336, 3392, 3456, 3520, 3584, 3276, 3648, 3712, 3776, 3840] from by decide +kernel)
        have q4145 : s4144 50 6 = z4038 := by rw [e_s4144, x_up_q (by decide)]; exact q4140
        have q4146 : s4144 55 x2.toNat = z4040 := by rw [e_s4144, x_up_q (by first | decide | omega)]; exact q4141
        have q4147 : s4144 252 x2.toNat = z4142 := by rw [e_s4144]; exact x_up_same
        refine x_A k74_77 (fun _ => rfl) ?_
        refine x_getR k74_78 (f := 1) rfl (q := 243) (n := 13) (kd := 13) ⟨by decide, rfl⟩ (q2 := 50) (by decide) rfl ?_
        refine x_getR k74_81 (f := 3) rfl (q := 50) (n := 7) (kd := 6) ⟨by decide, rfl⟩ (q2 := 54) (by decide) rfl ?_
        refine x_A k74_84 (fun _ => rfl) ?_
        refine x_iald k74_85 (q := 54) (n := 120) ⟨by decide, rfl⟩ (by decide) (by first | exact x_rbl b_x2 rfl rfl | exact ⟨by omega, by omega⟩) ?_
        refine x_top (fun z4148 e_z4148 => ?_)
        have g_z4148 : (0 : Int) ≤ s4144 54 x2.toNat ∧ s4144 54 x2.toNat ≤ 63 := hG_s4144 54 x2.toNat
        refine x_istore k74_86 (ls' := [(4, vi z4148), (1, vi z4040), (3, vi z4040), (0, .ref 243), (2, vi x2)]) (by decide) rfl ?_
        refine x_A k74_88 (fun _ => rfl) ?_
        refine x_getR k74_89 (f := 5) rfl (q := 243) (n := 13) (kd := 13) ⟨by decide, rfl⟩ (q2 := 250) (by decide) rfl ?_
        refine x_A k74_92 (fun _ => rfl) ?_
        refine x_A k74_93 (fun _ => rfl) ?_
        refine x_if_eq k74_95 (t := 115) rfl (by first | exact x_rbe e_z4148 g_z4148 rfl rfl | exact x_rb g_z4148 rfl rfl | exact ⟨by omega, by omega⟩) (fun c4149 => ?_) (fun c4149 => ?_)
        · skip
          refine x_A k74_115 (fun _ => rfl) ?_
          refine x_bast k74_116 (q := 250) (n := 120) ⟨by decide, rfl⟩ (by decide) (by first | exact x_rbl b_x2 rfl rfl | exact ⟨by omega, by omega⟩) ⟨by omega, by omega⟩ ?_
          refine x_nh (fun s4150 e_s4150 => ?_)
          have hG_s4150 : GI s4150 := by rw [e_s4150]; exact hG_s4144.up (show 0 ≤ 0 ∧ 0 ≤ 1 from ⟨by decide, by decide⟩)
          have f_s4150 : FL [3329, 3334, 3335, 3336, 3392, 3456, 3520, 3584, 3276, 3648, 3712, 3776, 3840] s0 s4150 := by rw [e_s4150]; exact f_s4144.up (show 3712 ∈ [3329, 3334, 3335, 3336, 3392, 3456, 3520, 3584, 3276, 3648, 3712, 3776, 3840] from by decide +kernel)
          have q4151 : s4150 50 6 = z4038 := by rw [e_s4150, x_up_q (by decide)]; exact q4145
          have q4152 : s4150 55 x2.toNat = z4040 := by rw [e_s4150, x_up_q (by first | decide | omega)]; exact q4146
          have q4153 : s4150 252 x2.toNat = z4142 := by rw [e_s4150, x_up_q (by first | decide | omega)]; exact q4147
          have q4154 : s4150 54 x2.toNat = z4148 := by rw [e_s4150, x_up_q (by first | decide | omega)]; exact e_z4148.symm
          have q4155 : s4150 250 x2.toNat = 0 := by rw [e_s4150]; exact x_up_same
          refine x_A k74_117 (fun _ => rfl) ?_
          refine x_getR k74_118 (f := 6) rfl (q := 243) (n := 13) (kd := 13) ⟨by decide, rfl⟩ (q2 := 251) (by decide) rfl ?_
          refine x_A k74_121 (fun _ => rfl) ?_
          refine x_A k74_122 (fun _ => rfl) ?_
          refine x_if_ne k74_124 (t := 131) rfl (by first | exact x_rbe e_z4148 g_z4148 rfl rfl | exact x_rb g_z4148 rfl rfl | exact ⟨by omega, by omega⟩) (fun c4156 => by exfalso; omega) (fun c4156 => ?_)
          refine x_A k74_127 (fun _ => rfl) ?_
          refine x_goto k74_128 (t := 141) rfl ?_
          refine x_iast k74_141 (q := 251) (n := 120) ⟨by decide, rfl⟩ (by decide) (by first | exact x_rbl b_x2 rfl rfl | exact ⟨by omega, by omega⟩) ?_
          refine x_nh (fun s4157 e_s4157 => ?_)
          have hG_s4157 : GI s4157 := by rw [e_s4157]; exact hG_s4150.up (show 0 ≤ 0 ∧ 0 ≤ 6 from ⟨by decide, by decide⟩)
          have f_s4157 : FL [3329, 3334, 3335, 3336, 3392, 3456, 3520, 3584, 3276, 3648, 3712, 3776, 3840] s0 s4157 := by rw [e_s4157]; exact f_s4150.up (show 3776 ∈ [3329, 3334, 3335, 3336, 3392, 3456, 3520, 3584, 3276, 3648, 3712, 3776, 3840] from by decide +kernel)
          have q4158 : s4157 50 6 = z4038 := by rw [e_s4157, x_up_q (by decide)]; exact q4151
          have q4159 : s4157 55 x2.toNat = z4040 := by rw [e_s4157, x_up_q (by first | decide | omega)]; exact q4152
          have q4160 : s4157 252 x2.toNat = z4142 := by rw [e_s4157, x_up_q (by first | decide | omega)]; exact q4153
          have q4161 : s4157 54 x2.toNat = z4148 := by rw [e_s4157, x_up_q (by first | decide | omega)]; exact q4154
          have q4162 : s4157 250 x2.toNat = 0 := by rw [e_s4157, x_up_q (by first | decide | omega)]; exact q4155
          have q4163 : s4157 251 x2.toNat = 0 := by rw [e_s4157]; exact x_up_same
          refine x_A k74_142 (fun _ => rfl) ?_
          refine x_getR k74_143 (f := 7) rfl (q := 243) (n := 13) (kd := 13) ⟨by decide, rfl⟩ (q2 := 252) (by decide) rfl ?_
          refine x_A k74_146 (fun _ => rfl) ?_
          refine x_iald k74_147 (q := 252) (n := 120) ⟨by decide, rfl⟩ (by decide) (by first | exact x_rbl b_x2 rfl rfl | exact ⟨by omega, by omega⟩) ?_
          rw [q4160]
          refine x_if_ne k74_148 (t := 169) rfl (by first | exact x_rbe e_z4142 g_z4142 rfl rfl | exact x_rb g_z4142 rfl rfl | exact ⟨by omega, by omega⟩) (fun c4164 => ?_) (fun c4164 => ?_)
          · skip
            refine x_iinc k74_169 (ls' := [(2, vi (x2 + 1)), (4, vi z4148), (1, vi z4040), (3, vi z4040), (0, .ref 243)]) rfl (by decide) rfl ?_
            refine x_goto k74_172 (t := 25) rfl ?_
            refine x_ls (l := [(0, .ref 243), (1, vi z4040), (2, vi (x2 + 1))]) (show ([0, 1, 2] : List Nat).Nodup from by decide +kernel) ⟨rfl, rfl, rfl, trivial⟩ ?_
            exact ih s4157 z4040 (x2 + 1) hG_s4157 f_s4157 (by first | exact x_rbe e_z4040 g_z4040 rfl rfl | exact x_rb g_z4040 rfl rfl | exact ⟨by omega, by omega⟩) ⟨by omega, by omega⟩  (by omega)
          · skip
            refine x_A k74_151 (fun _ => rfl) ?_
            refine x_getR k74_152 (f := 4) rfl (q := 243) (n := 13) (kd := 13) ⟨by decide, rfl⟩ (q2 := 249) (by decide) rfl ?_
            refine x_A k74_155 (fun _ => rfl) ?_
            refine x_getR k74_156 (f := 1) rfl (q := 243) (n := 13) (kd := 13) ⟨by decide, rfl⟩ (q2 := 50) (by decide) rfl ?_
            refine x_getR k74_159 (f := 0) rfl (q := 50) (n := 7) (kd := 6) ⟨by decide, rfl⟩ (q2 := 51) (by decide) rfl ?_
            refine x_A k74_162 (fun _ => rfl) ?_
            refine x_iald k74_163 (q := 51) (n := 120) ⟨by decide, rfl⟩ (by decide) (by first | exact x_rbl b_x2 rfl rfl | exact ⟨by omega, by omega⟩) ?_
            refine x_top (fun z4165 e_z4165 => ?_)
            have g_z4165 : (0 : Int) ≤ s4157 51 x2.toNat ∧ s4157 51 x2.toNat ≤ 39 := hG_s4157 51 x2.toNat
            refine x_A k74_164 (fun _ => rfl) ?_
            refine x_iald k74_165 (q := 249) (n := 40) ⟨by decide, rfl⟩ (by decide) (by first | exact x_rbel e_z4165 g_z4165 rfl rfl | exact x_rbl g_z4165 rfl rfl | exact ⟨by omega, by omega⟩) ?_
            refine x_top (fun z4166 e_z4166 => ?_)
            have g_z4166 : (-2147483648) ≤ s4157 249 z4165.toNat ∧ s4157 249 z4165.toNat ≤ 2147483647 := hG_s4157 249 z4165.toNat
            refine x_A k74_166 (fun _ => rfl) ?_
            refine x_iadd k74_167 ?_
            refine x_topW (fun z4167 g_z4167 => ?_)
            unfold in32 at g_z4167
            refine x_iast k74_168 (q := 249) (n := 40) ⟨by decide, rfl⟩ (by decide) (by first | exact x_rbel e_z4165 g_z4165 rfl rfl | exact x_rbl g_z4165 rfl rfl | exact ⟨by omega, by omega⟩) ?_
            refine x_nh (fun s4168 e_s4168 => ?_)
            have hG_s4168 : GI s4168 := by rw [e_s4168]; exact hG_s4157.up (show (-2147483648) ≤ z4167 ∧ z4167 ≤ 2147483647 from (by first | exact x_rbe e_z4167 g_z4167 rfl rfl | exact x_rb g_z4167 rfl rfl | exact ⟨by omega, by omega⟩))
            have f_s4168 : FL [3329, 3334, 3335, 3336, 3392, 3456, 3520, 3584, 3276, 3648, 3712, 3776, 3840] s0 s4168 := by rw [e_s4168]; exact f_s4157.up (show 3648 ∈ [3329, 3334, 3335, 3336, 3392, 3456, 3520, 3584, 3276, 3648, 3712, 3776, 3840] from by decide +kernel)
            have q4169 : s4168 50 6 = z4038 := by rw [e_s4168, x_up_q (by decide)]; exact q4158
            have q4170 : s4168 55 x2.toNat = z4040 := by rw [e_s4168, x_up_q (by first | decide | omega)]; exact q4159
            have q4171 : s4168 252 x2.toNat = z4142 := by rw [e_s4168, x_up_q (by first | decide | omega)]; exact q4160
            have q4172 : s4168 54 x2.toNat = z4148 := by rw [e_s4168, x_up_q (by first | decide | omega)]; exact q4161
            have q4173 : s4168 250 x2.toNat = 0 := by rw [e_s4168, x_up_q (by first | decide | omega)]; exact q4162
            have q4174 : s4168 251 x2.toNat = 0 := by rw [e_s4168, x_up_q (by first | decide | omega)]; exact q4163
            have q4175 : s4168 51 x2.toNat = z4165 := by rw [e_s4168, x_up_q (by first | decide | omega)]; exact e_z4165.symm
            have q4176 : s4168 249 z4165.toNat = z4167 := by rw [e_s4168]; exact x_up_same
            refine x_iinc k74_169 (ls' := [(2, vi (x2 + 1)), (4, vi z4148), (1, vi z4040), (3, vi z4040), (0, .ref 243)]) rfl (by decide) rfl ?_
            refine x_goto k74_172 (t := 25) rfl ?_
            refine x_ls (l := [(0, .ref 243), (1, vi z4040), (2, vi (x2 + 1))]) (show ([0, 1, 2] : List Nat).Nodup from by decide +kernel) ⟨rfl, rfl, rfl, trivial⟩ ?_
            exact ih s4168 z4040 (x2 + 1) hG_s4168 f_s4168 (by first | exact x_rbe e_z4040 g_z4040 rfl rfl | exact x_rb g_z4040 rfl rfl | exact ⟨by omega, by omega⟩) ⟨by omega, by omega⟩  (by omega)
        · skip
          refine x_A k74_98 (fun _ => rfl) ?_
          refine x_getR k74_99 (f := 3) rfl (q := 243) (n := 13) (kd := 13) ⟨by decide, rfl⟩ (q2 := 244) (by decide) rfl ?_
          refine x_A k74_102 (fun _ => rfl) ?_
          refine x_A k74_104 (fun _ => rfl) ?_
          refine x_callV k74_105 (y := 22) (n := 2) (w0 := 2) (w1 := 2) (as := [vi z4148, vi 1]) (rest := [vi x2, .ref 250]) (by decide +kernel) (q := 244) (nq := 8) (kq := 14) ⟨by decide, rfl⟩ rfl rfl rfl rfl (xe_mono (C_X1_countSense_244 s4144 hG_s4144 z4148 (by first | exact x_rbe e_z4148 g_z4148 rfl rfl | exact x_rb g_z4148 rfl rfl | exact ⟨by omega, by omega⟩) 1 ⟨by decide, by decide⟩) ?_)
          rintro s4178 v ⟨-, t_s4178, z4177, rfl, g_z4177⟩
          rw [t_s4178.nil]
          show xe none 74 108 [(4, vi z4148), (1, vi z4040), (3, vi z4040), (0, .ref 243), (2, vi x2)] [vi z4177, vi x2, .ref 250] s4144 0 0 _
          refine x_if_le k74_108 (t := 115) rfl (by first | exact x_rbe e_z4177 g_z4177 rfl rfl | exact x_rb g_z4177 rfl rfl | exact ⟨by omega, by omega⟩) (fun c4179 => ?_) (fun c4179 => ?_)
          · skip
            refine x_A k74_115 (fun _ => rfl) ?_
            refine x_bast k74_116 (q := 250) (n := 120) ⟨by decide, rfl⟩ (by decide) (by first | exact x_rbl b_x2 rfl rfl | exact ⟨by omega, by omega⟩) ⟨by omega, by omega⟩ ?_
            refine x_nh (fun s4180 e_s4180 => ?_)
            have hG_s4180 : GI s4180 := by rw [e_s4180]; exact hG_s4144.up (show 0 ≤ 0 ∧ 0 ≤ 1 from ⟨by decide, by decide⟩)
            have f_s4180 : FL [3329, 3334, 3335, 3336, 3392, 3456, 3520, 3584, 3276, 3648, 3712, 3776, 3840] s0 s4180 := by rw [e_s4180]; exact f_s4144.up (show 3712 ∈ [3329, 3334, 3335, 3336, 3392, 3456, 3520, 3584, 3276, 3648, 3712, 3776, 3840] from by decide +kernel)
            have q4181 : s4180 50 6 = z4038 := by rw [e_s4180, x_up_q (by decide)]; exact q4145
            have q4182 : s4180 55 x2.toNat = z4040 := by rw [e_s4180, x_up_q (by first | decide | omega)]; exact q4146
            have q4183 : s4180 252 x2.toNat = z4142 := by rw [e_s4180, x_up_q (by first | decide | omega)]; exact q4147
            have q4184 : s4180 54 x2.toNat = z4148 := by rw [e_s4180, x_up_q (by first | decide | omega)]; exact e_z4148.symm
            have q4185 : s4180 250 x2.toNat = 0 := by rw [e_s4180]; exact x_up_same
            refine x_A k74_117 (fun _ => rfl) ?_
            refine x_getR k74_118 (f := 6) rfl (q := 243) (n := 13) (kd := 13) ⟨by decide, rfl⟩ (q2 := 251) (by decide) rfl ?_
            refine x_A k74_121 (fun _ => rfl) ?_
            refine x_A k74_122 (fun _ => rfl) ?_
            refine x_if_ne k74_124 (t := 131) rfl (by first | exact x_rbe e_z4148 g_z4148 rfl rfl | exact x_rb g_z4148 rfl rfl | exact ⟨by omega, by omega⟩) (fun c4186 => ?_) (fun c4186 => by exfalso; omega)
            refine x_A k74_131 (fun _ => rfl) ?_
            refine x_getR k74_132 (f := 3) rfl (q := 243) (n := 13) (kd := 13) ⟨by decide, rfl⟩ (q2 := 244) (by decide) rfl ?_
            refine x_A k74_135 (fun _ => rfl) ?_
            refine x_A k74_137 (fun _ => rfl) ?_
            refine x_callV k74_138 (y := 22) (n := 2) (w0 := 2) (w1 := 2) (as := [vi z4148, vi 2]) (rest := [vi x2, .ref 251]) (by decide +kernel) (q := 244) (nq := 8) (kq := 14) ⟨by decide, rfl⟩ rfl rfl rfl rfl (xe_mono (C_X1_countSense_244 s4180 hG_s4180 z4148 (by first | exact x_rbe e_z4148 g_z4148 rfl rfl | exact x_rb g_z4148 rfl rfl | exact ⟨by omega, by omega⟩) 2 ⟨by decide, by decide⟩) ?_)
            rintro s4188 v ⟨-, t_s4188, z4187, rfl, g_z4187⟩
            rw [t_s4188.nil]
            show xe none 74 141 [(4, vi z4148), (1, vi z4040), (3, vi z4040), (0, .ref 243), (2, vi x2)] [vi z4187, vi x2, .ref 251] s4180 0 0 _
            refine x_iast k74_141 (q := 251) (n := 120) ⟨by decide, rfl⟩ (by decide) (by first | exact x_rbl b_x2 rfl rfl | exact ⟨by omega, by omega⟩) ?_
            refine x_nh (fun s4189 e_s4189 => ?_)
            have hG_s4189 : GI s4189 := by rw [e_s4189]; exact hG_s4180.up (show 0 ≤ z4187 ∧ z4187 ≤ 6 from (by first | exact x_rbe e_z4187 g_z4187 rfl rfl | exact x_rb g_z4187 rfl rfl | exact ⟨by omega, by omega⟩))
            have f_s4189 : FL [3329, 3334, 3335, 3336, 3392, 3456, 3520, 3584, 3276, 3648, 3712, 3776, 3840] s0 s4189 := by rw [e_s4189]; exact f_s4180.up (show 3776 ∈ [3329, 3334, 3335, 3336, 3392, 3456, 3520, 3584, 3276, 3648, 3712, 3776, 3840] from by decide +kernel)
            have q4190 : s4189 50 6 = z4038 := by rw [e_s4189, x_up_q (by decide)]; exact q4181
            have q4191 : s4189 55 x2.toNat = z4040 := by rw [e_s4189, x_up_q (by first | decide | omega)]; exact q4182
            have q4192 : s4189 252 x2.toNat = z4142 := by rw [e_s4189, x_up_q (by first | decide | omega)]; exact q4183
            have q4193 : s4189 54 x2.toNat = z4148 := by rw [e_s4189, x_up_q (by first | decide | omega)]; exact q4184
            have q4194 : s4189 250 x2.toNat = 0 := by rw [e_s4189, x_up_q (by first | decide | omega)]; exact q4185
            have q4195 : s4189 251 x2.toNat = z4187 := by rw [e_s4189]; exact x_up_same
            refine x_A k74_142 (fun _ => rfl) ?_
            refine x_getR k74_143 (f := 7) rfl (q := 243) (n := 13) (kd := 13) ⟨by decide, rfl⟩ (q2 := 252) (by decide) rfl ?_
            refine x_A k74_146 (fun _ => rfl) ?_
            refine x_iald k74_147 (q := 252) (n := 120) ⟨by decide, rfl⟩ (by decide) (by first | exact x_rbl b_x2 rfl rfl | exact ⟨by omega, by omega⟩) ?_
            rw [q4192]
            refine x_if_ne k74_148 (t := 169) rfl (by first | exact x_rbe e_z4142 g_z4142 rfl rfl | exact x_rb g_z4142 rfl rfl | exact ⟨by omega, by omega⟩) (fun c4196 => ?_) (fun c4196 => ?_)
            · skip
              refine x_iinc k74_169 (ls' := [(2, vi (x2 + 1)), (4, vi z4148), (1, vi z4040), (3, vi z4040), (0, .ref 243)]) rfl (by decide) rfl ?_
              refine x_goto k74_172 (t := 25) rfl ?_
              refine x_ls (l := [(0, .ref 243), (1, vi z4040), (2, vi (x2 + 1))]) (show ([0, 1, 2] : List Nat).Nodup from by decide +kernel) ⟨rfl, rfl, rfl, trivial⟩ ?_
              exact ih s4189 z4040 (x2 + 1) hG_s4189 f_s4189 (by first | exact x_rbe e_z4040 g_z4040 rfl rfl | exact x_rb g_z4040 rfl rfl | exact ⟨by omega, by omega⟩) ⟨by omega, by omega⟩  (by omega)
            · skip
              refine x_A k74_151 (fun _ => rfl) ?_
              refine x_getR k74_152 (f := 4) rfl (q := 243) (n := 13) (kd := 13) ⟨by decide, rfl⟩ (q2 := 249) (by decide) rfl ?_
              refine x_A k74_155 (fun _ => rfl) ?_
              refine x_getR k74_156 (f := 1) rfl (q := 243) (n := 13) (kd := 13) ⟨by decide, rfl⟩ (q2 := 50) (by decide) rfl ?_
              refine x_getR k74_159 (f := 0) rfl (q := 50) (n := 7) (kd := 6) ⟨by decide, rfl⟩ (q2 := 51) (by decide) rfl ?_
              refine x_A k74_162 (fun _ => rfl) ?_
              refine x_iald k74_163 (q := 51) (n := 120) ⟨by decide, rfl⟩ (by decide) (by first | exact x_rbl b_x2 rfl rfl | exact ⟨by omega, by omega⟩) ?_
              refine x_top (fun z4197 e_z4197 => ?_)
              have g_z4197 : (0 : Int) ≤ s4189 51 x2.toNat ∧ s4189 51 x2.toNat ≤ 39 := hG_s4189 51 x2.toNat
              refine x_A k74_164 (fun _ => rfl) ?_
              refine x_iald k74_165 (q := 249) (n := 40) ⟨by decide, rfl⟩ (by decide) (by first | exact x_rbel e_z4197 g_z4197 rfl rfl | exact x_rbl g_z4197 rfl rfl | exact ⟨by omega, by omega⟩) ?_
              refine x_top (fun z4198 e_z4198 => ?_)
              have g_z4198 : (-2147483648) ≤ s4189 249 z4197.toNat ∧ s4189 249 z4197.toNat ≤ 2147483647 := hG_s4189 249 z4197.toNat
              refine x_A k74_166 (fun _ => rfl) ?_
              refine x_iadd k74_167 ?_
              refine x_topW (fun z4199 g_z4199 => ?_)
              unfold in32 at g_z4199
              refine x_iast k74_168 (q := 249) (n := 40) ⟨by decide, rfl⟩ (by decide) (by first | exact x_rbel e_z4197 g_z4197 rfl rfl | exact x_rbl g_z4197 rfl rfl | exact ⟨by omega, by omega⟩) ?_
              refine x_nh (fun s4200 e_s4200 => ?_)
              have hG_s4200 : GI s4200 := by rw [e_s4200]; exact hG_s4189.up (show (-2147483648) ≤ z4199 ∧ z4199 ≤ 2147483647 from (by first | exact x_rbe e_z4199 g_z4199 rfl rfl | exact x_rb g_z4199 rfl rfl | exact ⟨by omega, by omega⟩))
              have f_s4200 : FL [3329, 3334, 3335, 3336, 3392, 3456, 3520, 3584, 3276, 3648, 3712, 3776, 3840] s0 s4200 := by rw [e_s4200]; exact f_s4189.up (show 3648 ∈ [3329, 3334, 3335, 3336, 3392, 3456, 3520, 3584, 3276, 3648, 3712, 3776, 3840] from by decide +kernel)
              have q4201 : s4200 50 6 = z4038 := by rw [e_s4200, x_up_q (by decide)]; exact q4190
              have q4202 : s4200 55 x2.toNat = z4040 := by rw [e_s4200, x_up_q (by first | decide | omega)]; exact q4191
              have q4203 : s4200 252 x2.toNat = z4142 := by rw [e_s4200, x_up_q (by first | decide | omega)]; exact q4192
              have q4204 : s4200 54 x2.toNat = z4148 := by rw [e_s4200, x_up_q (by first | decide | omega)]; exact q4193
              have q4205 : s4200 250 x2.toNat = 0 := by rw [e_s4200, x_up_q (by first | decide | omega)]; exact q4194
              have q4206 : s4200 251 x2.toNat = z4187 := by rw [e_s4200, x_up_q (by first | decide | omega)]; exact q4195
              have q4207 : s4200 51 x2.toNat = z4197 := by rw [e_s4200, x_up_q (by first | decide | omega)]; exact e_z4197.symm
              have q4208 : s4200 249 z4197.toNat = z4199 := by rw [e_s4200]; exact x_up_same
              refine x_iinc k74_169 (ls' := [(2, vi (x2 + 1)), (4, vi z4148), (1, vi z4040), (3, vi z4040), (0, .ref 243)]) rfl (by decide) rfl ?_
              refine x_goto k74_172 (t := 25) rfl ?_
              refine x_ls (l := [(0, .ref 243), (1, vi z4040), (2, vi (x2 + 1))]) (show ([0, 1, 2] : List Nat).Nodup from by decide +kernel) ⟨rfl, rfl, rfl, trivial⟩ ?_
              exact ih s4200 z4040 (x2 + 1) hG_s4200 f_s4200 (by first | exact x_rbe e_z4040 g_z4040 rfl rfl | exact x_rb g_z4040 rfl rfl | exact ⟨by omega, by omega⟩) ⟨by omega, by omega⟩  (by omega)
          · skip
            refine x_A k74_111 (fun _ => rfl) ?_
            refine x_goto k74_112 (t := 116) rfl ?_
            refine x_bast k74_116 (q := 250) (n := 120) ⟨by decide, rfl⟩ (by decide) (by first | exact x_rbl b_x2 rfl rfl | exact ⟨by omega, by omega⟩) ⟨by omega, by omega⟩ ?_
            refine x_nh (fun s4209 e_s4209 => ?_)
            have hG_s4209 : GI s4209 := by rw [e_s4209]; exact hG_s4144.up (show 0 ≤ 1 ∧ 1 ≤ 1 from ⟨by decide, by decide⟩)
            have f_s4209 : FL [3329, 3334, 3335, 3336, 3392, 3456, 3520, 3584, 3276, 3648, 3712, 3776, 3840] s0 s4209 := by rw [e_s4209]; exact f_s4144.up (show 3712 ∈ [3329, 3334, 3335, 3336, 3392, 3456, 3520, 3584, 3276, 3648, 3712, 3776, 3840] from by decide +kernel)
            have q4210 : s4209 50 6 = z4038 := by rw [e_s4209, x_up_q (by decide)]; exact q4145
            have q4211 : s4209 55 x2.toNat = z4040 := by rw [e_s4209, x_up_q (by first | decide | omega)]; exact q4146
            have q4212 : s4209 252 x2.toNat = z4142 := by rw [e_s4209, x_up_q (by first | decide | omega)]; exact q4147
            have q4213 : s4209 54 x2.toNat = z4148 := by rw [e_s4209, x_up_q (by first | decide | omega)]; exact e_z4148.symm
            have q4214 : s4209 250 x2.toNat = 1 := by rw [e_s4209]; exact x_up_same
            refine x_A k74_117 (fun _ => rfl) ?_
            refine x_getR k74_118 (f := 6) rfl (q := 243) (n := 13) (kd := 13) ⟨by decide, rfl⟩ (q2 := 251) (by decide) rfl ?_
            refine x_A k74_121 (fun _ => rfl) ?_
            refine x_A k74_122 (fun _ => rfl) ?_
            refine x_if_ne k74_124 (t := 131) rfl (by first | exact x_rbe e_z4148 g_z4148 rfl rfl | exact x_rb g_z4148 rfl rfl | exact ⟨by omega, by omega⟩) (fun c4215 => ?_) (fun c4215 => by exfalso; omega)
            refine x_A k74_131 (fun _ => rfl) ?_
            refine x_getR k74_132 (f := 3) rfl (q := 243) (n := 13) (kd := 13) ⟨by decide, rfl⟩ (q2 := 244) (by decide) rfl ?_
            refine x_A k74_135 (fun _ => rfl) ?_
            refine x_A k74_137 (fun _ => rfl) ?_
            refine x_callV k74_138 (y := 22) (n := 2) (w0 := 2) (w1 := 2) (as := [vi z4148, vi 2]) (rest := [vi x2, .ref 251]) (by decide +kernel) (q := 244) (nq := 8) (kq := 14) ⟨by decide, rfl⟩ rfl rfl rfl rfl (xe_mono (C_X1_countSense_244 s4209 hG_s4209 z4148 (by first | exact x_rbe e_z4148 g_z4148 rfl rfl | exact x_rb g_z4148 rfl rfl | exact ⟨by omega, by omega⟩) 2 ⟨by decide, by decide⟩) ?_)
            rintro s4217 v ⟨-, t_s4217, z4216, rfl, g_z4216⟩
            rw [t_s4217.nil]
            show xe none 74 141 [(4, vi z4148), (1, vi z4040), (3, vi z4040), (0, .ref 243), (2, vi x2)] [vi z4216, vi x2, .ref 251] s4209 0 0 _
            refine x_iast k74_141 (q := 251) (n := 120) ⟨by decide, rfl⟩ (by decide) (by first | exact x_rbl b_x2 rfl rfl | exact ⟨by omega, by omega⟩) ?_
            refine x_nh (fun s4218 e_s4218 => ?_)
            have hG_s4218 : GI s4218 := by rw [e_s4218]; exact hG_s4209.up (show 0 ≤ z4216 ∧ z4216 ≤ 6 from (by first | exact x_rbe e_z4216 g_z4216 rfl rfl | exact x_rb g_z4216 rfl rfl | exact ⟨by omega, by omega⟩))
            have f_s4218 : FL [3329, 3334, 3335, 3336, 3392, 3456, 3520, 3584, 3276, 3648, 3712, 3776, 3840] s0 s4218 := by rw [e_s4218]; exact f_s4209.up (show 3776 ∈ [3329, 3334, 3335, 3336, 3392, 3456, 3520, 3584, 3276, 3648, 3712, 3776, 3840] from by decide +kernel)
            have q4219 : s4218 50 6 = z4038 := by rw [e_s4218, x_up_q (by decide)]; exact q4210
            have q4220 : s4218 55 x2.toNat = z4040 := by rw [e_s4218, x_up_q (by first | decide | omega)]; exact q4211
            have q4221 : s4218 252 x2.toNat = z4142 := by rw [e_s4218, x_up_q (by first | decide | omega)]; exact q4212
            have q4222 : s4218 54 x2.toNat = z4148 := by rw [e_s4218, x_up_q (by first | decide | omega)]; exact q4213
            have q4223 : s4218 250 x2.toNat = 1 := by rw [e_s4218, x_up_q (by first | decide | omega)]; exact q4214
            have q4224 : s4218 251 x2.toNat = z4216 := by rw [e_s4218]; exact x_up_same
            refine x_A k74_142 (fun _ => rfl) ?_
            refine x_getR k74_143 (f := 7) rfl (q := 243) (n := 13) (kd := 13) ⟨by decide, rfl⟩ (q2 := 252) (by decide) rfl ?_
            refine x_A k74_146 (fun _ => rfl) ?_
            refine x_iald k74_147 (q := 252) (n := 120) ⟨by decide, rfl⟩ (by decide) (by first | exact x_rbl b_x2 rfl rfl | exact ⟨by omega, by omega⟩) ?_
            rw [q4221]
            refine x_if_ne k74_148 (t := 169) rfl (by first | exact x_rbe e_z4142 g_z4142 rfl rfl | exact x_rb g_z4142 rfl rfl | exact ⟨by omega, by omega⟩) (fun c4225 => ?_) (fun c4225 => ?_)
            · skip
              refine x_iinc k74_169 (ls' := [(2, vi (x2 + 1)), (4, vi z4148), (1, vi z4040), (3, vi z4040), (0, .ref 243)]) rfl (by decide) rfl ?_
              refine x_goto k74_172 (t := 25) rfl ?_
              refine x_ls (l := [(0, .ref 243), (1, vi z4040), (2, vi (x2 + 1))]) (show ([0, 1, 2] : List Nat).Nodup from by decide +kernel) ⟨rfl, rfl, rfl, trivial⟩ ?_
              exact ih s4218 z4040 (x2 + 1) hG_s4218 f_s4218 (by first | exact x_rbe e_z4040 g_z4040 rfl rfl | exact x_rb g_z4040 rfl rfl | exact ⟨by omega, by omega⟩) ⟨by omega, by omega⟩  (by omega)
            · skip
              refine x_A k74_151 (fun _ => rfl) ?_
              refine x_getR k74_152 (f := 4) rfl (q := 243) (n := 13) (kd := 13) ⟨by decide, rfl⟩ (q2 := 249) (by decide) rfl ?_
              refine x_A k74_155 (fun _ => rfl) ?_
              refine x_getR k74_156 (f := 1) rfl (q := 243) (n := 13) (kd := 13) ⟨by decide, rfl⟩ (q2 := 50) (by decide) rfl ?_
              refine x_getR k74_159 (f := 0) rfl (q := 50) (n := 7) (kd := 6) ⟨by decide, rfl⟩ (q2 := 51) (by decide) rfl ?_
              refine x_A k74_162 (fun _ => rfl) ?_
              refine x_iald k74_163 (q := 51) (n := 120) ⟨by decide, rfl⟩ (by decide) (by first | exact x_rbl b_x2 rfl rfl | exact ⟨by omega, by omega⟩) ?_
              refine x_top (fun z4226 e_z4226 => ?_)
              have g_z4226 : (0 : Int) ≤ s4218 51 x2.toNat ∧ s4218 51 x2.toNat ≤ 39 := hG_s4218 51 x2.toNat
              refine x_A k74_164 (fun _ => rfl) ?_
              refine x_iald k74_165 (q := 249) (n := 40) ⟨by decide, rfl⟩ (by decide) (by first | exact x_rbel e_z4226 g_z4226 rfl rfl | exact x_rbl g_z4226 rfl rfl | exact ⟨by omega, by omega⟩) ?_
              refine x_top (fun z4227 e_z4227 => ?_)
              have g_z4227 : (-2147483648) ≤ s4218 249 z4226.toNat ∧ s4218 249 z4226.toNat ≤ 2147483647 := hG_s4218 249 z4226.toNat
              refine x_A k74_166 (fun _ => rfl) ?_
              refine x_iadd k74_167 ?_
              refine x_topW (fun z4228 g_z4228 => ?_)
              unfold in32 at g_z4228
              refine x_iast k74_168 (q := 249) (n := 40) ⟨by decide, rfl⟩ (by decide) (by first | exact x_rbel e_z4226 g_z4226 rfl rfl | exact x_rbl g_z4226 rfl rfl | exact ⟨by omega, by omega⟩) ?_
              refine x_nh (fun s4229 e_s4229 => ?_)
              have hG_s4229 : GI s4229 := by rw [e_s4229]; exact hG_s4218.up (show (-2147483648) ≤ z4228 ∧ z4228 ≤ 2147483647 from (by first | exact x_rbe e_z4228 g_z4228 rfl rfl | exact x_rb g_z4228 rfl rfl | exact ⟨by omega, by omega⟩))
              have f_s4229 : FL [3329, 3334, 3335, 3336, 3392, 3456, 3520, 3584, 3276, 3648, 3712, 3776, 3840] s0 s4229 := by rw [e_s4229]; exact f_s4218.up (show 3648 ∈ [3329, 3334, 3335, 3336, 3392, 3456, 3520, 3584, 3276, 3648, 3712, 3776, 3840] from by decide +kernel)
              have q4230 : s4229 50 6 = z4038 := by rw [e_s4229, x_up_q (by decide)]; exact q4219
              have q4231 : s4229 55 x2.toNat = z4040 := by rw [e_s4229, x_up_q (by first | decide | omega)]; exact q4220
              have q4232 : s4229 252 x2.toNat = z4142 := by rw [e_s4229, x_up_q (by first | decide | omega)]; exact q4221
              have q4233 : s4229 54 x2.toNat = z4148 := by rw [e_s4229, x_up_q (by first | decide | omega)]; exact q4222
              have q4234 : s4229 250 x2.toNat = 1 := by rw [e_s4229, x_up_q (by first | decide | omega)]; exact q4223
              have q4235 : s4229 251 x2.toNat = z4216 := by rw [e_s4229, x_up_q (by first | decide | omega)]; exact q4224
              have q4236 : s4229 51 x2.toNat = z4226 := by rw [e_s4229, x_up_q (by first | decide | omega)]; exact e_z4226.symm
              have q4237 : s4229 249 z4226.toNat = z4228 := by rw [e_s4229]; exact x_up_same
              refine x_iinc k74_169 (ls' := [(2, vi (x2 + 1)), (4, vi z4148), (1, vi z4040), (3, vi z4040), (0, .ref 243)]) rfl (by decide) rfl ?_
              refine x_goto k74_172 (t := 25) rfl ?_
              refine x_ls (l := [(0, .ref 243), (1, vi z4040), (2, vi (x2 + 1))]) (show ([0, 1, 2] : List Nat).Nodup from by decide +kernel) ⟨rfl, rfl, rfl, trivial⟩ ?_
              exact ih s4229 z4040 (x2 + 1) hG_s4229 f_s4229 (by first | exact x_rbe e_z4040 g_z4040 rfl rfl | exact x_rb g_z4040 rfl rfl | exact ⟨by omega, by omega⟩) ⟨by omega, by omega⟩  (by omega)
theorem C_X8_judge_243 (s0 : xS) (hG0 : GI s0) (hJ0 : J s0)  : xe none 74 0 (lv_args 0 [.ref 243]) [] s0 0 0 (fun s' v => GI s' ∧ FL [3329, 3334, 3335, 3336, 3392, 3456, 3520, 3584, 3276, 3648, 3712, 3776, 3840] s0 s' ∧ v = none) := by
  have f0 : FL [3329, 3334, 3335, 3336, 3392, 3456, 3520, 3584, 3276, 3648, 3712, 3776, 3840] s0 s0 := FL.rf
  show xe none 74 0 [(0, .ref 243)] [] s0 0 0 _
  refine x_A k74_0 (fun _ => rfl) ?_
  refine x_getI k74_1 (f := 11) rfl (q := 243) (n := 13) (kd := 13) ⟨by decide, rfl⟩ (by decide) rfl ?_
  refine x_top (fun z4238 e_z4238 => ?_)
  have g_z4238 : (0 : Int) ≤ s0 243 11 ∧ s0 243 11 ≤ 1 := hG0 243 11
  refine x_if_eq k74_4 (t := 8) rfl (by first | exact x_rbe e_z4238 g_z4238 rfl rfl | exact x_rb g_z4238 rfl rfl | exact ⟨by omega, by omega⟩) (fun c4239 => ?_) (fun c4239 => ?_)
  · skip
    refine x_A k74_8 (fun _ => rfl) ?_
    refine x_A k74_9 (fun _ => rfl) ?_
    refine x_putZ k74_10 (f := 11) rfl (q := 243) (n := 13) (kd := 13) ⟨by decide, rfl⟩ rfl rfl rfl ⟨by omega, by omega⟩ ?_
    refine x_nh (fun s4240 e_s4240 => ?_)
    have hG_s4240 : GI s4240 := by rw [e_s4240]; exact hG0.up (show 0 ≤ 1 ∧ 1 ≤ 1 from ⟨by decide, by decide⟩)
    have f_s4240 : FL [3329, 3334, 3335, 3336, 3392, 3456, 3520, 3584, 3276, 3648, 3712, 3776, 3840] s0 s4240 := by rw [e_s4240]; exact f0.up (show 3276 ∈ [3329, 3334, 3335, 3336, 3392, 3456, 3520, 3584, 3276, 3648, 3712, 3776, 3840] from by decide +kernel)
    have q4241 : s4240 243 11 = 1 := by rw [e_s4240]; exact x_up_same
    refine x_A k74_13 (fun _ => rfl) ?_
    refine x_getR k74_14 (f := 4) rfl (q := 243) (n := 13) (kd := 13) ⟨by decide, rfl⟩ (q2 := 249) (by decide) rfl ?_
    refine x_A k74_17 (fun _ => rfl) ?_
    refine x_callS k74_18 (y := 229) (n := 2) (w0 := 0) (w1 := 2) (as := [.ref 249, vi 0]) (rest := []) (by decide +kernel) rfl rfl rfl rfl (xe_mono (C_J7_fill_53178_249 s4240 hG_s4240 0 ⟨by decide, by decide⟩) ?_)
    rintro s4243 v ⟨hG_s4243, t_s4243, rfl⟩
    have f_s4243 : FL [3329, 3334, 3335, 3336, 3392, 3456, 3520, 3584, 3276, 3648, 3712, 3776, 3840] s0 s4243 := f_s4240.tr t_s4243 (by decide +kernel)
    have q4244 : s4243 243 11 = 1 := (t_s4243 243 11 (show 3276 ∉ [3648] from by decide +kernel)).trans q4241
    show xe none 74 21 [(0, .ref 243)] [] s4243 0 0 _
    refine x_A k74_21 (fun _ => rfl) ?_
    refine x_istore_n k74_22 (ls' := [(1, vi (-1)), (0, .ref 243)]) (by decide) rfl ?_
    refine x_A k74_23 (fun _ => rfl) ?_
    refine x_istore_n k74_24 (ls' := [(2, vi 0), (1, vi (-1)), (0, .ref 243)]) (by decide) rfl ?_
    refine x_ls (l := [(0, .ref 243), (1, vi (-1)), (2, vi 0)]) (show ([0, 1, 2] : List Nat).Nodup from by decide +kernel) ⟨rfl, rfl, rfl, trivial⟩ ?_
    exact L_C_X8_judge_243_25 s0 hJ0  (((120 - 0) + 1 : Int)).toNat s4243 (-1) 0 hG_s4243 f_s4243 ⟨by decide, by decide⟩ ⟨by decide, by decide⟩  (by omega)
  · skip
    exact x_vret k74_7 rfl ⟨hG0, f0, rfl⟩
theorem C_X8_setMeaning_243 (s0 : xS) (hG0 : GI s0) (a : Int) (b_a : 0 ≤ a ∧ a ≤ 119) : xe none 77 0 (lv_args 0 [.ref 243, vi a]) [] s0 0 0 (fun s' v => GI s' ∧ FL [3904, 3968] s0 s' ∧ v = none) := by
  have f0 : FL [3904, 3968] s0 s0 := FL.rf
  show xe none 77 0 [(0, .ref 243), (1, vi a)] [] s0 0 0 _
  refine x_A k77_0 (fun _ => rfl) ?_
  refine x_getI k77_1 (f := 12) rfl (q := 243) (n := 13) (kd := 13) ⟨by decide, rfl⟩ (by decide) rfl ?_
  refine x_top (fun z1 e_z1 => ?_)
  have g_z1 : (-1) ≤ s0 243 12 ∧ s0 243 12 ≤ 9 := hG0 243 12
  refine x_istore_n k77_4 (ls' := [(2, vi z1), (0, .ref 243), (1, vi a)]) (by decide) rfl ?_
  refine x_A k77_5 (fun _ => rfl) ?_
  refine x_getR k77_6 (f := 8) rfl (q := 243) (n := 13) (kd := 13) ⟨by decide, rfl⟩ (q2 := 253) (by decide) rfl ?_
  refine x_A k77_9 (fun _ => rfl) ?_
  refine x_A k77_10 (fun _ => rfl) ?_
  refine x_iast k77_11 (q := 253) (n := 120) ⟨by decide, rfl⟩ (by decide) (by first | exact x_rbl b_a rfl rfl | exact ⟨by omega, by omega⟩) ?_
  refine x_nh (fun s2 e_s2 => ?_)
  have hG_s2 : GI s2 := by rw [e_s2]; exact hG0.up (show (-1) ≤ (-1) ∧ (-1) ≤ 39 from ⟨by decide, by decide⟩)
  have f_s2 : FL [3904, 3968] s0 s2 := by rw [e_s2]; exact f0.up (show 3904 ∈ [3904, 3968] from by decide +kernel)
  have q3 : s2 243 12 = z1 := by rw [e_s2, x_up_q (by decide)]; exact e_z1.symm
  have q4 : s2 253 a.toNat = (-1) := by rw [e_s2]; exact x_up_same
  refine x_A k77_12 (fun _ => rfl) ?_
  refine x_getR k77_13 (f := 9) rfl (q := 243) (n := 13) (kd := 13) ⟨by decide, rfl⟩ (q2 := 254) (by decide) rfl ?_
  refine x_A k77_16 (fun _ => rfl) ?_
  refine x_A k77_17 (fun _ => rfl) ?_
  refine x_bast k77_18 (q := 254) (n := 120) ⟨by decide, rfl⟩ (by decide) (by first | exact x_rbl b_a rfl rfl | exact ⟨by omega, by omega⟩) ⟨by omega, by omega⟩ ?_
  refine x_nh (fun s5 e_s5 => ?_)
  have hG_s5 : GI s5 := by rw [e_s5]; exact hG_s2.up (show 0 ≤ 0 ∧ 0 ≤ 1 from ⟨by decide, by decide⟩)
  have f_s5 : FL [3904, 3968] s0 s5 := by rw [e_s5]; exact f_s2.up (show 3968 ∈ [3904, 3968] from by decide +kernel)
  have q6 : s5 243 12 = z1 := by rw [e_s5, x_up_q (by decide)]; exact q3
  have q7 : s5 253 a.toNat = (-1) := by rw [e_s5, x_up_q (by first | decide | omega)]; exact q4
  have q8 : s5 254 a.toNat = 0 := by rw [e_s5]; exact x_up_same
  refine x_A k77_19 (fun _ => rfl) ?_
  refine x_getR k77_20 (f := 1) rfl (q := 243) (n := 13) (kd := 13) ⟨by decide, rfl⟩ (q2 := 50) (by decide) rfl ?_
  refine x_getR k77_23 (f := 4) rfl (q := 50) (n := 7) (kd := 6) ⟨by decide, rfl⟩ (q2 := 55) (by decide) rfl ?_
  refine x_A k77_26 (fun _ => rfl) ?_
  refine x_iald k77_27 (q := 55) (n := 120) ⟨by decide, rfl⟩ (by decide) (by first | exact x_rbl b_a rfl rfl | exact ⟨by omega, by omega⟩) ?_
  refine x_top (fun z9 e_z9 => ?_)
  have g_z9 : (0 : Int) ≤ s5 55 a.toNat ∧ s5 55 a.toNat ≤ 9 := hG_s5 55 a.toNat
  refine x_A k77_28 (fun _ => rfl) ?_
  refine x_ic_gt k77_29 (t := 50) rfl (by first | exact x_rbe e_z9 g_z9 rfl rfl | exact x_rb g_z9 rfl rfl | exact ⟨by omega, by omega⟩) (by first | exact x_rbe e_z1 g_z1 rfl rfl | exact x_rb g_z1 rfl rfl | exact ⟨by omega, by omega⟩) (fun c10 => ?_) (fun c10 => ?_)
  · skip
    exact x_vret k77_50 rfl ⟨hG_s5, f_s5, rfl⟩
  · skip
    refine x_A k77_32 (fun _ => rfl) ?_
    refine x_getR k77_33 (f := 7) rfl (q := 243) (n := 13) (kd := 13) ⟨by decide, rfl⟩ (q2 := 252) (by decide) rfl ?_
    refine x_A k77_36 (fun _ => rfl) ?_
    refine x_iald k77_37 (q := 252) (n := 120) ⟨by decide, rfl⟩ (by decide) (by first | exact x_rbl b_a rfl rfl | exact ⟨by omega, by omega⟩) ?_
    refine x_top (fun z11 e_z11 => ?_)
    have g_z11 : (0 : Int) ≤ s5 252 a.toNat ∧ s5 252 a.toNat ≤ 4 := hG_s5 252 a.toNat
    refine x_if_ne k77_38 (t := 50) rfl (by first | exact x_rbe e_z11 g_z11 rfl rfl | exact x_rb g_z11 rfl rfl | exact ⟨by omega, by omega⟩) (fun c12 => ?_) (fun c12 => ?_)
    · skip
      exact x_vret k77_50 rfl ⟨hG_s5, f_s5, rfl⟩
    · skip
      refine x_A k77_41 (fun _ => rfl) ?_
      refine x_getR k77_42 (f := 5) rfl (q := 243) (n := 13) (kd := 13) ⟨by decide, rfl⟩ (q2 := 250) (by decide) rfl ?_
      refine x_A k77_45 (fun _ => rfl) ?_
      refine x_bald k77_46 (q := 250) (n := 120) ⟨by decide, rfl⟩ (by decide) (by first | exact x_rbl b_a rfl rfl | exact ⟨by omega, by omega⟩) ?_
      refine x_top (fun z13 e_z13 => ?_)
      have g_z13 : (0 : Int) ≤ s5 250 a.toNat ∧ s5 250 a.toNat ≤ 1 := hG_s5 250 a.toNat
      refine x_if_eq k77_47 (t := 51) rfl (by first | exact x_rbe e_z13 g_z13 rfl rfl | exact x_rb g_z13 rfl rfl | exact ⟨by omega, by omega⟩) (fun c14 => ?_) (fun c14 => ?_)
      · skip
        refine x_A k77_51 (fun _ => rfl) ?_
        refine x_getR k77_52 (f := 1) rfl (q := 243) (n := 13) (kd := 13) ⟨by decide, rfl⟩ (q2 := 50) (by decide) rfl ?_
        refine x_A k77_55 (fun _ => rfl) ?_
        refine x_A k77_56 (fun _ => rfl) ?_
        refine x_callV k77_57 (y := 26) (n := 2) (w0 := 0) (w1 := 2) (as := [vi a, vi z1]) (rest := []) (by decide +kernel) (q := 50) (nq := 7) (kq := 6) ⟨by decide, rfl⟩ rfl rfl rfl rfl (xe_mono (C_X2_doubters_50 s5 hG_s5 a (by first | exact x_rb b_a rfl rfl | exact ⟨by omega, by omega⟩) z1 (by first | exact x_rbe e_z1 g_z1 rfl rfl | exact x_rb g_z1 rfl rfl | exact ⟨by omega, by omega⟩)) ?_)
        rintro s16 v ⟨-, t_s16, z15, rfl, g_z15⟩
        rw [t_s16.nil]
        show xe none 77 60 [(2, vi z1), (0, .ref 243), (1, vi a)] [vi z15] s5 0 0 _
        refine x_A k77_60 (fun _ => rfl) ?_
        refine x_ic_le k77_61 (t := 65) rfl (by first | exact x_rbe e_z15 g_z15 rfl rfl | exact x_rb g_z15 rfl rfl | exact ⟨by omega, by omega⟩) ⟨by decide, by decide⟩ (fun c17 => ?_) (fun c17 => ?_)
        · skip
          refine x_A k77_65 (fun _ => rfl) ?_
          refine x_getR k77_66 (f := 0) rfl (q := 243) (n := 13) (kd := 13) ⟨by decide, rfl⟩ (q2 := 1) (by decide) rfl ?_
          refine x_A k77_69 (fun _ => rfl) ?_
          refine x_getR k77_70 (f := 1) rfl (q := 243) (n := 13) (kd := 13) ⟨by decide, rfl⟩ (q2 := 50) (by decide) rfl ?_
          refine x_getR k77_73 (f := 1) rfl (q := 50) (n := 7) (kd := 6) ⟨by decide, rfl⟩ (q2 := 52) (by decide) rfl ?_
          refine x_A k77_76 (fun _ => rfl) ?_
          refine x_iald k77_77 (q := 52) (n := 120) ⟨by decide, rfl⟩ (by decide) (by first | exact x_rbl b_a rfl rfl | exact ⟨by omega, by omega⟩) ?_
          refine x_top (fun z18 e_z18 => ?_)
          have g_z18 : (0 : Int) ≤ s5 52 a.toNat ∧ s5 52 a.toNat ≤ 39 := hG_s5 52 a.toNat
          refine x_A k77_78 (fun _ => rfl) ?_
          refine x_callV k77_79 (y := 69) (n := 2) (w0 := 0) (w1 := 2) (as := [vi z18, vi z1]) (rest := []) (by decide +kernel) (q := 1) (nq := 5) (kq := 4) ⟨by decide, rfl⟩ rfl rfl rfl rfl (xe_mono (C_X7_followJoins_1 s5 hG_s5 z18 (by first | exact x_rbe e_z18 g_z18 rfl rfl | exact x_rb g_z18 rfl rfl | exact ⟨by omega, by omega⟩) z1 (by first | exact x_rbe e_z1 g_z1 rfl rfl | exact x_rb g_z1 rfl rfl | exact ⟨by omega, by omega⟩)) ?_)
          rintro s20 v ⟨-, t_s20, z19, rfl, g_z19⟩
          rw [t_s20.nil]
          show xe none 77 82 [(2, vi z1), (0, .ref 243), (1, vi a)] [vi z19] s5 0 0 _
          refine x_istore_n k77_82 (ls' := [(3, vi z19), (2, vi z1), (0, .ref 243), (1, vi a)]) (by decide) rfl ?_
          refine x_A k77_83 (fun _ => rfl) ?_
          refine x_getR k77_84 (f := 9) rfl (q := 243) (n := 13) (kd := 13) ⟨by decide, rfl⟩ (q2 := 254) (by decide) rfl ?_
          refine x_A k77_87 (fun _ => rfl) ?_
          refine x_A k77_88 (fun _ => rfl) ?_
          refine x_getR k77_89 (f := 0) rfl (q := 243) (n := 13) (kd := 13) ⟨by decide, rfl⟩ (q2 := 1) (by decide) rfl ?_
          refine x_A k77_92 (fun _ => rfl) ?_
          refine x_A k77_93 (fun _ => rfl) ?_
          obtain ⟨z21, e_z21⟩ : ∃ z, z = s5 1 4 := ⟨_, rfl⟩
          have g_z21 : (1 : Int) ≤ s5 1 4 ∧ s5 1 4 ≤ 40 := hG_s5 1 4
          refine x_callV k77_94 (y := 63) (n := 2) (w0 := 2) (w1 := 2) (as := [vi z19, vi z1]) (rest := [vi a, .ref 254]) (by decide +kernel) (q := 1) (nq := 5) (kq := 4) ⟨by decide, rfl⟩ rfl rfl rfl rfl (xe_mono (C_X7_isEnded_1 s5 hG_s5 z19 (by first | exact x_rbe e_z19 g_z19 rfl rfl | exact x_rb g_z19 rfl rfl | exact ⟨by omega, by omega⟩) z1 (by first | exact x_rbe e_z1 g_z1 rfl rfl | exact x_rb g_z1 rfl rfl | exact ⟨by omega, by omega⟩)) ?_)
          rintro s23 v ⟨h_s23, z22, rfl, hz_z22⟩
          rw [h_s23]
          rcases hz_z22 with ⟨c_z22, e_z22⟩ | e_z22
          · rw [e_z22]
            show xe none 77 97 [(3, vi z19), (2, vi z1), (0, .ref 243), (1, vi a)] [vi 1, vi a, .ref 254] s5 0 0 _
            refine x_bast k77_97 (q := 254) (n := 120) ⟨by decide, rfl⟩ (by decide) (by first | exact x_rbl b_a rfl rfl | exact ⟨by omega, by omega⟩) ⟨by omega, by omega⟩ ?_
            refine x_nh (fun s24 e_s24 => ?_)
            have hG_s24 : GI s24 := by rw [e_s24]; exact hG_s5.up (show 0 ≤ 1 ∧ 1 ≤ 1 from ⟨by decide, by decide⟩)
            have f_s24 : FL [3904, 3968] s0 s24 := by rw [e_s24]; exact f_s5.up (show 3968 ∈ [3904, 3968] from by decide +kernel)
            have q25 : s24 243 12 = z1 := by rw [e_s24, x_up_q (by decide)]; exact q6
            have q26 : s24 1 4 = z21 := by rw [e_s24, x_up_q (by decide)]; exact e_z21.symm
            have q27 : s24 253 a.toNat = (-1) := by rw [e_s24, x_up_q (by first | decide | omega)]; exact q7
            have q28 : s24 55 a.toNat = z9 := by rw [e_s24, x_up_q (by first | decide | omega)]; exact e_z9.symm
            have q29 : s24 252 a.toNat = z11 := by rw [e_s24, x_up_q (by first | decide | omega)]; exact e_z11.symm
            have q30 : s24 250 a.toNat = z13 := by rw [e_s24, x_up_q (by first | decide | omega)]; exact e_z13.symm
            have q31 : s24 52 a.toNat = z18 := by rw [e_s24, x_up_q (by first | decide | omega)]; exact e_z18.symm
            have q32 : s24 254 a.toNat = 1 := by rw [e_s24]; exact x_up_same
            refine x_A k77_98 (fun _ => rfl) ?_
            refine x_getR k77_99 (f := 8) rfl (q := 243) (n := 13) (kd := 13) ⟨by decide, rfl⟩ (q2 := 253) (by decide) rfl ?_
            refine x_A k77_102 (fun _ => rfl) ?_
            refine x_A k77_103 (fun _ => rfl) ?_
            refine x_getR k77_104 (f := 0) rfl (q := 243) (n := 13) (kd := 13) ⟨by decide, rfl⟩ (q2 := 1) (by decide) rfl ?_
            refine x_A k77_107 (fun _ => rfl) ?_
            refine x_getR k77_108 (f := 0) rfl (q := 243) (n := 13) (kd := 13) ⟨by decide, rfl⟩ (q2 := 1) (by decide) rfl ?_
            refine x_A k77_111 (fun _ => rfl) ?_
            refine x_A k77_112 (fun _ => rfl) ?_
            refine x_callV k77_113 (y := 70) (n := 2) (w0 := 3) (w1 := 2) (as := [vi z19, vi z1]) (rest := [.ref 1, vi a, .ref 253]) (by decide +kernel) (q := 1) (nq := 5) (kq := 4) ⟨by decide, rfl⟩ rfl rfl rfl rfl (xe_mono (C_X7_firstThere_1 s24 hG_s24 z19 (by first | exact x_rbe e_z19 g_z19 rfl rfl | exact x_rb g_z19 rfl rfl | exact ⟨by omega, by omega⟩) z1 (by first | exact x_rbe e_z1 g_z1 rfl rfl | exact x_rb g_z1 rfl rfl | exact ⟨by omega, by omega⟩)) ?_)
            rintro s34 v ⟨-, t_s34, z33, rfl, g_z33⟩
            rw [t_s34.nil]
            show xe none 77 116 [(3, vi z19), (2, vi z1), (0, .ref 243), (1, vi a)] [vi z33, .ref 1, vi a, .ref 253] s24 0 0 _
            refine x_A k77_116 (fun _ => rfl) ?_
            refine x_getR k77_117 (f := 6) rfl (q := 243) (n := 13) (kd := 13) ⟨by decide, rfl⟩ (q2 := 251) (by decide) rfl ?_
            refine x_A k77_120 (fun _ => rfl) ?_
            refine x_iald k77_121 (q := 251) (n := 120) ⟨by decide, rfl⟩ (by decide) (by first | exact x_rbl b_a rfl rfl | exact ⟨by omega, by omega⟩) ?_
            refine x_top (fun z35 e_z35 => ?_)
            have g_z35 : (0 : Int) ≤ s24 251 a.toNat ∧ s24 251 a.toNat ≤ 6 := hG_s24 251 a.toNat
            refine x_A k77_122 (fun _ => rfl) ?_
            refine x_callV k77_123 (y := 71) (n := 3) (w0 := 2) (w1 := 3) (as := [vi z33, vi z35, vi z1]) (rest := [vi a, .ref 253]) (by decide +kernel) (q := 1) (nq := 5) (kq := 4) ⟨by decide, rfl⟩ rfl rfl rfl rfl (xe_mono (C_X7_raised_1 s24 hG_s24 z33 (by first | exact x_rbe e_z33 g_z33 rfl rfl | exact x_rb g_z33 rfl rfl | exact ⟨by omega, by omega⟩) z35 (by first | exact x_rbe e_z35 g_z35 rfl rfl | exact x_rb g_z35 rfl rfl | exact ⟨by omega, by omega⟩) z1 (by first | exact x_rbe e_z1 g_z1 rfl rfl | exact x_rb g_z1 rfl rfl | exact ⟨by omega, by omega⟩)) ?_)
            rintro s37 v ⟨-, t_s37, z36, rfl, g_z36⟩
            rw [t_s37.nil]
            show xe none 77 126 [(3, vi z19), (2, vi z1), (0, .ref 243), (1, vi a)] [vi z36, vi a, .ref 253] s24 0 0 _
            refine x_iast k77_126 (q := 253) (n := 120) ⟨by decide, rfl⟩ (by decide) (by first | exact x_rbl b_a rfl rfl | exact ⟨by omega, by omega⟩) ?_
            refine x_nh (fun s38 e_s38 => ?_)
            have hG_s38 : GI s38 := by rw [e_s38]; exact hG_s24.up (show (-1) ≤ z36 ∧ z36 ≤ 39 from (by first | exact x_rbe e_z36 g_z36 rfl rfl | exact x_rb g_z36 rfl rfl | exact ⟨by omega, by omega⟩))
            have f_s38 : FL [3904, 3968] s0 s38 := by rw [e_s38]; exact f_s24.up (show 3904 ∈ [3904, 3968] from by decide +kernel)
            have q39 : s38 243 12 = z1 := by rw [e_s38, x_up_q (by decide)]; exact q25
            have q40 : s38 1 4 = z21 := by rw [e_s38, x_up_q (by decide)]; exact q26
            have q41 : s38 55 a.toNat = z9 := by rw [e_s38, x_up_q (by first | decide | omega)]; exact q28
            have q42 : s38 252 a.toNat = z11 := by rw [e_s38, x_up_q (by first | decide | omega)]; exact q29
            have q43 : s38 250 a.toNat = z13 := by rw [e_s38, x_up_q (by first | decide | omega)]; exact q30
            have q44 : s38 52 a.toNat = z18 := by rw [e_s38, x_up_q (by first | decide | omega)]; exact q31
            have q45 : s38 254 a.toNat = 1 := by rw [e_s38, x_up_q (by first | decide | omega)]; exact q32
            have q46 : s38 251 a.toNat = z35 := by rw [e_s38, x_up_q (by first | decide | omega)]; exact e_z35.symm
            have q47 : s38 253 a.toNat = z36 := by rw [e_s38]; exact x_up_same
            exact x_vret k77_127 rfl ⟨hG_s38, f_s38, rfl⟩
          · rw [e_z22]
            show xe none 77 97 [(3, vi z19), (2, vi z1), (0, .ref 243), (1, vi a)] [vi 0, vi a, .ref 254] s5 0 0 _
            refine x_bast k77_97 (q := 254) (n := 120) ⟨by decide, rfl⟩ (by decide) (by first | exact x_rbl b_a rfl rfl | exact ⟨by omega, by omega⟩) ⟨by omega, by omega⟩ ?_
            refine x_nh (fun s48 e_s48 => ?_)
            have hG_s48 : GI s48 := by rw [e_s48]; exact hG_s5.up (show 0 ≤ 0 ∧ 0 ≤ 1 from ⟨by decide, by decide⟩)
            have f_s48 : FL [3904, 3968] s0 s48 := by rw [e_s48]; exact f_s5.up (show 3968 ∈ [3904, 3968] from by decide +kernel)
            have q49 : s48 243 12 = z1 := by rw [e_s48, x_up_q (by decide)]; exact q6
            have q50 : s48 1 4 = z21 := by rw [e_s48, x_up_q (by decide)]; exact e_z21.symm
            have q51 : s48 253 a.toNat = (-1) := by rw [e_s48, x_up_q (by first | decide | omega)]; exact q7
            have q52 : s48 55 a.toNat = z9 := by rw [e_s48, x_up_q (by first | decide | omega)]; exact e_z9.symm
            have q53 : s48 252 a.toNat = z11 := by rw [e_s48, x_up_q (by first | decide | omega)]; exact e_z11.symm
            have q54 : s48 250 a.toNat = z13 := by rw [e_s48, x_up_q (by first | decide | omega)]; exact e_z13.symm
            have q55 : s48 52 a.toNat = z18 := by rw [e_s48, x_up_q (by first | decide | omega)]; exact e_z18.symm
            have q56 : s48 254 a.toNat = 0 := by rw [e_s48]; exact x_up_same
            refine x_A k77_98 (fun _ => rfl) ?_
            refine x_getR k77_99 (f := 8) rfl (q := 243) (n := 13) (kd := 13) ⟨by decide, rfl⟩ (q2 := 253) (by decide) rfl ?_
            refine x_A k77_102 (fun _ => rfl) ?_
            refine x_A k77_103 (fun _ => rfl) ?_
            refine x_getR k77_104 (f := 0) rfl (q := 243) (n := 13) (kd := 13) ⟨by decide, rfl⟩ (q2 := 1) (by decide) rfl ?_
            refine x_A k77_107 (fun _ => rfl) ?_
            refine x_getR k77_108 (f := 0) rfl (q := 243) (n := 13) (kd := 13) ⟨by decide, rfl⟩ (q2 := 1) (by decide) rfl ?_
            refine x_A k77_111 (fun _ => rfl) ?_
            refine x_A k77_112 (fun _ => rfl) ?_
            refine x_callV k77_113 (y := 70) (n := 2) (w0 := 3) (w1 := 2) (as := [vi z19, vi z1]) (rest := [.ref 1, vi a, .ref 253]) (by decide +kernel) (q := 1) (nq := 5) (kq := 4) ⟨by decide, rfl⟩ rfl rfl rfl rfl (xe_mono (C_X7_firstThere_1 s48 hG_s48 z19 (by first | exact x_rbe e_z19 g_z19 rfl rfl | exact x_rb g_z19 rfl rfl | exact ⟨by omega, by omega⟩) z1 (by first | exact x_rbe e_z1 g_z1 rfl rfl | exact x_rb g_z1 rfl rfl | exact ⟨by omega, by omega⟩)) ?_)
            rintro s58 v ⟨-, t_s58, z57, rfl, g_z57⟩
            rw [t_s58.nil]
            show xe none 77 116 [(3, vi z19), (2, vi z1), (0, .ref 243), (1, vi a)] [vi z57, .ref 1, vi a, .ref 253] s48 0 0 _
            refine x_A k77_116 (fun _ => rfl) ?_
            refine x_getR k77_117 (f := 6) rfl (q := 243) (n := 13) (kd := 13) ⟨by decide, rfl⟩ (q2 := 251) (by decide) rfl ?_
            refine x_A k77_120 (fun _ => rfl) ?_
            refine x_iald k77_121 (q := 251) (n := 120) ⟨by decide, rfl⟩ (by decide) (by first | exact x_rbl b_a rfl rfl | exact ⟨by omega, by omega⟩) ?_
            refine x_top (fun z59 e_z59 => ?_)
            have g_z59 : (0 : Int) ≤ s48 251 a.toNat ∧ s48 251 a.toNat ≤ 6 := hG_s48 251 a.toNat
            refine x_A k77_122 (fun _ => rfl) ?_
            refine x_callV k77_123 (y := 71) (n := 3) (w0 := 2) (w1 := 3) (as := [vi z57, vi z59, vi z1]) (rest := [vi a, .ref 253]) (by decide +kernel) (q := 1) (nq := 5) (kq := 4) ⟨by decide, rfl⟩ rfl rfl rfl rfl (xe_mono (C_X7_raised_1 s48 hG_s48 z57 (by first | exact x_rbe e_z57 g_z57 rfl rfl | exact x_rb g_z57 rfl rfl | exact ⟨by omega, by omega⟩) z59 (by first | exact x_rbe e_z59 g_z59 rfl rfl | exact x_rb g_z59 rfl rfl | exact ⟨by omega, by omega⟩) z1 (by first | exact x_rbe e_z1 g_z1 rfl rfl | exact x_rb g_z1 rfl rfl | exact ⟨by omega, by omega⟩)) ?_)
            rintro s61 v ⟨-, t_s61, z60, rfl, g_z60⟩
            rw [t_s61.nil]
            show xe none 77 126 [(3, vi z19), (2, vi z1), (0, .ref 243), (1, vi a)] [vi z60, vi a, .ref 253] s48 0 0 _
            refine x_iast k77_126 (q := 253) (n := 120) ⟨by decide, rfl⟩ (by decide) (by first | exact x_rbl b_a rfl rfl | exact ⟨by omega, by omega⟩) ?_
            refine x_nh (fun s62 e_s62 => ?_)
            have hG_s62 : GI s62 := by rw [e_s62]; exact hG_s48.up (show (-1) ≤ z60 ∧ z60 ≤ 39 from (by first | exact x_rbe e_z60 g_z60 rfl rfl | exact x_rb g_z60 rfl rfl | exact ⟨by omega, by omega⟩))
            have f_s62 : FL [3904, 3968] s0 s62 := by rw [e_s62]; exact f_s48.up (show 3904 ∈ [3904, 3968] from by decide +kernel)
            have q63 : s62 243 12 = z1 := by rw [e_s62, x_up_q (by decide)]; exact q49
            have q64 : s62 1 4 = z21 := by rw [e_s62, x_up_q (by decide)]; exact q50
            have q65 : s62 55 a.toNat = z9 := by rw [e_s62, x_up_q (by first | decide | omega)]; exact q52
            have q66 : s62 252 a.toNat = z11 := by rw [e_s62, x_up_q (by first | decide | omega)]; exact q53
            have q67 : s62 250 a.toNat = z13 := by rw [e_s62, x_up_q (by first | decide | omega)]; exact q54
            have q68 : s62 52 a.toNat = z18 := by rw [e_s62, x_up_q (by first | decide | omega)]; exact q55
            have q69 : s62 254 a.toNat = 0 := by rw [e_s62, x_up_q (by first | decide | omega)]; exact q56
            have q70 : s62 251 a.toNat = z59 := by rw [e_s62, x_up_q (by first | decide | omega)]; exact e_z59.symm
            have q71 : s62 253 a.toNat = z60 := by rw [e_s62]; exact x_up_same
            exact x_vret k77_127 rfl ⟨hG_s62, f_s62, rfl⟩
        · skip
          exact x_vret k77_64 rfl ⟨hG_s5, f_s5, rfl⟩
      · skip
        exact x_vret k77_50 rfl ⟨hG_s5, f_s5, rfl⟩
theorem L_C_X8_lookIn_243_28 (s0 : xS) (hJ0 : J s0)  : ∀ (n : Nat) (s : xS) (x1 : Int) (x2 : Int) (hG : GI s) (f : FL [3329, 3334, 3335, 3336, 3392, 3456, 3520, 3584, 3276, 3648, 3712, 3776, 3840, 3904, 3968, 3277, 4032] s0 s) (b_x1 : 0 ≤ x1 ∧ x1 ≤ 9) (b_x2 : 0 ≤ x2 ∧ x2 ≤ 120)  (hm : (120 - x2) < (n : Int)), xe none 76 28 [(0, .ref 243), (1, vi x1), (2, vi x2)] [] s 0 0 (fun s' v => GI s' ∧ FL [3329, 3334, 3335, 3336, 3392, 3456, 3520, 3584, 3276, 3648, 3712, 3776, 3840, 3904, 3968, 3277, 4032] s0 s' ∧ v = none) := by
  intro n
  induction n with
  | zero => intro s x1 x2 hG f b_x1 b_x2  hm; exfalso; omega
  | succ n ih =>
    intro s x1 x2 hG f b_x1 b_x2  hm
    refine x_A k76_28 (fun _ => rfl) ?_
    refine x_A k76_29 (fun _ => rfl) ?_
    refine x_getR k76_30 (f := 1) rfl (q := 243) (n := 13) (kd := 13) ⟨by decide, rfl⟩ (q2 := 50) (by decide) rfl ?_
    refine x_getI k76_33 (f := 6) rfl (q := 50) (n := 7) (kd := 6) ⟨by decide, rfl⟩ (by decide) rfl ?_
    refine x_top (fun z511 e_z511 => ?_)
    have g_z511 : (0 : Int) ≤ s 50 6 ∧ s 50 6 ≤ 120 := hG 50 6
    refine x_ic_ge k76_36 (t := 91) rfl (by first | exact x_rb b_x2 rfl rfl | exact ⟨by omega, by omega⟩) (by first | exact x_rbe e_z511 g_z511 rfl rfl | exact x_rb g_z511 rfl rfl | exact ⟨by omega, by omega⟩) (fun c512 => ?_) (fun c512 => ?_)
    · skip
      exact x_vret k76_91 rfl ⟨hG, f, rfl⟩
    · skip
      refine x_A k76_39 (fun _ => rfl) ?_
      refine x_A k76_40 (fun _ => rfl) ?_
      refine x_callV k76_41 (y := 77) (n := 1) (w0 := 0) (w1 := 1) (as := [vi x2]) (rest := []) (by decide +kernel) (q := 243) (nq := 13) (kq := 13) ⟨by decide, rfl⟩ rfl rfl rfl rfl (xe_mono (C_X8_setMeaning_243 s hG x2 (by first | exact x_rb b_x2 rfl rfl | exact ⟨by omega, by omega⟩)) ?_)
      rintro s514 v ⟨hG_s514, t_s514, rfl⟩
      have f_s514 : FL [3329, 3334, 3335, 3336, 3392, 3456, 3520, 3584, 3276, 3648, 3712, 3776, 3840, 3904, 3968, 3277, 4032] s0 s514 := f.tr t_s514 (by decide +kernel)
      have q515 : s514 50 6 = z511 := (t_s514 50 6 (show 711 ∉ [3904, 3968] from by decide +kernel)).trans e_z511.symm
      show xe none 76 44 [(0, .ref 243), (1, vi x1), (2, vi x2)] [] s514 0 0 _
      refine x_A k76_44 (fun _ => rfl) ?_
      refine x_getR k76_45 (f := 8) rfl (q := 243) (n := 13) (kd := 13) ⟨by decide, rfl⟩ (q2 := 253) (by decide) rfl ?_
      refine x_A k76_48 (fun _ => rfl) ?_
      refine x_iald k76_49 (q := 253) (n := 120) ⟨by decide, rfl⟩ (by decide) (by first | exact x_rbl b_x2 rfl rfl | exact ⟨by omega, by omega⟩) ?_
      refine x_top (fun z516 e_z516 => ?_)
      have g_z516 : (-1) ≤ s514 253 x2.toNat ∧ s514 253 x2.toNat ≤ 39 := hG_s514 253 x2.toNat
      refine x_A k76_50 (fun _ => rfl) ?_
      refine x_ic_eq k76_51 (t := 85) rfl (by first | exact x_rbe e_z516 g_z516 rfl rfl | exact x_rb g_z516 rfl rfl | exact ⟨by omega, by omega⟩) ⟨by decide, by decide⟩ (fun c517 => ?_) (fun c517 => ?_)
      · skip
        refine x_iinc k76_85 (ls' := [(2, vi (x2 + 1)), (0, .ref 243), (1, vi x1)]) rfl (by decide) rfl ?_
        refine x_goto k76_88 (t := 28) rfl ?_
        refine x_ls (l := [(0, .ref 243), (1, vi x1), (2, vi (x2 + 1))]) (show ([0, 1, 2] : List Nat).Nodup from by decide +kernel) ⟨rfl, rfl, rfl, trivial⟩ ?_
        exact ih s514 x1 (x2 + 1) hG_s514 f_s514 (by first | exact x_rb b_x1 rfl rfl | exact ⟨by omega, by omega⟩) ⟨by omega, by omega⟩  (by omega)
      · skip
        refine x_A k76_54 (fun _ => rfl) ?_
        refine x_getR k76_55 (f := 10) rfl (q := 243) (n := 13) (kd := 13) ⟨by decide, rfl⟩ (q2 := 255) (by decide) rfl ?_
        refine x_A k76_58 (fun _ => rfl) ?_
        refine x_getR k76_59 (f := 1) rfl (q := 243) (n := 13) (kd := 13) ⟨by decide, rfl⟩ (q2 := 50) (by decide) rfl ?_
        refine x_getR k76_62 (f := 0) rfl (q := 50) (n := 7) (kd := 6) ⟨by decide, rfl⟩ (q2 := 51) (by decide) rfl ?_
        refine x_A k76_65 (fun _ => rfl) ?_
        refine x_iald k76_66 (q := 51) (n := 120) ⟨by decide, rfl⟩ (by decide) (by first | exact x_rbl b_x2 rfl rfl | exact ⟨by omega, by omega⟩) ?_
        refine x_top (fun z518 e_z518 => ?_)
        have g_z518 : (0 : Int) ≤ s514 51 x2.toNat ∧ s514 51 x2.toNat ≤ 39 := hG_s514 51 x2.toNat
        refine x_A k76_67 (fun _ => rfl) ?_
        refine x_lald k76_68 (q := 255) (n := 40) ⟨by decide, rfl⟩ (by decide) (by first | exact x_rbel e_z518 g_z518 rfl rfl | exact x_rbl g_z518 rfl rfl | exact ⟨by omega, by omega⟩) ?_
        refine x_topL (fun z519 e_z519 => ?_)
        have b_z519 : in64 z519 := by rw [e_z519]; exact hG_s514 255 z518.toNat
        refine x_A k76_69 (fun _ => rfl) ?_
        refine x_getR k76_70 (f := 0) rfl (q := 243) (n := 13) (kd := 13) ⟨by decide, rfl⟩ (q2 := 1) (by decide) rfl ?_
        refine x_A k76_73 (fun _ => rfl) ?_
        refine x_getR k76_74 (f := 8) rfl (q := 243) (n := 13) (kd := 13) ⟨by decide, rfl⟩ (q2 := 253) (by decide) rfl ?_
        refine x_A k76_77 (fun _ => rfl) ?_
        refine x_iald k76_78 (q := 253) (n := 120) ⟨by decide, rfl⟩ (by decide) (by first | exact x_rbl b_x2 rfl rfl | exact ⟨by omega, by omega⟩) ?_
        rw [e_z516.symm]
        refine x_A k76_79 (fun _ => rfl) ?_
        refine x_callV k76_80 (y := 65) (n := 2) (w0 := 4) (w1 := 2) (as := [vi z516, vi x1]) (rest := [vj z519, vi z518, .ref 255]) (by decide +kernel) (q := 1) (nq := 5) (kq := 4) ⟨by decide, rfl⟩ rfl rfl rfl rfl (xe_mono (C_X7_pathUp_1 s514 hG_s514 z516 (by first | exact x_rbe e_z516 g_z516 rfl rfl | exact x_rb g_z516 rfl rfl | exact ⟨by omega, by omega⟩) x1 (by first | exact x_rb b_x1 rfl rfl | exact ⟨by omega, by omega⟩)) ?_)
        rintro s521 v ⟨-, t_s521, z520, rfl, b_z520⟩
        rw [t_s521.nil]
        show xe none 76 83 [(0, .ref 243), (1, vi x1), (2, vi x2)] [vj z520, vj z519, vi z518, .ref 255] s514 0 0 _
        refine x_lor_any k76_83 (fun z522 b_z522 => ?_)
        refine x_last k76_84 (q := 255) (n := 40) ⟨by decide, rfl⟩ (by decide) (by first | exact x_rbel e_z518 g_z518 rfl rfl | exact x_rbl g_z518 rfl rfl | exact ⟨by omega, by omega⟩) ?_
        refine x_nh (fun s523 e_s523 => ?_)
        have hG_s523 : GI s523 := by rw [e_s523]; exact hG_s514.up (show in64 z522 from b_z522)
        have f_s523 : FL [3329, 3334, 3335, 3336, 3392, 3456, 3520, 3584, 3276, 3648, 3712, 3776, 3840, 3904, 3968, 3277, 4032] s0 s523 := by rw [e_s523]; exact f_s514.up (show 4032 ∈ [3329, 3334, 3335, 3336, 3392, 3456, 3520, 3584, 3276, 3648, 3712, 3776, 3840, 3904, 3968, 3277, 4032] from by decide +kernel)
        have q524 : s523 50 6 = z511 := by rw [e_s523, x_up_q (by decide)]; exact q515
        have q525 : s523 253 x2.toNat = z516 := by rw [e_s523, x_up_q (by first | decide | omega)]; exact e_z516.symm
        have q526 : s523 51 x2.toNat = z518 := by rw [e_s523, x_up_q (by first | decide | omega)]; exact e_z518.symm
        refine x_iinc k76_85 (ls' := [(2, vi (x2 + 1)), (0, .ref 243), (1, vi x1)]) rfl (by decide) rfl ?_
        refine x_goto k76_88 (t := 28) rfl ?_
        refine x_ls (l := [(0, .ref 243), (1, vi x1), (2, vi (x2 + 1))]) (show ([0, 1, 2] : List Nat).Nodup from by decide +kernel) ⟨rfl, rfl, rfl, trivial⟩ ?_
        exact ih s523 x1 (x2 + 1) hG_s523 f_s523 (by first | exact x_rb b_x1 rfl rfl | exact ⟨by omega, by omega⟩) ⟨by omega, by omega⟩  (by omega)
theorem C_X8_lookIn_243 (s0 : xS) (hG0 : GI s0) (hJ0 : J s0) (a : Int) (b_a : 0 ≤ a ∧ a ≤ 9) : xe none 76 0 (lv_args 0 [.ref 243, vi a]) [] s0 0 0 (fun s' v => GI s' ∧ FL [3329, 3334, 3335, 3336, 3392, 3456, 3520, 3584, 3276, 3648, 3712, 3776, 3840, 3904, 3968, 3277, 4032] s0 s' ∧ v = none) := by
  have f0 : FL [3329, 3334, 3335, 3336, 3392, 3456, 3520, 3584, 3276, 3648, 3712, 3776, 3840, 3904, 3968, 3277, 4032] s0 s0 := FL.rf
  show xe none 76 0 [(0, .ref 243), (1, vi a)] [] s0 0 0 _
  refine x_A k76_0 (fun _ => rfl) ?_
  refine x_getI k76_1 (f := 12) rfl (q := 243) (n := 13) (kd := 13) ⟨by decide, rfl⟩ (by decide) rfl ?_
  refine x_top (fun z527 e_z527 => ?_)
  have g_z527 : (-1) ≤ s0 243 12 ∧ s0 243 12 ≤ 9 := hG0 243 12
  refine x_A k76_4 (fun _ => rfl) ?_
  refine x_ic_ne k76_5 (t := 9) rfl (by first | exact x_rbe e_z527 g_z527 rfl rfl | exact x_rb g_z527 rfl rfl | exact ⟨by omega, by omega⟩) (by first | exact x_rb b_a rfl rfl | exact ⟨by omega, by omega⟩) (fun c528 => ?_) (fun c528 => ?_)
  · skip
    refine x_A k76_9 (fun _ => rfl) ?_
    refine x_A k76_10 (fun _ => rfl) ?_
    refine x_putI k76_11 (f := 12) rfl (q := 243) (n := 13) (kd := 13) ⟨by decide, rfl⟩ rfl rfl rfl ?_
    refine x_nh (fun s529 e_s529 => ?_)
    have hG_s529 : GI s529 := by rw [e_s529]; exact hG0.up (show (-1) ≤ a ∧ a ≤ 9 from (by first | exact x_rb b_a rfl rfl | exact ⟨by omega, by omega⟩))
    have f_s529 : FL [3329, 3334, 3335, 3336, 3392, 3456, 3520, 3584, 3276, 3648, 3712, 3776, 3840, 3904, 3968, 3277, 4032] s0 s529 := by rw [e_s529]; exact f0.up (show 3277 ∈ [3329, 3334, 3335, 3336, 3392, 3456, 3520, 3584, 3276, 3648, 3712, 3776, 3840, 3904, 3968, 3277, 4032] from by decide +kernel)
    have q530 : s529 243 12 = a := by rw [e_s529]; exact x_up_same
    refine x_A k76_14 (fun _ => rfl) ?_
    refine x_callV k76_15 (y := 74) (n := 0) (w0 := 0) (w1 := 0) (as := []) (rest := []) (by decide +kernel) (q := 243) (nq := 13) (kq := 13) ⟨by decide, rfl⟩ rfl rfl rfl rfl (xe_mono (C_X8_judge_243 s529 hG_s529 (hJ0.fl f_s529 (by decide +kernel))) ?_)
    rintro s532 v ⟨hG_s532, t_s532, rfl⟩
    have f_s532 : FL [3329, 3334, 3335, 3336, 3392, 3456, 3520, 3584, 3276, 3648, 3712, 3776, 3840, 3904, 3968, 3277, 4032] s0 s532 := f_s529.tr t_s532 (by decide +kernel)
    have q533 : s532 243 12 = a := (t_s532 243 12 (show 3277 ∉ [3329, 3334, 3335, 3336, 3392, 3456, 3520, 3584, 3276, 3648, 3712, 3776, 3840] from by decide +kernel)).trans q530
    show xe none 76 18 [(0, .ref 243), (1, vi a)] [] s532 0 0 _
    refine x_A k76_18 (fun _ => rfl) ?_
    refine x_getR k76_19 (f := 10) rfl (q := 243) (n := 13) (kd := 13) ⟨by decide, rfl⟩ (q2 := 255) (by decide) rfl ?_
    refine x_lconst k76_22 (z := 0) (by decide +kernel) ?_
    refine x_callS k76_23 (y := 228) (n := 2) (w0 := 0) (w1 := 3) (as := [.ref 255, vj 0]) (rest := []) (by decide +kernel) rfl rfl rfl rfl (xe_mono (C_J7_fill_d0a16_255 s532 hG_s532 0 ⟨by omega, by omega⟩) ?_)
    rintro s535 v ⟨hG_s535, t_s535, rfl⟩
    have f_s535 : FL [3329, 3334, 3335, 3336, 3392, 3456, 3520, 3584, 3276, 3648, 3712, 3776, 3840, 3904, 3968, 3277, 4032] s0 s535 := f_s532.tr t_s535 (by decide +kernel)
    have q536 : s535 243 12 = a := (t_s535 243 12 (show 3277 ∉ [4032] from by decide +kernel)).trans q533
    show xe none 76 26 [(0, .ref 243), (1, vi a)] [] s535 0 0 _
    refine x_A k76_26 (fun _ => rfl) ?_
    refine x_istore_n k76_27 (ls' := [(2, vi 0), (0, .ref 243), (1, vi a)]) (by decide) rfl ?_
    refine x_ls (l := [(0, .ref 243), (1, vi a), (2, vi 0)]) (show ([0, 1, 2] : List Nat).Nodup from by decide +kernel) ⟨rfl, rfl, rfl, trivial⟩ ?_
    exact L_C_X8_lookIn_243_28 s0 hJ0  (((120 - 0) + 1 : Int)).toNat s535 a 0 hG_s535 f_s535 (by first | exact x_rb b_a rfl rfl | exact ⟨by omega, by omega⟩) ⟨by decide, by decide⟩  (by omega)
  · skip
    exact x_vret k76_8 rfl ⟨hG0, f0, rfl⟩
theorem C_X10_tree_0 (s0 : xS) (hG0 : GI s0) (hJ0 : J s0) (a : Int) (b_a : (-2147483648) ≤ a ∧ a ≤ 2147483647) (b : Int) (b_b : (-2147483648) ≤ b ∧ b ≤ 2147483647) (d : Int) (b_d : (-2147483648) ≤ d ∧ d ≤ 2147483647) : xe none 95 0 (lv_args 0 [.ref 0, vi a, vi b, vi d]) [] s0 0 0 (fun s' v => GI s' ∧ FL [3329, 3334, 3335, 3336, 3392, 3456, 3520, 3584, 3276, 3648, 3712, 3776, 3840, 3904, 3968, 3277, 4032] s0 s' ∧ ∃ z, v = some (vi z) ∧ ((-1004) ≤ z ∧ z ≤ 127)) := by
  have f0 : FL [3329, 3334, 3335, 3336, 3392, 3456, 3520, 3584, 3276, 3648, 3712, 3776, 3840, 3904, 3968, 3277, 4032] s0 s0 := FL.rf
  show xe none 95 0 [(0, .ref 0), (1, vi a), (2, vi b), (3, vi d)] [] s0 0 0 _
  refine x_A k95_0 (fun _ => rfl) ?_
  refine x_getR k95_1 (f := 0) rfl (q := 0) (n := 12) (kd := 3) ⟨by decide, rfl⟩ (q2 := 1) (by decide) rfl ?_
  refine x_A k95_4 (fun _ => rfl) ?_
  obtain ⟨z1, e_z1⟩ : ∃ z, z = s0 1 4 := ⟨_, rfl⟩
  have g_z1 : (1 : Int) ≤ s0 1 4 ∧ s0 1 4 ≤ 40 := hG0 1 4
  refine x_callV k95_5 (y := 59) (n := 1) (w0 := 0) (w1 := 1) (as := [vi a]) (rest := []) (by decide +kernel) (q := 1) (nq := 5) (kq := 4) ⟨by decide, rfl⟩ rfl rfl rfl rfl (xe_mono (C_X7_has_1 s0 hG0 a (by first | exact x_rb b_a rfl rfl | exact ⟨by omega, by omega⟩)) ?_)
  rintro s3 v ⟨h_s3, z2, rfl, hz_z2⟩
  rw [h_s3]
  rcases hz_z2 with ⟨c_z2, e_z2⟩ | ⟨c_z2, e_z2⟩
  · rw [e_z2]
    show xe none 95 8 [(0, .ref 0), (1, vi a), (2, vi b), (3, vi d)] [vi 1] s0 0 0 _
    refine x_if_ne k95_8 (t := 15) rfl ⟨by decide, by decide⟩ (fun c4 => ?_) (fun c4 => by exfalso; omega)
    refine x_A k95_15 (fun _ => rfl) ?_
    refine x_A k95_16 (fun _ => rfl) ?_
    obtain ⟨z5, e_z5⟩ : ∃ z, z = s0 0 10 := ⟨_, rfl⟩
    have g_z5 : (0 : Int) ≤ s0 0 10 ∧ s0 0 10 ≤ 9 := hG0 0 10
    refine x_callV k95_17 (y := 125) (n := 1) (w0 := 0) (w1 := 1) (as := [vi b]) (rest := []) (by decide +kernel) (q := 0) (nq := 12) (kq := 3) ⟨by decide, rfl⟩ rfl rfl rfl rfl (xe_mono (C_X10_isKnownEdition_0 s0 hG0 b (by first | exact x_rb b_b rfl rfl | exact ⟨by omega, by omega⟩)) ?_)
    rintro s7 v ⟨h_s7, z6, rfl, hz_z6⟩
    rw [h_s7]
    rcases hz_z6 with ⟨c_z6, e_z6⟩ | ⟨c_z6, e_z6⟩
    · rw [e_z6]
      show xe none 95 20 [(0, .ref 0), (1, vi a), (2, vi b), (3, vi d)] [vi 1] s0 0 0 _
      refine x_if_eq k95_20 (t := 33) rfl ⟨by decide, by decide⟩ (fun c8 => by exfalso; omega) (fun c8 => ?_)
      refine x_A k95_23 (fun _ => rfl) ?_
      refine x_A k95_24 (fun _ => rfl) ?_
      refine x_bipush k95_25 (by decide +kernel) ?_
      refine x_callS k95_27 (y := 121) (n := 3) (w0 := 0) (w1 := 3) (as := [vi d, vi 0, vi 6]) (rest := []) (by decide +kernel) rfl rfl rfl rfl (xe_mono (C_X10_isWithin s0 hG0 d (by first | exact x_rb b_d rfl rfl | exact ⟨by omega, by omega⟩) 0 ⟨by decide, by decide⟩ 6 ⟨by decide, by decide⟩) ?_)
      rintro s10 v ⟨h_s10, z9, rfl, hz_z9⟩
      rw [h_s10]
      rcases hz_z9 with ⟨c_z9, e_z9⟩ | ⟨c_z9, e_z9⟩
      · rw [e_z9]
        show xe none 95 30 [(0, .ref 0), (1, vi a), (2, vi b), (3, vi d)] [vi 1] s0 0 0 _
        refine x_if_ne k95_30 (t := 37) rfl ⟨by decide, by decide⟩ (fun c11 => ?_) (fun c11 => by exfalso; omega)
        refine x_A k95_37 (fun _ => rfl) ?_
        have c12 : d = 0 ∨ d = 1 ∨ d = 2 ∨ d = 3 ∨ d = 4 ∨ d = 5 ∨ ¬ (0 ≤ d ∧ d ≤ 5) := by omega
        rcases c12 with c12 | c12 | c12 | c12 | c12 | c12 | c12
        · rw [c12]
          refine x_B k95_38 rfl (fun _ => rfl) (fun _ => rfl) (fun _ _ => rfl) ?_
          show xe none 95 76 [(0, .ref 0), (1, vi a), (2, vi b), (3, vi 0)] [] s0 0 0 _
          refine x_A k95_76 (fun _ => rfl) ?_
          refine x_getR k95_77 (f := 0) rfl (q := 0) (n := 12) (kd := 3) ⟨by decide, rfl⟩ (q2 := 1) (by decide) rfl ?_
          refine x_A k95_80 (fun _ => rfl) ?_
          refine x_A k95_81 (fun _ => rfl) ?_
          refine x_callV k95_82 (y := 64) (n := 2) (w0 := 0) (w1 := 2) (as := [vi a, vi b]) (rest := []) (by decide +kernel) (q := 1) (nq := 5) (kq := 4) ⟨by decide, rfl⟩ rfl rfl rfl rfl (xe_mono (C_X7_isThere_1 s0 hG0 a (by first | exact x_rb b_a rfl rfl | exact ⟨by omega, by omega⟩) b (by first | exact x_rb b_b rfl rfl | exact ⟨by omega, by omega⟩)) ?_)
          rintro s14 v ⟨h_s14, z13, rfl, hz_z13⟩
          rw [h_s14]
          rcases hz_z13 with ⟨c_z13, e_z13⟩ | e_z13
          · rw [e_z13]
            show xe none 95 85 [(0, .ref 0), (1, vi a), (2, vi b), (3, vi 0)] [vi 1] s0 0 0 _
            refine x_callS k95_85 (y := 126) (n := 1) (w0 := 0) (w1 := 1) (as := [vi 1]) (rest := []) (by decide +kernel) rfl rfl rfl rfl (xe_mono (C_X10_oneIf s0 hG0 1 ⟨by decide, by decide⟩) ?_)
            rintro s16 v ⟨-, t_s16, z15, rfl, g_z15⟩
            rw [t_s16.nil]
            show xe none 95 88 [(0, .ref 0), (1, vi a), (2, vi b), (3, vi 0)] [vi z15] s0 0 0 _
            exact x_iret k95_88 rfl ⟨hG0, f0, z15, rfl, (by first | exact x_rbe e_z15 g_z15 rfl rfl | exact x_rb g_z15 rfl rfl | exact ⟨by omega, by omega⟩)⟩
          · rw [e_z13]
            show xe none 95 85 [(0, .ref 0), (1, vi a), (2, vi b), (3, vi 0)] [vi 0] s0 0 0 _
            refine x_callS k95_85 (y := 126) (n := 1) (w0 := 0) (w1 := 1) (as := [vi 0]) (rest := []) (by decide +kernel) rfl rfl rfl rfl (xe_mono (C_X10_oneIf s0 hG0 0 ⟨by decide, by decide⟩) ?_)
            rintro s18 v ⟨-, t_s18, z17, rfl, g_z17⟩
            rw [t_s18.nil]
            show xe none 95 88 [(0, .ref 0), (1, vi a), (2, vi b), (3, vi 0)] [vi z17] s0 0 0 _
            exact x_iret k95_88 rfl ⟨hG0, f0, z17, rfl, (by first | exact x_rbe e_z17 g_z17 rfl rfl | exact x_rb g_z17 rfl rfl | exact ⟨by omega, by omega⟩)⟩
        · rw [c12]
          refine x_B k95_38 rfl (fun _ => rfl) (fun _ => rfl) (fun _ _ => rfl) ?_
          show xe none 95 89 [(0, .ref 0), (1, vi a), (2, vi b), (3, vi 1)] [] s0 0 0 _
          refine x_A k95_89 (fun _ => rfl) ?_
          refine x_getR k95_90 (f := 0) rfl (q := 0) (n := 12) (kd := 3) ⟨by decide, rfl⟩ (q2 := 1) (by decide) rfl ?_
          refine x_A k95_93 (fun _ => rfl) ?_
          refine x_A k95_94 (fun _ => rfl) ?_
          refine x_callV k95_95 (y := 62) (n := 2) (w0 := 0) (w1 := 2) (as := [vi a, vi b]) (rest := []) (by decide +kernel) (q := 1) (nq := 5) (kq := 4) ⟨by decide, rfl⟩ rfl rfl rfl rfl (xe_mono (C_X7_parentIn_1 s0 hG0 a (by first | exact x_rb b_a rfl rfl | exact ⟨by omega, by omega⟩) b (by first | exact x_rb b_b rfl rfl | exact ⟨by omega, by omega⟩)) ?_)
          rintro s20 v ⟨-, t_s20, z19, rfl, g_z19⟩
          rw [t_s20.nil]
          show xe none 95 98 [(0, .ref 0), (1, vi a), (2, vi b), (3, vi 1)] [vi z19] s0 0 0 _
          exact x_iret k95_98 rfl ⟨hG0, f0, z19, rfl, (by first | exact x_rbe e_z19 g_z19 rfl rfl | exact x_rb g_z19 rfl rfl | exact ⟨by omega, by omega⟩)⟩
        · rw [c12]
          refine x_B k95_38 rfl (fun _ => rfl) (fun _ => rfl) (fun _ _ => rfl) ?_
          show xe none 95 99 [(0, .ref 0), (1, vi a), (2, vi b), (3, vi 2)] [] s0 0 0 _
          refine x_A k95_99 (fun _ => rfl) ?_
          refine x_getR k95_100 (f := 0) rfl (q := 0) (n := 12) (kd := 3) ⟨by decide, rfl⟩ (q2 := 1) (by decide) rfl ?_
          refine x_A k95_103 (fun _ => rfl) ?_
          refine x_A k95_104 (fun _ => rfl) ?_
          refine x_callV k95_105 (y := 67) (n := 2) (w0 := 0) (w1 := 2) (as := [vi a, vi b]) (rest := []) (by decide +kernel) (q := 1) (nq := 5) (kq := 4) ⟨by decide, rfl⟩ rfl rfl rfl rfl (xe_mono (C_X7_countBelow_1 s0 hG0 a (by first | exact x_rb b_a rfl rfl | exact ⟨by omega, by omega⟩) b (by first | exact x_rb b_b rfl rfl | exact ⟨by omega, by omega⟩)) ?_)
          rintro s22 v ⟨-, t_s22, z21, rfl, g_z21⟩
          rw [t_s22.nil]
          show xe none 95 108 [(0, .ref 0), (1, vi a), (2, vi b), (3, vi 2)] [vi z21] s0 0 0 _
          exact x_iret k95_108 rfl ⟨hG0, f0, z21, rfl, (by first | exact x_rbe e_z21 g_z21 rfl rfl | exact x_rb g_z21 rfl rfl | exact ⟨by omega, by omega⟩)⟩
        · rw [c12]
          refine x_B k95_38 rfl (fun _ => rfl) (fun _ => rfl) (fun _ _ => rfl) ?_
          show xe none 95 109 [(0, .ref 0), (1, vi a), (2, vi b), (3, vi 3)] [] s0 0 0 _
          refine x_A k95_109 (fun _ => rfl) ?_
          refine x_getR k95_110 (f := 0) rfl (q := 0) (n := 12) (kd := 3) ⟨by decide, rfl⟩ (q2 := 1) (by decide) rfl ?_
          refine x_getR k95_113 (f := 2) rfl (q := 1) (n := 5) (kd := 4) ⟨by decide, rfl⟩ (q2 := 4) (by decide) rfl ?_
          refine x_A k95_116 (fun _ => rfl) ?_
          refine x_iald k95_117 (q := 4) (n := 40) ⟨by decide, rfl⟩ (by decide) (by first | exact x_rbl b_a rfl rfl | exact ⟨by omega, by omega⟩) ?_
          refine x_top (fun z23 e_z23 => ?_)
          have g_z23 : (-1) ≤ s0 4 a.toNat ∧ s0 4 a.toNat ≤ 39 := hG0 4 a.toNat
          exact x_iret k95_118 rfl ⟨hG0, f0, z23, rfl, (by first | exact x_rbe e_z23 g_z23 rfl rfl | exact x_rb g_z23 rfl rfl | exact ⟨by omega, by omega⟩)⟩
        · rw [c12]
          refine x_B k95_38 rfl (fun _ => rfl) (fun _ => rfl) (fun _ _ => rfl) ?_
          show xe none 95 119 [(0, .ref 0), (1, vi a), (2, vi b), (3, vi 4)] [] s0 0 0 _
          refine x_A k95_119 (fun _ => rfl) ?_
          refine x_getR k95_120 (f := 0) rfl (q := 0) (n := 12) (kd := 3) ⟨by decide, rfl⟩ (q2 := 1) (by decide) rfl ?_
          refine x_getR k95_123 (f := 0) rfl (q := 1) (n := 5) (kd := 4) ⟨by decide, rfl⟩ (q2 := 2) (by decide) rfl ?_
          refine x_A k95_126 (fun _ => rfl) ?_
          refine x_iald k95_127 (q := 2) (n := 40) ⟨by decide, rfl⟩ (by decide) (by first | exact x_rbl b_a rfl rfl | exact ⟨by omega, by omega⟩) ?_
          refine x_top (fun z24 e_z24 => ?_)
          have g_z24 : (0 : Int) ≤ s0 2 a.toNat ∧ s0 2 a.toNat ≤ 9 := hG0 2 a.toNat
          exact x_iret k95_128 rfl ⟨hG0, f0, z24, rfl, (by first | exact x_rbe e_z24 g_z24 rfl rfl | exact x_rb g_z24 rfl rfl | exact ⟨by omega, by omega⟩)⟩
        · rw [c12]
          refine x_B k95_38 rfl (fun _ => rfl) (fun _ => rfl) (fun _ _ => rfl) ?_
          show xe none 95 129 [(0, .ref 0), (1, vi a), (2, vi b), (3, vi 5)] [] s0 0 0 _
          refine x_A k95_129 (fun _ => rfl) ?_
          refine x_getR k95_130 (f := 0) rfl (q := 0) (n := 12) (kd := 3) ⟨by decide, rfl⟩ (q2 := 1) (by decide) rfl ?_
          refine x_getR k95_133 (f := 1) rfl (q := 1) (n := 5) (kd := 4) ⟨by decide, rfl⟩ (q2 := 3) (by decide) rfl ?_
          refine x_A k95_136 (fun _ => rfl) ?_
          refine x_iald k95_137 (q := 3) (n := 40) ⟨by decide, rfl⟩ (by decide) (by first | exact x_rbl b_a rfl rfl | exact ⟨by omega, by omega⟩) ?_
          refine x_top (fun z25 e_z25 => ?_)
          have g_z25 : (-1) ≤ s0 3 a.toNat ∧ s0 3 a.toNat ≤ 9 := hG0 3 a.toNat
          exact x_iret k95_138 rfl ⟨hG0, f0, z25, rfl, (by first | exact x_rbe e_z25 g_z25 rfl rfl | exact x_rb g_z25 rfl rfl | exact ⟨by omega, by omega⟩)⟩
        · refine x_tabD k95_38 ⟨by omega, by omega⟩ c12 (t0 := 139) rfl ?_
          refine x_A k95_139 (fun _ => rfl) ?_
          refine x_getR k95_140 (f := 9) rfl (q := 0) (n := 12) (kd := 3) ⟨by decide, rfl⟩ (q2 := 243) (by decide) rfl ?_
          refine x_A k95_143 (fun _ => rfl) ?_
          refine x_callV k95_144 (y := 76) (n := 1) (w0 := 0) (w1 := 1) (as := [vi b]) (rest := []) (by decide +kernel) (q := 243) (nq := 13) (kq := 13) ⟨by decide, rfl⟩ rfl rfl rfl rfl (xe_mono (C_X8_lookIn_243 s0 hG0 (hJ0.fl f0 (by decide +kernel)) b (by first | exact x_rb b_b rfl rfl | exact ⟨by omega, by omega⟩)) ?_)
          rintro s27 v ⟨hG_s27, t_s27, rfl⟩
          have f_s27 : FL [3329, 3334, 3335, 3336, 3392, 3456, 3520, 3584, 3276, 3648, 3712, 3776, 3840, 3904, 3968, 3277, 4032] s0 s27 := f0.tr t_s27 (by decide +kernel)
          have q28 : s27 1 4 = z1 := (t_s27 1 4 (show 69 ∉ [3329, 3334, 3335, 3336, 3392, 3456, 3520, 3584, 3276, 3648, 3712, 3776, 3840, 3904, 3968, 3277, 4032] from by decide +kernel)).trans e_z1.symm
          have q29 : s27 0 10 = z5 := (t_s27 0 10 (show 11 ∉ [3329, 3334, 3335, 3336, 3392, 3456, 3520, 3584, 3276, 3648, 3712, 3776, 3840, 3904, 3968, 3277, 4032] from by decide +kernel)).trans e_z5.symm
          show xe none 95 147 [(0, .ref 0), (1, vi a), (2, vi b), (3, vi d)] [] s27 0 0 _
          refine x_A k95_147 (fun _ => rfl) ?_
          refine x_getR k95_148 (f := 9) rfl (q := 0) (n := 12) (kd := 3) ⟨by decide, rfl⟩ (q2 := 243) (by decide) rfl ?_
          refine x_A k95_151 (fun _ => rfl) ?_
          refine x_callV k95_152 (y := 79) (n := 1) (w0 := 0) (w1 := 1) (as := [vi a]) (rest := []) (by decide +kernel) (q := 243) (nq := 13) (kq := 13) ⟨by decide, rfl⟩ rfl rfl rfl rfl (xe_mono (C_X8_showing_243 s27 hG_s27 a (by first | exact x_rb b_a rfl rfl | exact ⟨by omega, by omega⟩)) ?_)
          rintro s31 v ⟨-, t_s31, z30, rfl, b_z30⟩
          rw [t_s31.nil]
          show xe none 95 155 [(0, .ref 0), (1, vi a), (2, vi b), (3, vi d)] [vj z30] s27 0 0 _
          refine x_callS k95_155 (y := 219) (n := 1) (w0 := 0) (w1 := 2) (as := [vj z30]) (rest := []) (by decide +kernel) rfl rfl rfl rfl (xe_mono (C_J13_bitCount_95d88 s27 hG_s27 z30 b_z30) ?_)
          rintro s33 v ⟨-, t_s33, z32, rfl, g_z32⟩
          rw [t_s33.nil]
          show xe none 95 158 [(0, .ref 0), (1, vi a), (2, vi b), (3, vi d)] [vi z32] s27 0 0 _
          exact x_iret k95_158 rfl ⟨hG_s27, f_s27, z32, rfl, (by first | exact x_rbe e_z32 g_z32 rfl rfl | exact x_rb g_z32 rfl rfl | exact ⟨by omega, by omega⟩)⟩
      · rw [e_z9]
        show xe none 95 30 [(0, .ref 0), (1, vi a), (2, vi b), (3, vi d)] [vi 0] s0 0 0 _
        refine x_if_ne k95_30 (t := 37) rfl ⟨by decide, by decide⟩ (fun c34 => by exfalso; omega) (fun c34 => ?_)
        refine x_sipush k95_33 (by decide +kernel) ?_
        exact x_iret k95_36 rfl ⟨hG0, f0, (-1002), rfl, ⟨by decide, by decide⟩⟩
    · rw [e_z6]
      show xe none 95 20 [(0, .ref 0), (1, vi a), (2, vi b), (3, vi d)] [vi 0] s0 0 0 _
      refine x_if_eq k95_20 (t := 33) rfl ⟨by decide, by decide⟩ (fun c35 => ?_) (fun c35 => by exfalso; omega)
      refine x_sipush k95_33 (by decide +kernel) ?_
      exact x_iret k95_36 rfl ⟨hG0, f0, (-1002), rfl, ⟨by decide, by decide⟩⟩
  · rw [e_z2]
    show xe none 95 8 [(0, .ref 0), (1, vi a), (2, vi b), (3, vi d)] [vi 0] s0 0 0 _
    refine x_if_ne k95_8 (t := 15) rfl ⟨by decide, by decide⟩ (fun c36 => by exfalso; omega) (fun c36 => ?_)
    refine x_sipush k95_11 (by decide +kernel) ?_
    exact x_iret k95_14 rfl ⟨hG0, f0, (-1001), rfl, ⟨by decide, by decide⟩⟩
theorem C_X10_told_0 (s0 : xS) (hG0 : GI s0) (hJ0 : J s0) (a : Int) (b_a : (-2147483648) ≤ a ∧ a ≤ 2147483647) (b : Int) (b_b : (-2147483648) ≤ b ∧ b ≤ 2147483647) : xe none 100 0 (lv_args 0 [.ref 0, vi a, vi b]) [] s0 0 0 (fun s' v => GI s' ∧ FL [3329, 3334, 3335, 3336, 3392, 3456, 3520, 3584, 3276, 3648, 3712, 3776, 3840, 3904, 3968, 3277, 4032] s0 s' ∧ ∃ z, v = some (vi z) ∧ ((-1004) ≤ z ∧ z ≤ 127)) := by
  have f0 : FL [3329, 3334, 3335, 3336, 3392, 3456, 3520, 3584, 3276, 3648, 3712, 3776, 3840, 3904, 3968, 3277, 4032] s0 s0 := FL.rf
  show xe none 100 0 [(0, .ref 0), (1, vi a), (2, vi b)] [] s0 0 0 _
  refine x_A k100_0 (fun _ => rfl) ?_
  refine x_getR k100_1 (f := 2) rfl (q := 0) (n := 12) (kd := 3) ⟨by decide, rfl⟩ (q2 := 50) (by decide) rfl ?_
  refine x_A k100_4 (fun _ => rfl) ?_
  obtain ⟨z1, e_z1⟩ : ∃ z, z = s0 50 6 := ⟨_, rfl⟩
  have g_z1 : (0 : Int) ≤ s0 50 6 ∧ s0 50 6 ≤ 120 := hG0 50 6
  refine x_callV k100_5 (y := 24) (n := 1) (w0 := 0) (w1 := 1) (as := [vi a]) (rest := []) (by decide +kernel) (q := 50) (nq := 7) (kq := 6) ⟨by decide, rfl⟩ rfl rfl rfl rfl (xe_mono (C_X2_has_50 s0 hG0 a (by first | exact x_rb b_a rfl rfl | exact ⟨by omega, by omega⟩)) ?_)
  rintro s3 v ⟨h_s3, z2, rfl, hz_z2⟩
  rw [h_s3]
  rcases hz_z2 with ⟨c_z2, e_z2⟩ | ⟨c_z2, e_z2⟩
  · rw [e_z2]
    show xe none 100 8 [(0, .ref 0), (1, vi a), (2, vi b)] [vi 1] s0 0 0 _
    refine x_if_ne k100_8 (t := 15) rfl ⟨by decide, by decide⟩ (fun c4 => ?_) (fun c4 => by exfalso; omega)
    refine x_A k100_15 (fun _ => rfl) ?_
    refine x_A k100_16 (fun _ => rfl) ?_
    refine x_bipush k100_17 (by decide +kernel) ?_
    refine x_callS k100_19 (y := 121) (n := 3) (w0 := 0) (w1 := 3) (as := [vi b, vi 0, vi 6]) (rest := []) (by decide +kernel) rfl rfl rfl rfl (xe_mono (C_X10_isWithin s0 hG0 b (by first | exact x_rb b_b rfl rfl | exact ⟨by omega, by omega⟩) 0 ⟨by decide, by decide⟩ 6 ⟨by decide, by decide⟩) ?_)
    rintro s6 v ⟨h_s6, z5, rfl, hz_z5⟩
    rw [h_s6]
    rcases hz_z5 with ⟨c_z5, e_z5⟩ | ⟨c_z5, e_z5⟩
    · rw [e_z5]
      show xe none 100 22 [(0, .ref 0), (1, vi a), (2, vi b)] [vi 1] s0 0 0 _
      refine x_if_ne k100_22 (t := 29) rfl ⟨by decide, by decide⟩ (fun c7 => ?_) (fun c7 => by exfalso; omega)
      refine x_A k100_29 (fun _ => rfl) ?_
      have c8 : b = 0 ∨ b = 1 ∨ b = 2 ∨ b = 3 ∨ b = 4 ∨ b = 5 ∨ ¬ (0 ≤ b ∧ b ≤ 5) := by omega
      rcases c8 with c8 | c8 | c8 | c8 | c8 | c8 | c8
      · rw [c8]
        refine x_B k100_30 rfl (fun _ => rfl) (fun _ => rfl) (fun _ _ => rfl) ?_
        show xe none 100 68 [(0, .ref 0), (1, vi a), (2, vi 0)] [] s0 0 0 _
        refine x_A k100_68 (fun _ => rfl) ?_
        refine x_getR k100_69 (f := 2) rfl (q := 0) (n := 12) (kd := 3) ⟨by decide, rfl⟩ (q2 := 50) (by decide) rfl ?_
        refine x_getR k100_72 (f := 0) rfl (q := 50) (n := 7) (kd := 6) ⟨by decide, rfl⟩ (q2 := 51) (by decide) rfl ?_
        refine x_A k100_75 (fun _ => rfl) ?_
        refine x_iald k100_76 (q := 51) (n := 120) ⟨by decide, rfl⟩ (by decide) (by first | exact x_rbl b_a rfl rfl | exact ⟨by omega, by omega⟩) ?_
        refine x_top (fun z9 e_z9 => ?_)
        have g_z9 : (0 : Int) ≤ s0 51 a.toNat ∧ s0 51 a.toNat ≤ 39 := hG0 51 a.toNat
        exact x_iret k100_77 rfl ⟨hG0, f0, z9, rfl, (by first | exact x_rbe e_z9 g_z9 rfl rfl | exact x_rb g_z9 rfl rfl | exact ⟨by omega, by omega⟩)⟩
      · rw [c8]
        refine x_B k100_30 rfl (fun _ => rfl) (fun _ => rfl) (fun _ _ => rfl) ?_
        show xe none 100 78 [(0, .ref 0), (1, vi a), (2, vi 1)] [] s0 0 0 _
        refine x_A k100_78 (fun _ => rfl) ?_
        refine x_getR k100_79 (f := 2) rfl (q := 0) (n := 12) (kd := 3) ⟨by decide, rfl⟩ (q2 := 50) (by decide) rfl ?_
        refine x_getR k100_82 (f := 1) rfl (q := 50) (n := 7) (kd := 6) ⟨by decide, rfl⟩ (q2 := 52) (by decide) rfl ?_
        refine x_A k100_85 (fun _ => rfl) ?_
        refine x_iald k100_86 (q := 52) (n := 120) ⟨by decide, rfl⟩ (by decide) (by first | exact x_rbl b_a rfl rfl | exact ⟨by omega, by omega⟩) ?_
        refine x_top (fun z10 e_z10 => ?_)
        have g_z10 : (0 : Int) ≤ s0 52 a.toNat ∧ s0 52 a.toNat ≤ 39 := hG0 52 a.toNat
        exact x_iret k100_87 rfl ⟨hG0, f0, z10, rfl, (by first | exact x_rbe e_z10 g_z10 rfl rfl | exact x_rb g_z10 rfl rfl | exact ⟨by omega, by omega⟩)⟩
      · rw [c8]
        refine x_B k100_30 rfl (fun _ => rfl) (fun _ => rfl) (fun _ _ => rfl) ?_
        show xe none 100 88 [(0, .ref 0), (1, vi a), (2, vi 2)] [] s0 0 0 _
        refine x_A k100_88 (fun _ => rfl) ?_
        refine x_getR k100_89 (f := 2) rfl (q := 0) (n := 12) (kd := 3) ⟨by decide, rfl⟩ (q2 := 50) (by decide) rfl ?_
        refine x_getR k100_92 (f := 2) rfl (q := 50) (n := 7) (kd := 6) ⟨by decide, rfl⟩ (q2 := 53) (by decide) rfl ?_
        refine x_A k100_95 (fun _ => rfl) ?_
        refine x_iald k100_96 (q := 53) (n := 120) ⟨by decide, rfl⟩ (by decide) (by first | exact x_rbl b_a rfl rfl | exact ⟨by omega, by omega⟩) ?_
        refine x_top (fun z11 e_z11 => ?_)
        have g_z11 : (0 : Int) ≤ s0 53 a.toNat ∧ s0 53 a.toNat ≤ 7 := hG0 53 a.toNat
        exact x_iret k100_97 rfl ⟨hG0, f0, z11, rfl, (by first | exact x_rbe e_z11 g_z11 rfl rfl | exact x_rb g_z11 rfl rfl | exact ⟨by omega, by omega⟩)⟩
      · rw [c8]
        refine x_B k100_30 rfl (fun _ => rfl) (fun _ => rfl) (fun _ _ => rfl) ?_
        show xe none 100 98 [(0, .ref 0), (1, vi a), (2, vi 3)] [] s0 0 0 _
        refine x_A k100_98 (fun _ => rfl) ?_
        refine x_getR k100_99 (f := 2) rfl (q := 0) (n := 12) (kd := 3) ⟨by decide, rfl⟩ (q2 := 50) (by decide) rfl ?_
        refine x_getR k100_102 (f := 3) rfl (q := 50) (n := 7) (kd := 6) ⟨by decide, rfl⟩ (q2 := 54) (by decide) rfl ?_
        refine x_A k100_105 (fun _ => rfl) ?_
        refine x_iald k100_106 (q := 54) (n := 120) ⟨by decide, rfl⟩ (by decide) (by first | exact x_rbl b_a rfl rfl | exact ⟨by omega, by omega⟩) ?_
        refine x_top (fun z12 e_z12 => ?_)
        have g_z12 : (0 : Int) ≤ s0 54 a.toNat ∧ s0 54 a.toNat ≤ 63 := hG0 54 a.toNat
        exact x_iret k100_107 rfl ⟨hG0, f0, z12, rfl, (by first | exact x_rbe e_z12 g_z12 rfl rfl | exact x_rb g_z12 rfl rfl | exact ⟨by omega, by omega⟩)⟩
      · rw [c8]
        refine x_B k100_30 rfl (fun _ => rfl) (fun _ => rfl) (fun _ _ => rfl) ?_
        show xe none 100 108 [(0, .ref 0), (1, vi a), (2, vi 4)] [] s0 0 0 _
        refine x_A k100_108 (fun _ => rfl) ?_
        refine x_getR k100_109 (f := 2) rfl (q := 0) (n := 12) (kd := 3) ⟨by decide, rfl⟩ (q2 := 50) (by decide) rfl ?_
        refine x_getR k100_112 (f := 4) rfl (q := 50) (n := 7) (kd := 6) ⟨by decide, rfl⟩ (q2 := 55) (by decide) rfl ?_
        refine x_A k100_115 (fun _ => rfl) ?_
        refine x_iald k100_116 (q := 55) (n := 120) ⟨by decide, rfl⟩ (by decide) (by first | exact x_rbl b_a rfl rfl | exact ⟨by omega, by omega⟩) ?_
        refine x_top (fun z13 e_z13 => ?_)
        have g_z13 : (0 : Int) ≤ s0 55 a.toNat ∧ s0 55 a.toNat ≤ 9 := hG0 55 a.toNat
        exact x_iret k100_117 rfl ⟨hG0, f0, z13, rfl, (by first | exact x_rbe e_z13 g_z13 rfl rfl | exact x_rb g_z13 rfl rfl | exact ⟨by omega, by omega⟩)⟩
      · rw [c8]
        refine x_B k100_30 rfl (fun _ => rfl) (fun _ => rfl) (fun _ _ => rfl) ?_
        show xe none 100 118 [(0, .ref 0), (1, vi a), (2, vi 5)] [] s0 0 0 _
        refine x_A k100_118 (fun _ => rfl) ?_
        refine x_getR k100_119 (f := 9) rfl (q := 0) (n := 12) (kd := 3) ⟨by decide, rfl⟩ (q2 := 243) (by decide) rfl ?_
        refine x_callV k100_122 (y := 74) (n := 0) (w0 := 0) (w1 := 0) (as := []) (rest := []) (by decide +kernel) (q := 243) (nq := 13) (kq := 13) ⟨by decide, rfl⟩ rfl rfl rfl rfl (xe_mono (C_X8_judge_243 s0 hG0 (hJ0.fl f0 (by decide +kernel))) ?_)
        rintro s15 v ⟨hG_s15, t_s15, rfl⟩
        have f_s15 : FL [3329, 3334, 3335, 3336, 3392, 3456, 3520, 3584, 3276, 3648, 3712, 3776, 3840, 3904, 3968, 3277, 4032] s0 s15 := f0.tr t_s15 (by decide +kernel)
        have q16 : s15 50 6 = z1 := (t_s15 50 6 (show 711 ∉ [3329, 3334, 3335, 3336, 3392, 3456, 3520, 3584, 3276, 3648, 3712, 3776, 3840] from by decide +kernel)).trans e_z1.symm
        show xe none 100 125 [(0, .ref 0), (1, vi a), (2, vi 5)] [] s15 0 0 _
        refine x_A k100_125 (fun _ => rfl) ?_
        refine x_getR k100_126 (f := 9) rfl (q := 0) (n := 12) (kd := 3) ⟨by decide, rfl⟩ (q2 := 243) (by decide) rfl ?_
        refine x_getR k100_129 (f := 7) rfl (q := 243) (n := 13) (kd := 13) ⟨by decide, rfl⟩ (q2 := 252) (by decide) rfl ?_
        refine x_A k100_132 (fun _ => rfl) ?_
        refine x_iald k100_133 (q := 252) (n := 120) ⟨by decide, rfl⟩ (by decide) (by first | exact x_rbl b_a rfl rfl | exact ⟨by omega, by omega⟩) ?_
        refine x_top (fun z17 e_z17 => ?_)
        have g_z17 : (0 : Int) ≤ s15 252 a.toNat ∧ s15 252 a.toNat ≤ 4 := hG_s15 252 a.toNat
        exact x_iret k100_134 rfl ⟨hG_s15, f_s15, z17, rfl, (by first | exact x_rbe e_z17 g_z17 rfl rfl | exact x_rb g_z17 rfl rfl | exact ⟨by omega, by omega⟩)⟩
      · refine x_tabD k100_30 ⟨by omega, by omega⟩ c8 (t0 := 135) rfl ?_
        refine x_A k100_135 (fun _ => rfl) ?_
        refine x_getR k100_136 (f := 2) rfl (q := 0) (n := 12) (kd := 3) ⟨by decide, rfl⟩ (q2 := 50) (by decide) rfl ?_
        refine x_A k100_139 (fun _ => rfl) ?_
        refine x_A k100_140 (fun _ => rfl) ?_
        refine x_getI k100_141 (f := 10) rfl (q := 0) (n := 12) (kd := 3) ⟨by decide, rfl⟩ (by decide) rfl ?_
        refine x_top (fun z18 e_z18 => ?_)
        have g_z18 : (0 : Int) ≤ s0 0 10 ∧ s0 0 10 ≤ 9 := hG0 0 10
        refine x_callV k100_144 (y := 26) (n := 2) (w0 := 0) (w1 := 2) (as := [vi a, vi z18]) (rest := []) (by decide +kernel) (q := 50) (nq := 7) (kq := 6) ⟨by decide, rfl⟩ rfl rfl rfl rfl (xe_mono (C_X2_doubters_50 s0 hG0 a (by first | exact x_rb b_a rfl rfl | exact ⟨by omega, by omega⟩) z18 (by first | exact x_rbe e_z18 g_z18 rfl rfl | exact x_rb g_z18 rfl rfl | exact ⟨by omega, by omega⟩)) ?_)
        rintro s20 v ⟨-, t_s20, z19, rfl, g_z19⟩
        rw [t_s20.nil]
        show xe none 100 147 [(0, .ref 0), (1, vi a), (2, vi b)] [vi z19] s0 0 0 _
        exact x_iret k100_147 rfl ⟨hG0, f0, z19, rfl, (by first | exact x_rbe e_z19 g_z19 rfl rfl | exact x_rb g_z19 rfl rfl | exact ⟨by omega, by omega⟩)⟩
    · rw [e_z5]
      show xe none 100 22 [(0, .ref 0), (1, vi a), (2, vi b)] [vi 0] s0 0 0 _
      refine x_if_ne k100_22 (t := 29) rfl ⟨by decide, by decide⟩ (fun c21 => by exfalso; omega) (fun c21 => ?_)
      refine x_sipush k100_25 (by decide +kernel) ?_
      exact x_iret k100_28 rfl ⟨hG0, f0, (-1002), rfl, ⟨by decide, by decide⟩⟩
  · rw [e_z2]
    show xe none 100 8 [(0, .ref 0), (1, vi a), (2, vi b)] [vi 0] s0 0 0 _
    refine x_if_ne k100_8 (t := 15) rfl ⟨by decide, by decide⟩ (fun c22 => by exfalso; omega) (fun c22 => ?_)
    refine x_sipush k100_11 (by decide +kernel) ?_
    exact x_iret k100_14 rfl ⟨hG0, f0, (-1001), rfl, ⟨by decide, by decide⟩⟩
theorem C_X10_means_0 (s0 : xS) (hG0 : GI s0) (hJ0 : J s0) (a : Int) (b_a : (-2147483648) ≤ a ∧ a ≤ 2147483647) (b : Int) (b_b : (-2147483648) ≤ b ∧ b ≤ 2147483647) (d : Int) (b_d : (-2147483648) ≤ d ∧ d ≤ 2147483647) : xe none 101 0 (lv_args 0 [.ref 0, vi a, vi b, vi d]) [] s0 0 0 (fun s' v => GI s' ∧ FL [3329, 3334, 3335, 3336, 3392, 3456, 3520, 3584, 3276, 3648, 3712, 3776, 3840, 3904, 3968, 3277, 4032, 1921, 1926, 1927, 1928, 1984, 2048, 2112, 2176] s0 s' ∧ ∃ z, v = some (vi z) ∧ ((-1004) ≤ z ∧ z ≤ 127)) := by
  have f0 : FL [3329, 3334, 3335, 3336, 3392, 3456, 3520, 3584, 3276, 3648, 3712, 3776, 3840, 3904, 3968, 3277, 4032, 1921, 1926, 1927, 1928, 1984, 2048, 2112, 2176] s0 s0 := FL.rf
  show xe none 101 0 [(0, .ref 0), (1, vi a), (2, vi b), (3, vi d)] [] s0 0 0 _
  refine x_A k101_0 (fun _ => rfl) ?_
  refine x_getR k101_1 (f := 2) rfl (q := 0) (n := 12) (kd := 3) ⟨by decide, rfl⟩ (q2 := 50) (by decide) rfl ?_
  refine x_A k101_4 (fun _ => rfl) ?_
  obtain ⟨z1, e_z1⟩ : ∃ z, z = s0 50 6 := ⟨_, rfl⟩
  have g_z1 : (0 : Int) ≤ s0 50 6 ∧ s0 50 6 ≤ 120 := hG0 50 6
  refine x_callV k101_5 (y := 24) (n := 1) (w0 := 0) (w1 := 1) (as := [vi a]) (rest := []) (by decide +kernel) (q := 50) (nq := 7) (kq := 6) ⟨by decide, rfl⟩ rfl rfl rfl rfl (xe_mono (C_X2_has_50 s0 hG0 a (by first | exact x_rb b_a rfl rfl | exact ⟨by omega, by omega⟩)) ?_)
  rintro s3 v ⟨h_s3, z2, rfl, hz_z2⟩
  rw [h_s3]
  rcases hz_z2 with ⟨c_z2, e_z2⟩ | ⟨c_z2, e_z2⟩
  · rw [e_z2]
    show xe none 101 8 [(0, .ref 0), (1, vi a), (2, vi b), (3, vi d)] [vi 1] s0 0 0 _
    refine x_if_ne k101_8 (t := 15) rfl ⟨by decide, by decide⟩ (fun c4 => ?_) (fun c4 => by exfalso; omega)
    refine x_A k101_15 (fun _ => rfl) ?_
    refine x_A k101_16 (fun _ => rfl) ?_
    obtain ⟨z5, e_z5⟩ : ∃ z, z = s0 0 10 := ⟨_, rfl⟩
    have g_z5 : (0 : Int) ≤ s0 0 10 ∧ s0 0 10 ≤ 9 := hG0 0 10
    refine x_callV k101_17 (y := 125) (n := 1) (w0 := 0) (w1 := 1) (as := [vi b]) (rest := []) (by decide +kernel) (q := 0) (nq := 12) (kq := 3) ⟨by decide, rfl⟩ rfl rfl rfl rfl (xe_mono (C_X10_isKnownEdition_0 s0 hG0 b (by first | exact x_rb b_b rfl rfl | exact ⟨by omega, by omega⟩)) ?_)
    rintro s7 v ⟨h_s7, z6, rfl, hz_z6⟩
    rw [h_s7]
    rcases hz_z6 with ⟨c_z6, e_z6⟩ | ⟨c_z6, e_z6⟩
    · rw [e_z6]
      show xe none 101 20 [(0, .ref 0), (1, vi a), (2, vi b), (3, vi d)] [vi 1] s0 0 0 _
      refine x_if_eq k101_20 (t := 32) rfl ⟨by decide, by decide⟩ (fun c8 => by exfalso; omega) (fun c8 => ?_)
      refine x_A k101_23 (fun _ => rfl) ?_
      refine x_A k101_24 (fun _ => rfl) ?_
      refine x_A k101_25 (fun _ => rfl) ?_
      refine x_callS k101_26 (y := 121) (n := 3) (w0 := 0) (w1 := 3) (as := [vi d, vi 0, vi 2]) (rest := []) (by decide +kernel) rfl rfl rfl rfl (xe_mono (C_X10_isWithin s0 hG0 d (by first | exact x_rb b_d rfl rfl | exact ⟨by omega, by omega⟩) 0 ⟨by decide, by decide⟩ 2 ⟨by decide, by decide⟩) ?_)
      rintro s10 v ⟨h_s10, z9, rfl, hz_z9⟩
      rw [h_s10]
      rcases hz_z9 with ⟨c_z9, e_z9⟩ | ⟨c_z9, e_z9⟩
      · rw [e_z9]
        show xe none 101 29 [(0, .ref 0), (1, vi a), (2, vi b), (3, vi d)] [vi 1] s0 0 0 _
        refine x_if_ne k101_29 (t := 36) rfl ⟨by decide, by decide⟩ (fun c11 => ?_) (fun c11 => by exfalso; omega)
        refine x_A k101_36 (fun _ => rfl) ?_
        refine x_getR k101_37 (f := 2) rfl (q := 0) (n := 12) (kd := 3) ⟨by decide, rfl⟩ (q2 := 50) (by decide) rfl ?_
        refine x_getR k101_40 (f := 4) rfl (q := 50) (n := 7) (kd := 6) ⟨by decide, rfl⟩ (q2 := 55) (by decide) rfl ?_
        refine x_A k101_43 (fun _ => rfl) ?_
        refine x_iald k101_44 (q := 55) (n := 120) ⟨by decide, rfl⟩ (by decide) (by first | exact x_rbl b_a rfl rfl | exact ⟨by omega, by omega⟩) ?_
        refine x_top (fun z12 e_z12 => ?_)
        have g_z12 : (0 : Int) ≤ s0 55 a.toNat ∧ s0 55 a.toNat ≤ 9 := hG0 55 a.toNat
        refine x_A k101_45 (fun _ => rfl) ?_
        refine x_ic_le k101_46 (t := 53) rfl (by first | exact x_rbe e_z12 g_z12 rfl rfl | exact x_rb g_z12 rfl rfl | exact ⟨by omega, by omega⟩) (by first | exact x_rb b_b rfl rfl | exact ⟨by omega, by omega⟩) (fun c13 => ?_) (fun c13 => ?_)
        · skip
          refine x_A k101_53 (fun _ => rfl) ?_
          refine x_getR k101_54 (f := 9) rfl (q := 0) (n := 12) (kd := 3) ⟨by decide, rfl⟩ (q2 := 243) (by decide) rfl ?_
          refine x_A k101_57 (fun _ => rfl) ?_
          refine x_callV k101_58 (y := 76) (n := 1) (w0 := 0) (w1 := 1) (as := [vi b]) (rest := []) (by decide +kernel) (q := 243) (nq := 13) (kq := 13) ⟨by decide, rfl⟩ rfl rfl rfl rfl (xe_mono (C_X8_lookIn_243 s0 hG0 (hJ0.fl f0 (by decide +kernel)) b (by first | exact x_rb b_b rfl rfl | exact ⟨by omega, by omega⟩)) ?_)
          rintro s15 v ⟨hG_s15, t_s15, rfl⟩
          have f_s15 : FL [3329, 3334, 3335, 3336, 3392, 3456, 3520, 3584, 3276, 3648, 3712, 3776, 3840, 3904, 3968, 3277, 4032, 1921, 1926, 1927, 1928, 1984, 2048, 2112, 2176] s0 s15 := f0.tr t_s15 (by decide +kernel)
          have q16 : s15 50 6 = z1 := (t_s15 50 6 (show 711 ∉ [3329, 3334, 3335, 3336, 3392, 3456, 3520, 3584, 3276, 3648, 3712, 3776, 3840, 3904, 3968, 3277, 4032] from by decide +kernel)).trans e_z1.symm
          have q17 : s15 0 10 = z5 := (t_s15 0 10 (show 11 ∉ [3329, 3334, 3335, 3336, 3392, 3456, 3520, 3584, 3276, 3648, 3712, 3776, 3840, 3904, 3968, 3277, 4032] from by decide +kernel)).trans e_z5.symm
          have q18 : s15 55 a.toNat = z12 := (t_s15 55 a.toNat (show 1024 ∉ [3329, 3334, 3335, 3336, 3392, 3456, 3520, 3584, 3276, 3648, 3712, 3776, 3840, 3904, 3968, 3277, 4032] from by decide +kernel)).trans e_z12.symm
          show xe none 101 61 [(0, .ref 0), (1, vi a), (2, vi b), (3, vi d)] [] s15 0 0 _
          refine x_A k101_61 (fun _ => rfl) ?_
          have c19 : d = 0 ∨ d = 1 ∨ d = 2 := by omega
          rcases c19 with c19 | c19 | c19
          · rw [c19]
            refine x_B k101_62 rfl (fun _ => rfl) (fun _ => rfl) (fun _ _ => rfl) ?_
            show xe none 101 88 [(0, .ref 0), (1, vi a), (2, vi b), (3, vi 0)] [] s15 0 0 _
            refine x_A k101_88 (fun _ => rfl) ?_
            refine x_getR k101_89 (f := 9) rfl (q := 0) (n := 12) (kd := 3) ⟨by decide, rfl⟩ (q2 := 243) (by decide) rfl ?_
            refine x_getR k101_92 (f := 8) rfl (q := 243) (n := 13) (kd := 13) ⟨by decide, rfl⟩ (q2 := 253) (by decide) rfl ?_
            refine x_A k101_95 (fun _ => rfl) ?_
            refine x_iald k101_96 (q := 253) (n := 120) ⟨by decide, rfl⟩ (by decide) (by first | exact x_rbl b_a rfl rfl | exact ⟨by omega, by omega⟩) ?_
            refine x_top (fun z20 e_z20 => ?_)
            have g_z20 : (-1) ≤ s15 253 a.toNat ∧ s15 253 a.toNat ≤ 39 := hG_s15 253 a.toNat
            exact x_iret k101_97 rfl ⟨hG_s15, f_s15, z20, rfl, (by first | exact x_rbe e_z20 g_z20 rfl rfl | exact x_rb g_z20 rfl rfl | exact ⟨by omega, by omega⟩)⟩
          · rw [c19]
            refine x_B k101_62 rfl (fun _ => rfl) (fun _ => rfl) (fun _ _ => rfl) ?_
            show xe none 101 98 [(0, .ref 0), (1, vi a), (2, vi b), (3, vi 1)] [] s15 0 0 _
            refine x_A k101_98 (fun _ => rfl) ?_
            refine x_getR k101_99 (f := 9) rfl (q := 0) (n := 12) (kd := 3) ⟨by decide, rfl⟩ (q2 := 243) (by decide) rfl ?_
            refine x_getR k101_102 (f := 9) rfl (q := 243) (n := 13) (kd := 13) ⟨by decide, rfl⟩ (q2 := 254) (by decide) rfl ?_
            refine x_A k101_105 (fun _ => rfl) ?_
            refine x_bald k101_106 (q := 254) (n := 120) ⟨by decide, rfl⟩ (by decide) (by first | exact x_rbl b_a rfl rfl | exact ⟨by omega, by omega⟩) ?_
            refine x_top (fun z21 e_z21 => ?_)
            have g_z21 : (0 : Int) ≤ s15 254 a.toNat ∧ s15 254 a.toNat ≤ 1 := hG_s15 254 a.toNat
            refine x_callS k101_107 (y := 126) (n := 1) (w0 := 0) (w1 := 1) (as := [vi z21]) (rest := []) (by decide +kernel) rfl rfl rfl rfl (xe_mono (C_X10_oneIf s15 hG_s15 z21 (by first | exact x_rbe e_z21 g_z21 rfl rfl | exact x_rb g_z21 rfl rfl | exact ⟨by omega, by omega⟩)) ?_)
            rintro s23 v ⟨-, t_s23, z22, rfl, g_z22⟩
            rw [t_s23.nil]
            show xe none 101 110 [(0, .ref 0), (1, vi a), (2, vi b), (3, vi 1)] [vi z22] s15 0 0 _
            exact x_iret k101_110 rfl ⟨hG_s15, f_s15, z22, rfl, (by first | exact x_rbe e_z22 g_z22 rfl rfl | exact x_rb g_z22 rfl rfl | exact ⟨by omega, by omega⟩)⟩
          · rw [c19]
            refine x_B k101_62 rfl (fun _ => rfl) (fun _ => rfl) (fun _ _ => rfl) ?_
            show xe none 101 111 [(0, .ref 0), (1, vi a), (2, vi b), (3, vi 2)] [] s15 0 0 _
            refine x_A k101_111 (fun _ => rfl) ?_
            refine x_getR k101_112 (f := 5) rfl (q := 0) (n := 12) (kd := 3) ⟨by decide, rfl⟩ (q2 := 209) (by decide) rfl ?_
            refine x_A k101_115 (fun _ => rfl) ?_
            refine x_getR k101_116 (f := 4) rfl (q := 0) (n := 12) (kd := 3) ⟨by decide, rfl⟩ (q2 := 179) (by decide) rfl ?_
            refine x_A k101_119 (fun _ => rfl) ?_
            refine x_callV k101_120 (y := 16) (n := 2) (w0 := 0) (w1 := 2) (as := [.ref 179, vi b]) (rest := []) (by decide +kernel) (q := 209) (nq := 8) (kq := 9) ⟨by decide, rfl⟩ rfl rfl rfl rfl (xe_mono (C_X1_setTo_209_179 s15 hG_s15 (hJ0.fl f_s15 (by decide +kernel)) b (by first | exact x_rb b_b rfl rfl | exact ⟨by omega, by omega⟩)) ?_)
            rintro s25 v ⟨hG_s25, t_s25, rfl⟩
            have f_s25 : FL [3329, 3334, 3335, 3336, 3392, 3456, 3520, 3584, 3276, 3648, 3712, 3776, 3840, 3904, 3968, 3277, 4032, 1921, 1926, 1927, 1928, 1984, 2048, 2112, 2176] s0 s25 := f_s15.tr t_s25 (by decide +kernel)
            have q26 : s25 50 6 = z1 := (t_s25 50 6 (show 711 ∉ [1921, 1926, 1927, 1928, 1984, 2048, 2112, 2176] from by decide +kernel)).trans q16
            have q27 : s25 0 10 = z5 := (t_s25 0 10 (show 11 ∉ [1921, 1926, 1927, 1928, 1984, 2048, 2112, 2176] from by decide +kernel)).trans q17
            have q28 : s25 55 a.toNat = z12 := (t_s25 55 a.toNat (show 1024 ∉ [1921, 1926, 1927, 1928, 1984, 2048, 2112, 2176] from by decide +kernel)).trans q18
            show xe none 101 123 [(0, .ref 0), (1, vi a), (2, vi b), (3, vi 2)] [] s25 0 0 _
            refine x_A k101_123 (fun _ => rfl) ?_
            refine x_getR k101_124 (f := 9) rfl (q := 0) (n := 12) (kd := 3) ⟨by decide, rfl⟩ (q2 := 243) (by decide) rfl ?_
            refine x_A k101_127 (fun _ => rfl) ?_
            refine x_A k101_128 (fun _ => rfl) ?_
            refine x_getR k101_129 (f := 5) rfl (q := 0) (n := 12) (kd := 3) ⟨by decide, rfl⟩ (q2 := 209) (by decide) rfl ?_
            refine x_callV k101_132 (y := 83) (n := 2) (w0 := 0) (w1 := 2) (as := [vi a, .ref 209]) (rest := []) (by decide +kernel) (q := 243) (nq := 13) (kq := 13) ⟨by decide, rfl⟩ rfl rfl rfl rfl (xe_mono (C_X8_isLacking_243_209 s25 hG_s25 a (by first | exact x_rb b_a rfl rfl | exact ⟨by omega, by omega⟩)) ?_)
            rintro s30 v ⟨-, t_s30, z29, rfl, g_z29⟩
            rw [t_s30.nil]
            show xe none 101 135 [(0, .ref 0), (1, vi a), (2, vi b), (3, vi 2)] [vi z29] s25 0 0 _
            refine x_callS k101_135 (y := 126) (n := 1) (w0 := 0) (w1 := 1) (as := [vi z29]) (rest := []) (by decide +kernel) rfl rfl rfl rfl (xe_mono (C_X10_oneIf s25 hG_s25 z29 (by first | exact x_rbe e_z29 g_z29 rfl rfl | exact x_rb g_z29 rfl rfl | exact ⟨by omega, by omega⟩)) ?_)
            rintro s32 v ⟨-, t_s32, z31, rfl, g_z31⟩
            rw [t_s32.nil]
            show xe none 101 138 [(0, .ref 0), (1, vi a), (2, vi b), (3, vi 2)] [vi z31] s25 0 0 _
            exact x_iret k101_138 rfl ⟨hG_s25, f_s25, z31, rfl, (by first | exact x_rbe e_z31 g_z31 rfl rfl | exact x_rb g_z31 rfl rfl | exact ⟨by omega, by omega⟩)⟩
        · skip
          refine x_sipush k101_49 (by decide +kernel) ?_
          exact x_iret k101_52 rfl ⟨hG0, f0, (-1003), rfl, ⟨by decide, by decide⟩⟩
      · rw [e_z9]
        show xe none 101 29 [(0, .ref 0), (1, vi a), (2, vi b), (3, vi d)] [vi 0] s0 0 0 _
        refine x_if_ne k101_29 (t := 36) rfl ⟨by decide, by decide⟩ (fun c33 => by exfalso; omega) (fun c33 => ?_)
        refine x_sipush k101_32 (by decide +kernel) ?_
        exact x_iret k101_35 rfl ⟨hG0, f0, (-1002), rfl, ⟨by decide, by decide⟩⟩
    · rw [e_z6]
      show xe none 101 20 [(0, .ref 0), (1, vi a), (2, vi b), (3, vi d)] [vi 0] s0 0 0 _
      refine x_if_eq k101_20 (t := 32) rfl ⟨by decide, by decide⟩ (fun c34 => ?_) (fun c34 => by exfalso; omega)
      refine x_sipush k101_32 (by decide +kernel) ?_
      exact x_iret k101_35 rfl ⟨hG0, f0, (-1002), rfl, ⟨by decide, by decide⟩⟩
  · rw [e_z2]
    show xe none 101 8 [(0, .ref 0), (1, vi a), (2, vi b), (3, vi d)] [vi 0] s0 0 0 _
    refine x_if_ne k101_8 (t := 15) rfl ⟨by decide, by decide⟩ (fun c35 => by exfalso; omega) (fun c35 => ?_)
    refine x_sipush k101_11 (by decide +kernel) ?_
    exact x_iret k101_14 rfl ⟨hG0, f0, (-1001), rfl, ⟨by decide, by decide⟩⟩
theorem L_C_X10_led_0_49 (s0 : xS) (hJ0 : J s0)  : ∀ (n : Nat) (s : xS) (x1 : Int) (x2 : Int) (x3 : Int) (x4 : Int) (hG : GI s) (f : FL [3329, 3334, 3335, 3336, 3392, 3456, 3520, 3584, 3276, 3648, 3712, 3776, 3840, 3904, 3968, 3277, 4032] s0 s) (b_x1 : 0 ≤ x1 ∧ x1 ≤ 39) (b_x2 : 0 ≤ x2 ∧ x2 ≤ 39) (b_x3 : 0 ≤ x3 ∧ x3 ≤ 9) (b_x4 : 0 ≤ x4 ∧ x4 ≤ 120)  (hm : (120 - x4) < (n : Int)), xe none 102 49 [(0, .ref 0), (1, vi x1), (2, vi x2), (3, vi x3), (4, vi x4)] [] s 0 0 (fun s' v => GI s' ∧ FL [3329, 3334, 3335, 3336, 3392, 3456, 3520, 3584, 3276, 3648, 3712, 3776, 3840, 3904, 3968, 3277, 4032] s0 s' ∧ ∃ z, v = some (vi z) ∧ ((-1004) ≤ z ∧ z ≤ 127)) := by
  intro n
  induction n with
  | zero => intro s x1 x2 x3 x4 hG f b_x1 b_x2 b_x3 b_x4  hm; exfalso; omega
  | succ n ih =>
    intro s x1 x2 x3 x4 hG f b_x1 b_x2 b_x3 b_x4  hm
    refine x_A k102_49 (fun _ => rfl) ?_
    refine x_A k102_51 (fun _ => rfl) ?_
    refine x_getR k102_52 (f := 2) rfl (q := 0) (n := 12) (kd := 3) ⟨by decide, rfl⟩ (q2 := 50) (by decide) rfl ?_
    refine x_getI k102_55 (f := 6) rfl (q := 50) (n := 7) (kd := 6) ⟨by decide, rfl⟩ (by decide) rfl ?_
    refine x_top (fun z521 e_z521 => ?_)
    have g_z521 : (0 : Int) ≤ s 50 6 ∧ s 50 6 ≤ 120 := hG 50 6
    refine x_ic_ge k102_58 (t := 97) rfl (by first | exact x_rb b_x4 rfl rfl | exact ⟨by omega, by omega⟩) (by first | exact x_rbe e_z521 g_z521 rfl rfl | exact x_rb g_z521 rfl rfl | exact ⟨by omega, by omega⟩) (fun c522 => ?_) (fun c522 => ?_)
    · skip
      refine x_A k102_97 (fun _ => rfl) ?_
      exact x_iret k102_98 rfl ⟨hG, f, (-1), rfl, ⟨by decide, by decide⟩⟩
    · skip
      refine x_A k102_61 (fun _ => rfl) ?_
      refine x_getR k102_62 (f := 2) rfl (q := 0) (n := 12) (kd := 3) ⟨by decide, rfl⟩ (q2 := 50) (by decide) rfl ?_
      refine x_getR k102_65 (f := 0) rfl (q := 50) (n := 7) (kd := 6) ⟨by decide, rfl⟩ (q2 := 51) (by decide) rfl ?_
      refine x_A k102_68 (fun _ => rfl) ?_
      refine x_iald k102_70 (q := 51) (n := 120) ⟨by decide, rfl⟩ (by decide) (by first | exact x_rbl b_x4 rfl rfl | exact ⟨by omega, by omega⟩) ?_
      refine x_top (fun z523 e_z523 => ?_)
      have g_z523 : (0 : Int) ≤ s 51 x4.toNat ∧ s 51 x4.toNat ≤ 39 := hG 51 x4.toNat
      refine x_A k102_71 (fun _ => rfl) ?_
      refine x_ic_ne k102_72 (t := 91) rfl (by first | exact x_rbe e_z523 g_z523 rfl rfl | exact x_rb g_z523 rfl rfl | exact ⟨by omega, by omega⟩) (by first | exact x_rb b_x1 rfl rfl | exact ⟨by omega, by omega⟩) (fun c524 => ?_) (fun c524 => ?_)
      · skip
        refine x_iinc k102_91 (ls' := [(4, vi (x4 + 1)), (0, .ref 0), (1, vi x1), (2, vi x2), (3, vi x3)]) rfl (by decide) rfl ?_
        refine x_goto k102_94 (t := 49) rfl ?_
        refine x_ls (l := [(0, .ref 0), (1, vi x1), (2, vi x2), (3, vi x3), (4, vi (x4 + 1))]) (show ([0, 1, 2, 3, 4] : List Nat).Nodup from by decide +kernel) ⟨rfl, rfl, rfl, rfl, rfl, trivial⟩ ?_
        exact ih s x1 x2 x3 (x4 + 1) hG f (by first | exact x_rb b_x1 rfl rfl | exact ⟨by omega, by omega⟩) (by first | exact x_rb b_x2 rfl rfl | exact ⟨by omega, by omega⟩) (by first | exact x_rb b_x3 rfl rfl | exact ⟨by omega, by omega⟩) ⟨by omega, by omega⟩  (by omega)
      · skip
        refine x_A k102_75 (fun _ => rfl) ?_
        refine x_getR k102_76 (f := 9) rfl (q := 0) (n := 12) (kd := 3) ⟨by decide, rfl⟩ (q2 := 243) (by decide) rfl ?_
        refine x_A k102_79 (fun _ => rfl) ?_
        refine x_A k102_81 (fun _ => rfl) ?_
        refine x_callV k102_82 (y := 81) (n := 2) (w0 := 0) (w1 := 2) (as := [vi x4, vi x2]) (rest := []) (by decide +kernel) (q := 243) (nq := 13) (kq := 13) ⟨by decide, rfl⟩ rfl rfl rfl rfl (xe_mono (C_X8_meansBelow_243 s hG x4 (by first | exact x_rb b_x4 rfl rfl | exact ⟨by omega, by omega⟩) x2 (by first | exact x_rb b_x2 rfl rfl | exact ⟨by omega, by omega⟩)) ?_)
        rintro s526 v ⟨-, t_s526, z525, rfl, g_z525⟩
        rw [t_s526.nil]
        show xe none 102 85 [(0, .ref 0), (1, vi x1), (2, vi x2), (3, vi x3), (4, vi x4)] [vi z525] s 0 0 _
        refine x_if_eq k102_85 (t := 91) rfl (by first | exact x_rbe e_z525 g_z525 rfl rfl | exact x_rb g_z525 rfl rfl | exact ⟨by omega, by omega⟩) (fun c527 => ?_) (fun c527 => ?_)
        · skip
          refine x_iinc k102_91 (ls' := [(4, vi (x4 + 1)), (0, .ref 0), (1, vi x1), (2, vi x2), (3, vi x3)]) rfl (by decide) rfl ?_
          refine x_goto k102_94 (t := 49) rfl ?_
          refine x_ls (l := [(0, .ref 0), (1, vi x1), (2, vi x2), (3, vi x3), (4, vi (x4 + 1))]) (show ([0, 1, 2, 3, 4] : List Nat).Nodup from by decide +kernel) ⟨rfl, rfl, rfl, rfl, rfl, trivial⟩ ?_
          exact ih s x1 x2 x3 (x4 + 1) hG f (by first | exact x_rb b_x1 rfl rfl | exact ⟨by omega, by omega⟩) (by first | exact x_rb b_x2 rfl rfl | exact ⟨by omega, by omega⟩) (by first | exact x_rb b_x3 rfl rfl | exact ⟨by omega, by omega⟩) ⟨by omega, by omega⟩  (by omega)
        · skip
          refine x_A k102_88 (fun _ => rfl) ?_
          exact x_iret k102_90 rfl ⟨hG, f, x4, rfl, (by first | exact x_rb b_x4 rfl rfl | exact ⟨by omega, by omega⟩)⟩
theorem C_X10_led_0 (s0 : xS) (hG0 : GI s0) (hJ0 : J s0) (a : Int) (b_a : (-2147483648) ≤ a ∧ a ≤ 2147483647) (b : Int) (b_b : (-2147483648) ≤ b ∧ b ≤ 2147483647) (d : Int) (b_d : (-2147483648) ≤ d ∧ d ≤ 2147483647) : xe none 102 0 (lv_args 0 [.ref 0, vi a, vi b, vi d]) [] s0 0 0 (fun s' v => GI s' ∧ FL [3329, 3334, 3335, 3336, 3392, 3456, 3520, 3584, 3276, 3648, 3712, 3776, 3840, 3904, 3968, 3277, 4032] s0 s' ∧ ∃ z, v = some (vi z) ∧ ((-1004) ≤ z ∧ z ≤ 127)) := by
  have f0 : FL [3329, 3334, 3335, 3336, 3392, 3456, 3520, 3584, 3276, 3648, 3712, 3776, 3840, 3904, 3968, 3277, 4032] s0 s0 := FL.rf
  show xe none 102 0 [(0, .ref 0), (1, vi a), (2, vi b), (3, vi d)] [] s0 0 0 _
  refine x_A k102_0 (fun _ => rfl) ?_
  refine x_getR k102_1 (f := 1) rfl (q := 0) (n := 12) (kd := 3) ⟨by decide, rfl⟩ (q2 := 46) (by decide) rfl ?_
  refine x_A k102_4 (fun _ => rfl) ?_
  obtain ⟨z528, e_z528⟩ : ∃ z, z = s0 46 3 := ⟨_, rfl⟩
  have g_z528 : (0 : Int) ≤ s0 46 3 ∧ s0 46 3 ≤ 40 := hG0 46 3
  refine x_callV k102_5 (y := 29) (n := 1) (w0 := 0) (w1 := 1) (as := [vi a]) (rest := []) (by decide +kernel) (q := 46) (nq := 4) (kq := 5) ⟨by decide, rfl⟩ rfl rfl rfl rfl (xe_mono (C_X3_has_46 s0 hG0 a (by first | exact x_rb b_a rfl rfl | exact ⟨by omega, by omega⟩)) ?_)
  rintro s530 v ⟨h_s530, z529, rfl, hz_z529⟩
  rw [h_s530]
  rcases hz_z529 with ⟨c_z529, e_z529⟩ | ⟨c_z529, e_z529⟩
  · rw [e_z529]
    show xe none 102 8 [(0, .ref 0), (1, vi a), (2, vi b), (3, vi d)] [vi 1] s0 0 0 _
    refine x_if_eq k102_8 (t := 22) rfl ⟨by decide, by decide⟩ (fun c531 => by exfalso; omega) (fun c531 => ?_)
    refine x_A k102_11 (fun _ => rfl) ?_
    refine x_getR k102_12 (f := 0) rfl (q := 0) (n := 12) (kd := 3) ⟨by decide, rfl⟩ (q2 := 1) (by decide) rfl ?_
    refine x_A k102_15 (fun _ => rfl) ?_
    obtain ⟨z532, e_z532⟩ : ∃ z, z = s0 1 4 := ⟨_, rfl⟩
    have g_z532 : (1 : Int) ≤ s0 1 4 ∧ s0 1 4 ≤ 40 := hG0 1 4
    refine x_callV k102_16 (y := 59) (n := 1) (w0 := 0) (w1 := 1) (as := [vi b]) (rest := []) (by decide +kernel) (q := 1) (nq := 5) (kq := 4) ⟨by decide, rfl⟩ rfl rfl rfl rfl (xe_mono (C_X7_has_1 s0 hG0 b (by first | exact x_rb b_b rfl rfl | exact ⟨by omega, by omega⟩)) ?_)
    rintro s534 v ⟨h_s534, z533, rfl, hz_z533⟩
    rw [h_s534]
    rcases hz_z533 with ⟨c_z533, e_z533⟩ | ⟨c_z533, e_z533⟩
    · rw [e_z533]
      show xe none 102 19 [(0, .ref 0), (1, vi a), (2, vi b), (3, vi d)] [vi 1] s0 0 0 _
      refine x_if_ne k102_19 (t := 26) rfl ⟨by decide, by decide⟩ (fun c535 => ?_) (fun c535 => by exfalso; omega)
      refine x_A k102_26 (fun _ => rfl) ?_
      refine x_A k102_27 (fun _ => rfl) ?_
      obtain ⟨z536, e_z536⟩ : ∃ z, z = s0 0 10 := ⟨_, rfl⟩
      have g_z536 : (0 : Int) ≤ s0 0 10 ∧ s0 0 10 ≤ 9 := hG0 0 10
      refine x_callV k102_28 (y := 125) (n := 1) (w0 := 0) (w1 := 1) (as := [vi d]) (rest := []) (by decide +kernel) (q := 0) (nq := 12) (kq := 3) ⟨by decide, rfl⟩ rfl rfl rfl rfl (xe_mono (C_X10_isKnownEdition_0 s0 hG0 d (by first | exact x_rb b_d rfl rfl | exact ⟨by omega, by omega⟩)) ?_)
      rintro s538 v ⟨h_s538, z537, rfl, hz_z537⟩
      rw [h_s538]
      rcases hz_z537 with ⟨c_z537, e_z537⟩ | ⟨c_z537, e_z537⟩
      · rw [e_z537]
        show xe none 102 31 [(0, .ref 0), (1, vi a), (2, vi b), (3, vi d)] [vi 1] s0 0 0 _
        refine x_if_ne k102_31 (t := 38) rfl ⟨by decide, by decide⟩ (fun c539 => ?_) (fun c539 => by exfalso; omega)
        refine x_A k102_38 (fun _ => rfl) ?_
        refine x_getR k102_39 (f := 9) rfl (q := 0) (n := 12) (kd := 3) ⟨by decide, rfl⟩ (q2 := 243) (by decide) rfl ?_
        refine x_A k102_42 (fun _ => rfl) ?_
        refine x_callV k102_43 (y := 76) (n := 1) (w0 := 0) (w1 := 1) (as := [vi d]) (rest := []) (by decide +kernel) (q := 243) (nq := 13) (kq := 13) ⟨by decide, rfl⟩ rfl rfl rfl rfl (xe_mono (C_X8_lookIn_243 s0 hG0 (hJ0.fl f0 (by decide +kernel)) d (by first | exact x_rb b_d rfl rfl | exact ⟨by omega, by omega⟩)) ?_)
        rintro s541 v ⟨hG_s541, t_s541, rfl⟩
        have f_s541 : FL [3329, 3334, 3335, 3336, 3392, 3456, 3520, 3584, 3276, 3648, 3712, 3776, 3840, 3904, 3968, 3277, 4032] s0 s541 := f0.tr t_s541 (by decide +kernel)
        have q542 : s541 46 3 = z528 := (t_s541 46 3 (show 452 ∉ [3329, 3334, 3335, 3336, 3392, 3456, 3520, 3584, 3276, 3648, 3712, 3776, 3840, 3904, 3968, 3277, 4032] from by decide +kernel)).trans e_z528.symm
        have q543 : s541 1 4 = z532 := (t_s541 1 4 (show 69 ∉ [3329, 3334, 3335, 3336, 3392, 3456, 3520, 3584, 3276, 3648, 3712, 3776, 3840, 3904, 3968, 3277, 4032] from by decide +kernel)).trans e_z532.symm
        have q544 : s541 0 10 = z536 := (t_s541 0 10 (show 11 ∉ [3329, 3334, 3335, 3336, 3392, 3456, 3520, 3584, 3276, 3648, 3712, 3776, 3840, 3904, 3968, 3277, 4032] from by decide +kernel)).trans e_z536.symm
        show xe none 102 46 [(0, .ref 0), (1, vi a), (2, vi b), (3, vi d)] [] s541 0 0 _
        refine x_A k102_46 (fun _ => rfl) ?_
        refine x_istore k102_47 (ls' := [(4, vi 0), (0, .ref 0), (1, vi a), (2, vi b), (3, vi d)]) (by decide) rfl ?_
        refine x_ls (l := [(0, .ref 0), (1, vi a), (2, vi b), (3, vi d), (4, vi 0)]) (show ([0, 1, 2, 3, 4] : List Nat).Nodup from by decide +kernel) ⟨rfl, rfl, rfl, rfl, rfl, trivial⟩ ?_
        exact L_C_X10_led_0_49 s0 hJ0  (((120 - 0) + 1 : Int)).toNat s541 a b d 0 hG_s541 f_s541 (by first | exact x_rb b_a rfl rfl | exact ⟨by omega, by omega⟩) (by first | exact x_rb b_b rfl rfl | exact ⟨by omega, by omega⟩) (by first | exact x_rb b_d rfl rfl | exact ⟨by omega, by omega⟩) ⟨by decide, by decide⟩  (by omega)
      · rw [e_z537]
        show xe none 102 31 [(0, .ref 0), (1, vi a), (2, vi b), (3, vi d)] [vi 0] s0 0 0 _
        refine x_if_ne k102_31 (t := 38) rfl ⟨by decide, by decide⟩ (fun c545 => by exfalso; omega) (fun c545 => ?_)
        refine x_sipush k102_34 (by decide +kernel) ?_
        exact x_iret k102_37 rfl ⟨hG0, f0, (-1002), rfl, ⟨by decide, by decide⟩⟩
    · rw [e_z533]
      show xe none 102 19 [(0, .ref 0), (1, vi a), (2, vi b), (3, vi d)] [vi 0] s0 0 0 _
      refine x_if_ne k102_19 (t := 26) rfl ⟨by decide, by decide⟩ (fun c546 => by exfalso; omega) (fun c546 => ?_)
      refine x_sipush k102_22 (by decide +kernel) ?_
      exact x_iret k102_25 rfl ⟨hG0, f0, (-1001), rfl, ⟨by decide, by decide⟩⟩
  · rw [e_z529]
    show xe none 102 8 [(0, .ref 0), (1, vi a), (2, vi b), (3, vi d)] [vi 0] s0 0 0 _
    refine x_if_eq k102_8 (t := 22) rfl ⟨by decide, by decide⟩ (fun c547 => ?_) (fun c547 => by exfalso; omega)
    refine x_sipush k102_22 (by decide +kernel) ?_
    exact x_iret k102_25 rfl ⟨hG0, f0, (-1001), rfl, ⟨by decide, by decide⟩⟩
theorem C_X10_count_0 (s0 : xS) (hG0 : GI s0) (hJ0 : J s0) (a : Int) (b_a : (-2147483648) ≤ a ∧ a ≤ 2147483647) : xe none 103 0 (lv_args 0 [.ref 0, vi a]) [] s0 0 0 (fun s' v => GI s' ∧ FL [3329, 3334, 3335, 3336, 3392, 3456, 3520, 3584, 3276, 3648, 3712, 3776, 3840, 3904, 3968, 3277, 4032, 1921, 1926, 1927, 1928, 1984, 2048, 2112, 2176] s0 s' ∧ ∃ z, v = some (vi z) ∧ ((-1004) ≤ z ∧ z ≤ 160)) := by
  have f0 : FL [3329, 3334, 3335, 3336, 3392, 3456, 3520, 3584, 3276, 3648, 3712, 3776, 3840, 3904, 3968, 3277, 4032, 1921, 1926, 1927, 1928, 1984, 2048, 2112, 2176] s0 s0 := FL.rf
  show xe none 103 0 [(0, .ref 0), (1, vi a)] [] s0 0 0 _
  refine x_A k103_0 (fun _ => rfl) ?_
  refine x_A k103_1 (fun _ => rfl) ?_
  refine x_bipush k103_2 (by decide +kernel) ?_
  refine x_callS k103_4 (y := 121) (n := 3) (w0 := 0) (w1 := 3) (as := [vi a, vi 0, vi 12]) (rest := []) (by decide +kernel) rfl rfl rfl rfl (xe_mono (C_X10_isWithin s0 hG0 a (by first | exact x_rb b_a rfl rfl | exact ⟨by omega, by omega⟩) 0 ⟨by decide, by decide⟩ 12 ⟨by decide, by decide⟩) ?_)
  rintro s2 v ⟨h_s2, z1, rfl, hz_z1⟩
  rw [h_s2]
  rcases hz_z1 with ⟨c_z1, e_z1⟩ | ⟨c_z1, e_z1⟩
  · rw [e_z1]
    show xe none 103 7 [(0, .ref 0), (1, vi a)] [vi 1] s0 0 0 _
    refine x_if_ne k103_7 (t := 14) rfl ⟨by decide, by decide⟩ (fun c3 => ?_) (fun c3 => by exfalso; omega)
    refine x_A k103_14 (fun _ => rfl) ?_
    have c4 : a = 0 ∨ a = 1 ∨ a = 2 ∨ a = 3 ∨ a = 4 ∨ a = 5 ∨ a = 6 ∨ a = 7 ∨ a = 8 ∨ a = 9 ∨ a = 10 ∨ a = 11 ∨ ¬ (0 ≤ a ∧ a ≤ 11) := by omega
    rcases c4 with c4 | c4 | c4 | c4 | c4 | c4 | c4 | c4 | c4 | c4 | c4 | c4 | c4
    · rw [c4]
      refine x_B k103_15 rfl (fun _ => rfl) (fun _ => rfl) (fun _ _ => rfl) ?_
      show xe none 103 76 [(0, .ref 0), (1, vi 0)] [] s0 0 0 _
      refine x_A k103_76 (fun _ => rfl) ?_
      refine x_getI k103_77 (f := 10) rfl (q := 0) (n := 12) (kd := 3) ⟨by decide, rfl⟩ (by decide) rfl ?_
      refine x_top (fun z5 e_z5 => ?_)
      have g_z5 : (0 : Int) ≤ s0 0 10 ∧ s0 0 10 ≤ 9 := hG0 0 10
      exact x_iret k103_80 rfl ⟨hG0, f0, z5, rfl, (by first | exact x_rbe e_z5 g_z5 rfl rfl | exact x_rb g_z5 rfl rfl | exact ⟨by omega, by omega⟩)⟩
    · rw [c4]
      refine x_B k103_15 rfl (fun _ => rfl) (fun _ => rfl) (fun _ _ => rfl) ?_
      show xe none 103 81 [(0, .ref 0), (1, vi 1)] [] s0 0 0 _
      refine x_A k103_81 (fun _ => rfl) ?_
      refine x_getR k103_82 (f := 0) rfl (q := 0) (n := 12) (kd := 3) ⟨by decide, rfl⟩ (q2 := 1) (by decide) rfl ?_
      refine x_getI k103_85 (f := 4) rfl (q := 1) (n := 5) (kd := 4) ⟨by decide, rfl⟩ (by decide) rfl ?_
      refine x_top (fun z6 e_z6 => ?_)
      have g_z6 : (1 : Int) ≤ s0 1 4 ∧ s0 1 4 ≤ 40 := hG0 1 4
      exact x_iret k103_88 rfl ⟨hG0, f0, z6, rfl, (by first | exact x_rbe e_z6 g_z6 rfl rfl | exact x_rb g_z6 rfl rfl | exact ⟨by omega, by omega⟩)⟩
    · rw [c4]
      refine x_B k103_15 rfl (fun _ => rfl) (fun _ => rfl) (fun _ _ => rfl) ?_
      show xe none 103 89 [(0, .ref 0), (1, vi 2)] [] s0 0 0 _
      refine x_A k103_89 (fun _ => rfl) ?_
      refine x_getR k103_90 (f := 0) rfl (q := 0) (n := 12) (kd := 3) ⟨by decide, rfl⟩ (q2 := 1) (by decide) rfl ?_
      refine x_A k103_93 (fun _ => rfl) ?_
      refine x_getI k103_94 (f := 10) rfl (q := 0) (n := 12) (kd := 3) ⟨by decide, rfl⟩ (by decide) rfl ?_
      refine x_top (fun z7 e_z7 => ?_)
      have g_z7 : (0 : Int) ≤ s0 0 10 ∧ s0 0 10 ≤ 9 := hG0 0 10
      refine x_callV k103_97 (y := 68) (n := 1) (w0 := 0) (w1 := 1) (as := [vi z7]) (rest := []) (by decide +kernel) (q := 1) (nq := 5) (kq := 4) ⟨by decide, rfl⟩ rfl rfl rfl rfl (xe_mono (C_X7_countThere_1 s0 hG0 z7 (by first | exact x_rbe e_z7 g_z7 rfl rfl | exact x_rb g_z7 rfl rfl | exact ⟨by omega, by omega⟩)) ?_)
      rintro s9 v ⟨-, t_s9, z8, rfl, g_z8⟩
      rw [t_s9.nil]
      show xe none 103 100 [(0, .ref 0), (1, vi 2)] [vi z8] s0 0 0 _
      exact x_iret k103_100 rfl ⟨hG0, f0, z8, rfl, (by first | exact x_rbe e_z8 g_z8 rfl rfl | exact x_rb g_z8 rfl rfl | exact ⟨by omega, by omega⟩)⟩
    · rw [c4]
      refine x_B k103_15 rfl (fun _ => rfl) (fun _ => rfl) (fun _ _ => rfl) ?_
      show xe none 103 101 [(0, .ref 0), (1, vi 3)] [] s0 0 0 _
      refine x_A k103_101 (fun _ => rfl) ?_
      refine x_getR k103_102 (f := 1) rfl (q := 0) (n := 12) (kd := 3) ⟨by decide, rfl⟩ (q2 := 46) (by decide) rfl ?_
      refine x_getI k103_105 (f := 3) rfl (q := 46) (n := 4) (kd := 5) ⟨by decide, rfl⟩ (by decide) rfl ?_
      refine x_top (fun z10 e_z10 => ?_)
      have g_z10 : (0 : Int) ≤ s0 46 3 ∧ s0 46 3 ≤ 40 := hG0 46 3
      exact x_iret k103_108 rfl ⟨hG0, f0, z10, rfl, (by first | exact x_rbe e_z10 g_z10 rfl rfl | exact x_rb g_z10 rfl rfl | exact ⟨by omega, by omega⟩)⟩
    · rw [c4]
      refine x_B k103_15 rfl (fun _ => rfl) (fun _ => rfl) (fun _ _ => rfl) ?_
      show xe none 103 109 [(0, .ref 0), (1, vi 4)] [] s0 0 0 _
      refine x_A k103_109 (fun _ => rfl) ?_
      refine x_getR k103_110 (f := 2) rfl (q := 0) (n := 12) (kd := 3) ⟨by decide, rfl⟩ (q2 := 50) (by decide) rfl ?_
      refine x_getI k103_113 (f := 6) rfl (q := 50) (n := 7) (kd := 6) ⟨by decide, rfl⟩ (by decide) rfl ?_
      refine x_top (fun z11 e_z11 => ?_)
      have g_z11 : (0 : Int) ≤ s0 50 6 ∧ s0 50 6 ≤ 120 := hG0 50 6
      exact x_iret k103_116 rfl ⟨hG0, f0, z11, rfl, (by first | exact x_rbe e_z11 g_z11 rfl rfl | exact x_rb g_z11 rfl rfl | exact ⟨by omega, by omega⟩)⟩
    · rw [c4]
      refine x_B k103_15 rfl (fun _ => rfl) (fun _ => rfl) (fun _ _ => rfl) ?_
      show xe none 103 117 [(0, .ref 0), (1, vi 5)] [] s0 0 0 _
      refine x_A k103_117 (fun _ => rfl) ?_
      refine x_getR k103_118 (f := 9) rfl (q := 0) (n := 12) (kd := 3) ⟨by decide, rfl⟩ (q2 := 243) (by decide) rfl ?_
      refine x_callV k103_121 (y := 74) (n := 0) (w0 := 0) (w1 := 0) (as := []) (rest := []) (by decide +kernel) (q := 243) (nq := 13) (kq := 13) ⟨by decide, rfl⟩ rfl rfl rfl rfl (xe_mono (C_X8_judge_243 s0 hG0 (hJ0.fl f0 (by decide +kernel))) ?_)
      rintro s13 v ⟨hG_s13, t_s13, rfl⟩
      have f_s13 : FL [3329, 3334, 3335, 3336, 3392, 3456, 3520, 3584, 3276, 3648, 3712, 3776, 3840, 3904, 3968, 3277, 4032, 1921, 1926, 1927, 1928, 1984, 2048, 2112, 2176] s0 s13 := f0.tr t_s13 (by decide +kernel)
      show xe none 103 124 [(0, .ref 0), (1, vi 5)] [] s13 0 0 _
      refine x_A k103_124 (fun _ => rfl) ?_
      refine x_getR k103_125 (f := 9) rfl (q := 0) (n := 12) (kd := 3) ⟨by decide, rfl⟩ (q2 := 243) (by decide) rfl ?_
      refine x_callV k103_128 (y := 84) (n := 0) (w0 := 0) (w1 := 0) (as := []) (rest := []) (by decide +kernel) (q := 243) (nq := 13) (kq := 13) ⟨by decide, rfl⟩ rfl rfl rfl rfl (xe_mono (C_X8_countWrong_243 s13 hG_s13) ?_)
      rintro s15 v ⟨-, t_s15, z14, rfl, g_z14⟩
      rw [t_s15.nil]
      show xe none 103 131 [(0, .ref 0), (1, vi 5)] [vi z14] s13 0 0 _
      exact x_iret k103_131 rfl ⟨hG_s13, f_s13, z14, rfl, (by first | exact x_rbe e_z14 g_z14 rfl rfl | exact x_rb g_z14 rfl rfl | exact ⟨by omega, by omega⟩)⟩
    · rw [c4]
      refine x_B k103_15 rfl (fun _ => rfl) (fun _ => rfl) (fun _ _ => rfl) ?_
      show xe none 103 132 [(0, .ref 0), (1, vi 6)] [] s0 0 0 _
      refine x_A k103_132 (fun _ => rfl) ?_
      refine x_getR k103_133 (f := 9) rfl (q := 0) (n := 12) (kd := 3) ⟨by decide, rfl⟩ (q2 := 243) (by decide) rfl ?_
      refine x_A k103_136 (fun _ => rfl) ?_
      refine x_getI k103_137 (f := 10) rfl (q := 0) (n := 12) (kd := 3) ⟨by decide, rfl⟩ (by decide) rfl ?_
      refine x_top (fun z16 e_z16 => ?_)
      have g_z16 : (0 : Int) ≤ s0 0 10 ∧ s0 0 10 ≤ 9 := hG0 0 10
      refine x_callV k103_140 (y := 76) (n := 1) (w0 := 0) (w1 := 1) (as := [vi z16]) (rest := []) (by decide +kernel) (q := 243) (nq := 13) (kq := 13) ⟨by decide, rfl⟩ rfl rfl rfl rfl (xe_mono (C_X8_lookIn_243 s0 hG0 (hJ0.fl f0 (by decide +kernel)) z16 (by first | exact x_rbe e_z16 g_z16 rfl rfl | exact x_rb g_z16 rfl rfl | exact ⟨by omega, by omega⟩)) ?_)
      rintro s18 v ⟨hG_s18, t_s18, rfl⟩
      have f_s18 : FL [3329, 3334, 3335, 3336, 3392, 3456, 3520, 3584, 3276, 3648, 3712, 3776, 3840, 3904, 3968, 3277, 4032, 1921, 1926, 1927, 1928, 1984, 2048, 2112, 2176] s0 s18 := f0.tr t_s18 (by decide +kernel)
      have q19 : s18 0 10 = z16 := (t_s18 0 10 (show 11 ∉ [3329, 3334, 3335, 3336, 3392, 3456, 3520, 3584, 3276, 3648, 3712, 3776, 3840, 3904, 3968, 3277, 4032] from by decide +kernel)).trans e_z16.symm
      show xe none 103 143 [(0, .ref 0), (1, vi 6)] [] s18 0 0 _
      refine x_A k103_143 (fun _ => rfl) ?_
      refine x_getR k103_144 (f := 9) rfl (q := 0) (n := 12) (kd := 3) ⟨by decide, rfl⟩ (q2 := 243) (by decide) rfl ?_
      refine x_callV k103_147 (y := 85) (n := 0) (w0 := 0) (w1 := 0) (as := []) (rest := []) (by decide +kernel) (q := 243) (nq := 13) (kq := 13) ⟨by decide, rfl⟩ rfl rfl rfl rfl (xe_mono (C_X8_countNeedingLook_243 s18 hG_s18) ?_)
      rintro s21 v ⟨-, t_s21, z20, rfl, g_z20⟩
      rw [t_s21.nil]
      show xe none 103 150 [(0, .ref 0), (1, vi 6)] [vi z20] s18 0 0 _
      exact x_iret k103_150 rfl ⟨hG_s18, f_s18, z20, rfl, (by first | exact x_rbe e_z20 g_z20 rfl rfl | exact x_rb g_z20 rfl rfl | exact ⟨by omega, by omega⟩)⟩
    · rw [c4]
      refine x_B k103_15 rfl (fun _ => rfl) (fun _ => rfl) (fun _ _ => rfl) ?_
      show xe none 103 151 [(0, .ref 0), (1, vi 7)] [] s0 0 0 _
      refine x_A k103_151 (fun _ => rfl) ?_
      refine x_getR k103_152 (f := 9) rfl (q := 0) (n := 12) (kd := 3) ⟨by decide, rfl⟩ (q2 := 243) (by decide) rfl ?_
      refine x_A k103_155 (fun _ => rfl) ?_
      refine x_getI k103_156 (f := 10) rfl (q := 0) (n := 12) (kd := 3) ⟨by decide, rfl⟩ (by decide) rfl ?_
      refine x_top (fun z22 e_z22 => ?_)
      have g_z22 : (0 : Int) ≤ s0 0 10 ∧ s0 0 10 ≤ 9 := hG0 0 10
      refine x_callV k103_159 (y := 76) (n := 1) (w0 := 0) (w1 := 1) (as := [vi z22]) (rest := []) (by decide +kernel) (q := 243) (nq := 13) (kq := 13) ⟨by decide, rfl⟩ rfl rfl rfl rfl (xe_mono (C_X8_lookIn_243 s0 hG0 (hJ0.fl f0 (by decide +kernel)) z22 (by first | exact x_rbe e_z22 g_z22 rfl rfl | exact x_rb g_z22 rfl rfl | exact ⟨by omega, by omega⟩)) ?_)
      rintro s24 v ⟨hG_s24, t_s24, rfl⟩
      have f_s24 : FL [3329, 3334, 3335, 3336, 3392, 3456, 3520, 3584, 3276, 3648, 3712, 3776, 3840, 3904, 3968, 3277, 4032, 1921, 1926, 1927, 1928, 1984, 2048, 2112, 2176] s0 s24 := f0.tr t_s24 (by decide +kernel)
      have q25 : s24 0 10 = z22 := (t_s24 0 10 (show 11 ∉ [3329, 3334, 3335, 3336, 3392, 3456, 3520, 3584, 3276, 3648, 3712, 3776, 3840, 3904, 3968, 3277, 4032] from by decide +kernel)).trans e_z22.symm
      show xe none 103 162 [(0, .ref 0), (1, vi 7)] [] s24 0 0 _
      refine x_A k103_162 (fun _ => rfl) ?_
      refine x_getR k103_163 (f := 5) rfl (q := 0) (n := 12) (kd := 3) ⟨by decide, rfl⟩ (q2 := 209) (by decide) rfl ?_
      refine x_A k103_166 (fun _ => rfl) ?_
      refine x_getR k103_167 (f := 4) rfl (q := 0) (n := 12) (kd := 3) ⟨by decide, rfl⟩ (q2 := 179) (by decide) rfl ?_
      refine x_A k103_170 (fun _ => rfl) ?_
      refine x_getI k103_171 (f := 10) rfl (q := 0) (n := 12) (kd := 3) ⟨by decide, rfl⟩ (by decide) rfl ?_
      rw [q25]
      refine x_callV k103_174 (y := 16) (n := 2) (w0 := 0) (w1 := 2) (as := [.ref 179, vi z22]) (rest := []) (by decide +kernel) (q := 209) (nq := 8) (kq := 9) ⟨by decide, rfl⟩ rfl rfl rfl rfl (xe_mono (C_X1_setTo_209_179 s24 hG_s24 (hJ0.fl f_s24 (by decide +kernel)) z22 (by first | exact x_rbe e_z22 g_z22 rfl rfl | exact x_rb g_z22 rfl rfl | exact ⟨by omega, by omega⟩)) ?_)
      rintro s27 v ⟨hG_s27, t_s27, rfl⟩
      have f_s27 : FL [3329, 3334, 3335, 3336, 3392, 3456, 3520, 3584, 3276, 3648, 3712, 3776, 3840, 3904, 3968, 3277, 4032, 1921, 1926, 1927, 1928, 1984, 2048, 2112, 2176] s0 s27 := f_s24.tr t_s27 (by decide +kernel)
      have q28 : s27 0 10 = z22 := (t_s27 0 10 (show 11 ∉ [1921, 1926, 1927, 1928, 1984, 2048, 2112, 2176] from by decide +kernel)).trans q25
      show xe none 103 177 [(0, .ref 0), (1, vi 7)] [] s27 0 0 _
      refine x_A k103_177 (fun _ => rfl) ?_
      refine x_getR k103_178 (f := 9) rfl (q := 0) (n := 12) (kd := 3) ⟨by decide, rfl⟩ (q2 := 243) (by decide) rfl ?_
      refine x_A k103_181 (fun _ => rfl) ?_
      refine x_getR k103_182 (f := 5) rfl (q := 0) (n := 12) (kd := 3) ⟨by decide, rfl⟩ (q2 := 209) (by decide) rfl ?_
      refine x_callV k103_185 (y := 86) (n := 1) (w0 := 0) (w1 := 1) (as := [.ref 209]) (rest := []) (by decide +kernel) (q := 243) (nq := 13) (kq := 13) ⟨by decide, rfl⟩ rfl rfl rfl rfl (xe_mono (C_X8_countLacking_243_209 s27 hG_s27) ?_)
      rintro s30 v ⟨-, t_s30, z29, rfl, g_z29⟩
      rw [t_s30.nil]
      show xe none 103 188 [(0, .ref 0), (1, vi 7)] [vi z29] s27 0 0 _
      exact x_iret k103_188 rfl ⟨hG_s27, f_s27, z29, rfl, (by first | exact x_rbe e_z29 g_z29 rfl rfl | exact x_rb g_z29 rfl rfl | exact ⟨by omega, by omega⟩)⟩
    · rw [c4]
      refine x_B k103_15 rfl (fun _ => rfl) (fun _ => rfl) (fun _ _ => rfl) ?_
      show xe none 103 189 [(0, .ref 0), (1, vi 8)] [] s0 0 0 _
      refine x_A k103_189 (fun _ => rfl) ?_
      refine x_getR k103_190 (f := 4) rfl (q := 0) (n := 12) (kd := 3) ⟨by decide, rfl⟩ (q2 := 179) (by decide) rfl ?_
      refine x_getI k103_193 (f := 5) rfl (q := 179) (n := 6) (kd := 8) ⟨by decide, rfl⟩ (by decide) rfl ?_
      refine x_top (fun z31 e_z31 => ?_)
      have g_z31 : (0 : Int) ≤ s0 179 5 ∧ s0 179 5 ≤ 8 := hG0 179 5
      exact x_iret k103_196 rfl ⟨hG0, f0, z31, rfl, (by first | exact x_rbe e_z31 g_z31 rfl rfl | exact x_rb g_z31 rfl rfl | exact ⟨by omega, by omega⟩)⟩
    · rw [c4]
      refine x_B k103_15 rfl (fun _ => rfl) (fun _ => rfl) (fun _ _ => rfl) ?_
      show xe none 103 197 [(0, .ref 0), (1, vi 9)] [] s0 0 0 _
      refine x_A k103_197 (fun _ => rfl) ?_
      refine x_getR k103_198 (f := 3) rfl (q := 0) (n := 12) (kd := 3) ⟨by decide, rfl⟩ (q2 := 177) (by decide) rfl ?_
      refine x_getI k103_201 (f := 1) rfl (q := 177) (n := 7) (kd := 7) ⟨by decide, rfl⟩ (by decide) rfl ?_
      refine x_top (fun z32 e_z32 => ?_)
      have g_z32 : (0 : Int) ≤ s0 177 1 ∧ s0 177 1 ≤ 160 := hG0 177 1
      exact x_iret k103_204 rfl ⟨hG0, f0, z32, rfl, (by first | exact x_rbe e_z32 g_z32 rfl rfl | exact x_rb g_z32 rfl rfl | exact ⟨by omega, by omega⟩)⟩
    · rw [c4]
      refine x_B k103_15 rfl (fun _ => rfl) (fun _ => rfl) (fun _ _ => rfl) ?_
      show xe none 103 205 [(0, .ref 0), (1, vi 10)] [] s0 0 0 _
      refine x_A k103_205 (fun _ => rfl) ?_
      refine x_getR k103_206 (f := 6) rfl (q := 0) (n := 12) (kd := 3) ⟨by decide, rfl⟩ (q2 := 214) (by decide) rfl ?_
      refine x_getI k103_209 (f := 3) rfl (q := 214) (n := 4) (kd := 10) ⟨by decide, rfl⟩ (by decide) rfl ?_
      refine x_top (fun z33 e_z33 => ?_)
      have g_z33 : (0 : Int) ≤ s0 214 3 ∧ s0 214 3 ≤ 60 := hG0 214 3
      exact x_iret k103_212 rfl ⟨hG0, f0, z33, rfl, (by first | exact x_rbe e_z33 g_z33 rfl rfl | exact x_rb g_z33 rfl rfl | exact ⟨by omega, by omega⟩)⟩
    · rw [c4]
      refine x_B k103_15 rfl (fun _ => rfl) (fun _ => rfl) (fun _ _ => rfl) ?_
      show xe none 103 213 [(0, .ref 0), (1, vi 11)] [] s0 0 0 _
      refine x_A k103_213 (fun _ => rfl) ?_
      refine x_getR k103_214 (f := 7) rfl (q := 0) (n := 12) (kd := 3) ⟨by decide, rfl⟩ (q2 := 218) (by decide) rfl ?_
      refine x_getI k103_217 (f := 6) rfl (q := 218) (n := 7) (kd := 11) ⟨by decide, rfl⟩ (by decide) rfl ?_
      refine x_top (fun z34 e_z34 => ?_)
      have g_z34 : (0 : Int) ≤ s0 218 6 ∧ s0 218 6 ≤ 8 := hG0 218 6
      exact x_iret k103_220 rfl ⟨hG0, f0, z34, rfl, (by first | exact x_rbe e_z34 g_z34 rfl rfl | exact x_rb g_z34 rfl rfl | exact ⟨by omega, by omega⟩)⟩
    · refine x_tabD k103_15 ⟨by omega, by omega⟩ c4 (t0 := 221) rfl ?_
      refine x_A k103_221 (fun _ => rfl) ?_
      refine x_getR k103_222 (f := 8) rfl (q := 0) (n := 12) (kd := 3) ⟨by decide, rfl⟩ (q2 := 231) (by decide) rfl ?_
      refine x_getI k103_225 (f := 3) rfl (q := 231) (n := 4) (kd := 12) ⟨by decide, rfl⟩ (by decide) rfl ?_
      refine x_top (fun z35 e_z35 => ?_)
      have g_z35 : (0 : Int) ≤ s0 231 3 ∧ s0 231 3 ≤ 4 := hG0 231 3
      exact x_iret k103_228 rfl ⟨hG0, f0, z35, rfl, (by first | exact x_rbe e_z35 g_z35 rfl rfl | exact x_rb g_z35 rfl rfl | exact ⟨by omega, by omega⟩)⟩
  · rw [e_z1]
    show xe none 103 7 [(0, .ref 0), (1, vi a)] [vi 0] s0 0 0 _
    refine x_if_ne k103_7 (t := 14) rfl ⟨by decide, by decide⟩ (fun c36 => by exfalso; omega) (fun c36 => ?_)
    refine x_sipush k103_10 (by decide +kernel) ?_
    exact x_iret k103_13 rfl ⟨hG0, f0, (-1002), rfl, ⟨by decide, by decide⟩⟩
theorem C_X10_force_0 (s0 : xS) (hG0 : GI s0) (hJ0 : J s0) (a : Int) (b_a : (-2147483648) ≤ a ∧ a ≤ 2147483647) (b : Int) (b_b : (-2147483648) ≤ b ∧ b ≤ 2147483647) : xe none 107 0 (lv_args 0 [.ref 0, vi a, vi b]) [] s0 0 0 (fun s' v => GI s' ∧ FL [1921, 1926, 1927, 1928, 1984, 2048, 2112, 2176] s0 s' ∧ ∃ z, v = some (vi z) ∧ ((-2147483648) ≤ z ∧ z ≤ 2147483647)) := by
  have f0 : FL [1921, 1926, 1927, 1928, 1984, 2048, 2112, 2176] s0 s0 := FL.rf
  show xe none 107 0 [(0, .ref 0), (1, vi a), (2, vi b)] [] s0 0 0 _
  refine x_A k107_0 (fun _ => rfl) ?_
  refine x_A k107_1 (fun _ => rfl) ?_
  refine x_bipush k107_2 (by decide +kernel) ?_
  refine x_callS k107_4 (y := 121) (n := 3) (w0 := 0) (w1 := 3) (as := [vi a, vi 0, vi 9]) (rest := []) (by decide +kernel) rfl rfl rfl rfl (xe_mono (C_X10_isWithin s0 hG0 a (by first | exact x_rb b_a rfl rfl | exact ⟨by omega, by omega⟩) 0 ⟨by decide, by decide⟩ 9 ⟨by decide, by decide⟩) ?_)
  rintro s2 v ⟨h_s2, z1, rfl, hz_z1⟩
  rw [h_s2]
  rcases hz_z1 with ⟨c_z1, e_z1⟩ | ⟨c_z1, e_z1⟩
  · rw [e_z1]
    show xe none 107 7 [(0, .ref 0), (1, vi a), (2, vi b)] [vi 1] s0 0 0 _
    refine x_if_eq k107_7 (t := 20) rfl ⟨by decide, by decide⟩ (fun c3 => by exfalso; omega) (fun c3 => ?_)
    refine x_A k107_10 (fun _ => rfl) ?_
    refine x_A k107_11 (fun _ => rfl) ?_
    refine x_bipush k107_12 (by decide +kernel) ?_
    refine x_callS k107_14 (y := 121) (n := 3) (w0 := 0) (w1 := 3) (as := [vi b, vi 0, vi 9]) (rest := []) (by decide +kernel) rfl rfl rfl rfl (xe_mono (C_X10_isWithin s0 hG0 b (by first | exact x_rb b_b rfl rfl | exact ⟨by omega, by omega⟩) 0 ⟨by decide, by decide⟩ 9 ⟨by decide, by decide⟩) ?_)
    rintro s5 v ⟨h_s5, z4, rfl, hz_z4⟩
    rw [h_s5]
    rcases hz_z4 with ⟨c_z4, e_z4⟩ | ⟨c_z4, e_z4⟩
    · rw [e_z4]
      show xe none 107 17 [(0, .ref 0), (1, vi a), (2, vi b)] [vi 1] s0 0 0 _
      refine x_if_ne k107_17 (t := 24) rfl ⟨by decide, by decide⟩ (fun c6 => ?_) (fun c6 => by exfalso; omega)
      refine x_A k107_24 (fun _ => rfl) ?_
      refine x_getR k107_25 (f := 5) rfl (q := 0) (n := 12) (kd := 3) ⟨by decide, rfl⟩ (q2 := 209) (by decide) rfl ?_
      refine x_A k107_28 (fun _ => rfl) ?_
      refine x_getR k107_29 (f := 4) rfl (q := 0) (n := 12) (kd := 3) ⟨by decide, rfl⟩ (q2 := 179) (by decide) rfl ?_
      refine x_A k107_32 (fun _ => rfl) ?_
      refine x_callV k107_33 (y := 16) (n := 2) (w0 := 0) (w1 := 2) (as := [.ref 179, vi a]) (rest := []) (by decide +kernel) (q := 209) (nq := 8) (kq := 9) ⟨by decide, rfl⟩ rfl rfl rfl rfl (xe_mono (C_X1_setTo_209_179 s0 hG0 (hJ0.fl f0 (by decide +kernel)) a (by first | exact x_rb b_a rfl rfl | exact ⟨by omega, by omega⟩)) ?_)
      rintro s8 v ⟨hG_s8, t_s8, rfl⟩
      have f_s8 : FL [1921, 1926, 1927, 1928, 1984, 2048, 2112, 2176] s0 s8 := f0.tr t_s8 (by decide +kernel)
      show xe none 107 36 [(0, .ref 0), (1, vi a), (2, vi b)] [] s8 0 0 _
      refine x_A k107_36 (fun _ => rfl) ?_
      have c9 : b = 0 ∨ b = 1 ∨ b = 2 ∨ b = 3 ∨ b = 4 ∨ b = 5 ∨ b = 6 ∨ b = 7 ∨ b = 8 ∨ b = 9 := by omega
      rcases c9 with c9 | c9 | c9 | c9 | c9 | c9 | c9 | c9 | c9 | c9
      · rw [c9]
        refine x_B k107_37 rfl (fun _ => rfl) (fun _ => rfl) (fun _ _ => rfl) ?_
        show xe none 107 92 [(0, .ref 0), (1, vi a), (2, vi 0)] [] s8 0 0 _
        refine x_A k107_92 (fun _ => rfl) ?_
        refine x_getR k107_93 (f := 5) rfl (q := 0) (n := 12) (kd := 3) ⟨by decide, rfl⟩ (q2 := 209) (by decide) rfl ?_
        refine x_getI k107_96 (f := 0) rfl (q := 209) (n := 8) (kd := 9) ⟨by decide, rfl⟩ (by decide) rfl ?_
        refine x_top (fun z10 e_z10 => ?_)
        have g_z10 : (-2147483648) ≤ s8 209 0 ∧ s8 209 0 ≤ 2147483647 := hG_s8 209 0
        exact x_iret k107_99 rfl ⟨hG_s8, f_s8, z10, rfl, (by first | exact x_rbe e_z10 g_z10 rfl rfl | exact x_rb g_z10 rfl rfl | exact ⟨by omega, by omega⟩)⟩
      · rw [c9]
        refine x_B k107_37 rfl (fun _ => rfl) (fun _ => rfl) (fun _ _ => rfl) ?_
        show xe none 107 124 [(0, .ref 0), (1, vi a), (2, vi 1)] [] s8 0 0 _
        refine x_A k107_124 (fun _ => rfl) ?_
        refine x_getR k107_125 (f := 5) rfl (q := 0) (n := 12) (kd := 3) ⟨by decide, rfl⟩ (q2 := 209) (by decide) rfl ?_
        refine x_getR k107_128 (f := 1) rfl (q := 209) (n := 8) (kd := 9) ⟨by decide, rfl⟩ (q2 := 210) (by decide) rfl ?_
        refine x_A k107_131 (fun _ => rfl) ?_
        refine x_A k107_132 (fun _ => rfl) ?_
        refine x_isub k107_133 ?_
        refine x_top (fun z11 e_z11 => ?_)
        refine x_iald k107_134 (q := 210) (n := 6) ⟨by decide, rfl⟩ (by decide) (by first | exact x_rbel e_z11 g_z11 rfl rfl | exact x_rbl g_z11 rfl rfl | exact ⟨by omega, by omega⟩) ?_
        refine x_top (fun z12 e_z12 => ?_)
        have g_z12 : (-2147483648) ≤ s8 210 z11.toNat ∧ s8 210 z11.toNat ≤ 2147483647 := hG_s8 210 z11.toNat
        exact x_iret k107_135 rfl ⟨hG_s8, f_s8, z12, rfl, (by first | exact x_rbe e_z12 g_z12 rfl rfl | exact x_rb g_z12 rfl rfl | exact ⟨by omega, by omega⟩)⟩
      · rw [c9]
        refine x_B k107_37 rfl (fun _ => rfl) (fun _ => rfl) (fun _ _ => rfl) ?_
        show xe none 107 124 [(0, .ref 0), (1, vi a), (2, vi 2)] [] s8 0 0 _
        refine x_A k107_124 (fun _ => rfl) ?_
        refine x_getR k107_125 (f := 5) rfl (q := 0) (n := 12) (kd := 3) ⟨by decide, rfl⟩ (q2 := 209) (by decide) rfl ?_
        refine x_getR k107_128 (f := 1) rfl (q := 209) (n := 8) (kd := 9) ⟨by decide, rfl⟩ (q2 := 210) (by decide) rfl ?_
        refine x_A k107_131 (fun _ => rfl) ?_
        refine x_A k107_132 (fun _ => rfl) ?_
        refine x_isub k107_133 ?_
        refine x_top (fun z13 e_z13 => ?_)
        refine x_iald k107_134 (q := 210) (n := 6) ⟨by decide, rfl⟩ (by decide) (by first | exact x_rbel e_z13 g_z13 rfl rfl | exact x_rbl g_z13 rfl rfl | exact ⟨by omega, by omega⟩) ?_
        refine x_top (fun z14 e_z14 => ?_)
        have g_z14 : (-2147483648) ≤ s8 210 z13.toNat ∧ s8 210 z13.toNat ≤ 2147483647 := hG_s8 210 z13.toNat
        exact x_iret k107_135 rfl ⟨hG_s8, f_s8, z14, rfl, (by first | exact x_rbe e_z14 g_z14 rfl rfl | exact x_rb g_z14 rfl rfl | exact ⟨by omega, by omega⟩)⟩
      · rw [c9]
        refine x_B k107_37 rfl (fun _ => rfl) (fun _ => rfl) (fun _ _ => rfl) ?_
        show xe none 107 124 [(0, .ref 0), (1, vi a), (2, vi 3)] [] s8 0 0 _
        refine x_A k107_124 (fun _ => rfl) ?_
        refine x_getR k107_125 (f := 5) rfl (q := 0) (n := 12) (kd := 3) ⟨by decide, rfl⟩ (q2 := 209) (by decide) rfl ?_
        refine x_getR k107_128 (f := 1) rfl (q := 209) (n := 8) (kd := 9) ⟨by decide, rfl⟩ (q2 := 210) (by decide) rfl ?_
        refine x_A k107_131 (fun _ => rfl) ?_
        refine x_A k107_132 (fun _ => rfl) ?_
        refine x_isub k107_133 ?_
        refine x_top (fun z15 e_z15 => ?_)
        refine x_iald k107_134 (q := 210) (n := 6) ⟨by decide, rfl⟩ (by decide) (by first | exact x_rbel e_z15 g_z15 rfl rfl | exact x_rbl g_z15 rfl rfl | exact ⟨by omega, by omega⟩) ?_
        refine x_top (fun z16 e_z16 => ?_)
        have g_z16 : (-2147483648) ≤ s8 210 z15.toNat ∧ s8 210 z15.toNat ≤ 2147483647 := hG_s8 210 z15.toNat
        exact x_iret k107_135 rfl ⟨hG_s8, f_s8, z16, rfl, (by first | exact x_rbe e_z16 g_z16 rfl rfl | exact x_rb g_z16 rfl rfl | exact ⟨by omega, by omega⟩)⟩
      · rw [c9]
        refine x_B k107_37 rfl (fun _ => rfl) (fun _ => rfl) (fun _ _ => rfl) ?_
        show xe none 107 124 [(0, .ref 0), (1, vi a), (2, vi 4)] [] s8 0 0 _
        refine x_A k107_124 (fun _ => rfl) ?_
        refine x_getR k107_125 (f := 5) rfl (q := 0) (n := 12) (kd := 3) ⟨by decide, rfl⟩ (q2 := 209) (by decide) rfl ?_
        refine x_getR k107_128 (f := 1) rfl (q := 209) (n := 8) (kd := 9) ⟨by decide, rfl⟩ (q2 := 210) (by decide) rfl ?_
        refine x_A k107_131 (fun _ => rfl) ?_
        refine x_A k107_132 (fun _ => rfl) ?_
        refine x_isub k107_133 ?_
        refine x_top (fun z17 e_z17 => ?_)
        refine x_iald k107_134 (q := 210) (n := 6) ⟨by decide, rfl⟩ (by decide) (by first | exact x_rbel e_z17 g_z17 rfl rfl | exact x_rbl g_z17 rfl rfl | exact ⟨by omega, by omega⟩) ?_
        refine x_top (fun z18 e_z18 => ?_)
        have g_z18 : (-2147483648) ≤ s8 210 z17.toNat ∧ s8 210 z17.toNat ≤ 2147483647 := hG_s8 210 z17.toNat
        exact x_iret k107_135 rfl ⟨hG_s8, f_s8, z18, rfl, (by first | exact x_rbe e_z18 g_z18 rfl rfl | exact x_rb g_z18 rfl rfl | exact ⟨by omega, by omega⟩)⟩
      · rw [c9]
        refine x_B k107_37 rfl (fun _ => rfl) (fun _ => rfl) (fun _ _ => rfl) ?_
        show xe none 107 124 [(0, .ref 0), (1, vi a), (2, vi 5)] [] s8 0 0 _
        refine x_A k107_124 (fun _ => rfl) ?_
        refine x_getR k107_125 (f := 5) rfl (q := 0) (n := 12) (kd := 3) ⟨by decide, rfl⟩ (q2 := 209) (by decide) rfl ?_
        refine x_getR k107_128 (f := 1) rfl (q := 209) (n := 8) (kd := 9) ⟨by decide, rfl⟩ (q2 := 210) (by decide) rfl ?_
        refine x_A k107_131 (fun _ => rfl) ?_
        refine x_A k107_132 (fun _ => rfl) ?_
        refine x_isub k107_133 ?_
        refine x_top (fun z19 e_z19 => ?_)
        refine x_iald k107_134 (q := 210) (n := 6) ⟨by decide, rfl⟩ (by decide) (by first | exact x_rbel e_z19 g_z19 rfl rfl | exact x_rbl g_z19 rfl rfl | exact ⟨by omega, by omega⟩) ?_
        refine x_top (fun z20 e_z20 => ?_)
        have g_z20 : (-2147483648) ≤ s8 210 z19.toNat ∧ s8 210 z19.toNat ≤ 2147483647 := hG_s8 210 z19.toNat
        exact x_iret k107_135 rfl ⟨hG_s8, f_s8, z20, rfl, (by first | exact x_rbe e_z20 g_z20 rfl rfl | exact x_rb g_z20 rfl rfl | exact ⟨by omega, by omega⟩)⟩
      · rw [c9]
        refine x_B k107_37 rfl (fun _ => rfl) (fun _ => rfl) (fun _ _ => rfl) ?_
        show xe none 107 124 [(0, .ref 0), (1, vi a), (2, vi 6)] [] s8 0 0 _
        refine x_A k107_124 (fun _ => rfl) ?_
        refine x_getR k107_125 (f := 5) rfl (q := 0) (n := 12) (kd := 3) ⟨by decide, rfl⟩ (q2 := 209) (by decide) rfl ?_
        refine x_getR k107_128 (f := 1) rfl (q := 209) (n := 8) (kd := 9) ⟨by decide, rfl⟩ (q2 := 210) (by decide) rfl ?_
        refine x_A k107_131 (fun _ => rfl) ?_
        refine x_A k107_132 (fun _ => rfl) ?_
        refine x_isub k107_133 ?_
        refine x_top (fun z21 e_z21 => ?_)
        refine x_iald k107_134 (q := 210) (n := 6) ⟨by decide, rfl⟩ (by decide) (by first | exact x_rbel e_z21 g_z21 rfl rfl | exact x_rbl g_z21 rfl rfl | exact ⟨by omega, by omega⟩) ?_
        refine x_top (fun z22 e_z22 => ?_)
        have g_z22 : (-2147483648) ≤ s8 210 z21.toNat ∧ s8 210 z21.toNat ≤ 2147483647 := hG_s8 210 z21.toNat
        exact x_iret k107_135 rfl ⟨hG_s8, f_s8, z22, rfl, (by first | exact x_rbe e_z22 g_z22 rfl rfl | exact x_rb g_z22 rfl rfl | exact ⟨by omega, by omega⟩)⟩
      · rw [c9]
        refine x_B k107_37 rfl (fun _ => rfl) (fun _ => rfl) (fun _ _ => rfl) ?_
        show xe none 107 100 [(0, .ref 0), (1, vi a), (2, vi 7)] [] s8 0 0 _
        refine x_A k107_100 (fun _ => rfl) ?_
        refine x_getR k107_101 (f := 5) rfl (q := 0) (n := 12) (kd := 3) ⟨by decide, rfl⟩ (q2 := 209) (by decide) rfl ?_
        refine x_getI k107_104 (f := 5) rfl (q := 209) (n := 8) (kd := 9) ⟨by decide, rfl⟩ (by decide) rfl ?_
        refine x_top (fun z23 e_z23 => ?_)
        have g_z23 : (-2147483648) ≤ s8 209 5 ∧ s8 209 5 ≤ 2147483647 := hG_s8 209 5
        exact x_iret k107_107 rfl ⟨hG_s8, f_s8, z23, rfl, (by first | exact x_rbe e_z23 g_z23 rfl rfl | exact x_rb g_z23 rfl rfl | exact ⟨by omega, by omega⟩)⟩
      · rw [c9]
        refine x_B k107_37 rfl (fun _ => rfl) (fun _ => rfl) (fun _ _ => rfl) ?_
        show xe none 107 108 [(0, .ref 0), (1, vi a), (2, vi 8)] [] s8 0 0 _
        refine x_A k107_108 (fun _ => rfl) ?_
        refine x_getR k107_109 (f := 5) rfl (q := 0) (n := 12) (kd := 3) ⟨by decide, rfl⟩ (q2 := 209) (by decide) rfl ?_
        refine x_getI k107_112 (f := 6) rfl (q := 209) (n := 8) (kd := 9) ⟨by decide, rfl⟩ (by decide) rfl ?_
        refine x_top (fun z24 e_z24 => ?_)
        have g_z24 : (-2147483648) ≤ s8 209 6 ∧ s8 209 6 ≤ 2147483647 := hG_s8 209 6
        exact x_iret k107_115 rfl ⟨hG_s8, f_s8, z24, rfl, (by first | exact x_rbe e_z24 g_z24 rfl rfl | exact x_rb g_z24 rfl rfl | exact ⟨by omega, by omega⟩)⟩
      · rw [c9]
        refine x_B k107_37 rfl (fun _ => rfl) (fun _ => rfl) (fun _ _ => rfl) ?_
        show xe none 107 116 [(0, .ref 0), (1, vi a), (2, vi 9)] [] s8 0 0 _
        refine x_A k107_116 (fun _ => rfl) ?_
        refine x_getR k107_117 (f := 5) rfl (q := 0) (n := 12) (kd := 3) ⟨by decide, rfl⟩ (q2 := 209) (by decide) rfl ?_
        refine x_getI k107_120 (f := 7) rfl (q := 209) (n := 8) (kd := 9) ⟨by decide, rfl⟩ (by decide) rfl ?_
        refine x_top (fun z25 e_z25 => ?_)
        have g_z25 : (-2147483648) ≤ s8 209 7 ∧ s8 209 7 ≤ 2147483647 := hG_s8 209 7
        exact x_iret k107_123 rfl ⟨hG_s8, f_s8, z25, rfl, (by first | exact x_rbe e_z25 g_z25 rfl rfl | exact x_rb g_z25 rfl rfl | exact ⟨by omega, by omega⟩)⟩
    · rw [e_z4]
      show xe none 107 17 [(0, .ref 0), (1, vi a), (2, vi b)] [vi 0] s0 0 0 _
      refine x_if_ne k107_17 (t := 24) rfl ⟨by decide, by decide⟩ (fun c26 => by exfalso; omega) (fun c26 => ?_)
      refine x_sipush k107_20 (by decide +kernel) ?_
      exact x_iret k107_23 rfl ⟨hG0, f0, (-1002), rfl, ⟨by decide, by decide⟩⟩
  · rw [e_z1]
    show xe none 107 7 [(0, .ref 0), (1, vi a), (2, vi b)] [vi 0] s0 0 0 _
    refine x_if_eq k107_7 (t := 20) rfl ⟨by decide, by decide⟩ (fun c27 => ?_) (fun c27 => by exfalso; omega)
    refine x_sipush k107_20 (by decide +kernel) ?_
    exact x_iret k107_23 rfl ⟨hG0, f0, (-1002), rfl, ⟨by decide, by decide⟩⟩
theorem C_X10_met_0 (s0 : xS) (hG0 : GI s0) (hJ0 : J s0) (a : Int) (b_a : (-2147483648) ≤ a ∧ a ≤ 2147483647) (b : Int) (b_b : (-2147483648) ≤ b ∧ b ≤ 2147483647) (d : Int) (b_d : (-2147483648) ≤ d ∧ d ≤ 2147483647) : xe none 111 0 (lv_args 0 [.ref 0, vi a, vi b, vi d]) [] s0 0 0 (fun s' v => GI s' ∧ FL [3329, 3334, 3335, 3336, 3392, 3456, 3520, 3584, 3276, 3648, 3712, 3776, 3840, 3904, 3968, 3277, 4032, 2752] s0 s' ∧ ∃ z, v = some (vi z) ∧ ((-1004) ≤ z ∧ z ≤ 127)) := by
  have f0 : FL [3329, 3334, 3335, 3336, 3392, 3456, 3520, 3584, 3276, 3648, 3712, 3776, 3840, 3904, 3968, 3277, 4032, 2752] s0 s0 := FL.rf
  show xe none 111 0 [(0, .ref 0), (1, vi a), (2, vi b), (3, vi d)] [] s0 0 0 _
  refine x_A k111_0 (fun _ => rfl) ?_
  refine x_getR k111_1 (f := 7) rfl (q := 0) (n := 12) (kd := 3) ⟨by decide, rfl⟩ (q2 := 218) (by decide) rfl ?_
  refine x_A k111_4 (fun _ => rfl) ?_
  obtain ⟨z1, e_z1⟩ : ∃ z, z = s0 218 6 := ⟨_, rfl⟩
  have g_z1 : (0 : Int) ≤ s0 218 6 ∧ s0 218 6 ≤ 8 := hG0 218 6
  refine x_callV k111_5 (y := 1) (n := 1) (w0 := 0) (w1 := 1) (as := [vi a]) (rest := []) (by decide +kernel) (q := 218) (nq := 7) (kq := 11) ⟨by decide, rfl⟩ rfl rfl rfl rfl (xe_mono (C_X0_has_218 s0 hG0 a (by first | exact x_rb b_a rfl rfl | exact ⟨by omega, by omega⟩)) ?_)
  rintro s3 v ⟨h_s3, z2, rfl, hz_z2⟩
  rw [h_s3]
  rcases hz_z2 with ⟨c_z2, e_z2⟩ | ⟨c_z2, e_z2⟩
  · rw [e_z2]
    show xe none 111 8 [(0, .ref 0), (1, vi a), (2, vi b), (3, vi d)] [vi 1] s0 0 0 _
    refine x_if_ne k111_8 (t := 15) rfl ⟨by decide, by decide⟩ (fun c4 => ?_) (fun c4 => by exfalso; omega)
    refine x_A k111_15 (fun _ => rfl) ?_
    refine x_A k111_16 (fun _ => rfl) ?_
    obtain ⟨z5, e_z5⟩ : ∃ z, z = s0 0 10 := ⟨_, rfl⟩
    have g_z5 : (0 : Int) ≤ s0 0 10 ∧ s0 0 10 ≤ 9 := hG0 0 10
    refine x_callV k111_17 (y := 125) (n := 1) (w0 := 0) (w1 := 1) (as := [vi b]) (rest := []) (by decide +kernel) (q := 0) (nq := 12) (kq := 3) ⟨by decide, rfl⟩ rfl rfl rfl rfl (xe_mono (C_X10_isKnownEdition_0 s0 hG0 b (by first | exact x_rb b_b rfl rfl | exact ⟨by omega, by omega⟩)) ?_)
    rintro s7 v ⟨h_s7, z6, rfl, hz_z6⟩
    rw [h_s7]
    rcases hz_z6 with ⟨c_z6, e_z6⟩ | ⟨c_z6, e_z6⟩
    · rw [e_z6]
      show xe none 111 20 [(0, .ref 0), (1, vi a), (2, vi b), (3, vi d)] [vi 1] s0 0 0 _
      refine x_if_ne k111_20 (t := 27) rfl ⟨by decide, by decide⟩ (fun c8 => ?_) (fun c8 => by exfalso; omega)
      refine x_A k111_27 (fun _ => rfl) ?_
      refine x_getR k111_28 (f := 9) rfl (q := 0) (n := 12) (kd := 3) ⟨by decide, rfl⟩ (q2 := 243) (by decide) rfl ?_
      refine x_A k111_31 (fun _ => rfl) ?_
      refine x_callV k111_32 (y := 76) (n := 1) (w0 := 0) (w1 := 1) (as := [vi b]) (rest := []) (by decide +kernel) (q := 243) (nq := 13) (kq := 13) ⟨by decide, rfl⟩ rfl rfl rfl rfl (xe_mono (C_X8_lookIn_243 s0 hG0 (hJ0.fl f0 (by decide +kernel)) b (by first | exact x_rb b_b rfl rfl | exact ⟨by omega, by omega⟩)) ?_)
      rintro s10 v ⟨hG_s10, t_s10, rfl⟩
      have f_s10 : FL [3329, 3334, 3335, 3336, 3392, 3456, 3520, 3584, 3276, 3648, 3712, 3776, 3840, 3904, 3968, 3277, 4032, 2752] s0 s10 := f0.tr t_s10 (by decide +kernel)
      have q11 : s10 218 6 = z1 := (t_s10 218 6 (show 2503 ∉ [3329, 3334, 3335, 3336, 3392, 3456, 3520, 3584, 3276, 3648, 3712, 3776, 3840, 3904, 3968, 3277, 4032] from by decide +kernel)).trans e_z1.symm
      have q12 : s10 0 10 = z5 := (t_s10 0 10 (show 11 ∉ [3329, 3334, 3335, 3336, 3392, 3456, 3520, 3584, 3276, 3648, 3712, 3776, 3840, 3904, 3968, 3277, 4032] from by decide +kernel)).trans e_z5.symm
      show xe none 111 35 [(0, .ref 0), (1, vi a), (2, vi b), (3, vi d)] [] s10 0 0 _
      refine x_A k111_35 (fun _ => rfl) ?_
      refine x_A k111_36 (fun _ => rfl) ?_
      refine x_A k111_37 (fun _ => rfl) ?_
      refine x_callV k111_38 (y := 133) (n := 2) (w0 := 0) (w1 := 2) (as := [vi a, vi b]) (rest := []) (by decide +kernel) (q := 0) (nq := 12) (kq := 3) ⟨by decide, rfl⟩ rfl rfl rfl rfl (xe_mono (C_X10_metBy_0 s10 hG_s10 a (by first | exact x_rb b_a rfl rfl | exact ⟨by omega, by omega⟩) b (by first | exact x_rb b_b rfl rfl | exact ⟨by omega, by omega⟩)) ?_)
      rintro s14 v ⟨hG_s14, t_s14, z13, rfl, b_z13⟩
      have f_s14 : FL [3329, 3334, 3335, 3336, 3392, 3456, 3520, 3584, 3276, 3648, 3712, 3776, 3840, 3904, 3968, 3277, 4032, 2752] s0 s14 := f_s10.tr t_s14 (by decide +kernel)
      have q15 : s14 218 6 = z1 := (t_s14 218 6 (show 2503 ∉ [2752] from by decide +kernel)).trans q11
      have q16 : s14 0 10 = z5 := (t_s14 0 10 (show 11 ∉ [2752] from by decide +kernel)).trans q12
      show xe none 111 41 [(0, .ref 0), (1, vi a), (2, vi b), (3, vi d)] [vj z13] s14 0 0 _
      refine x_A k111_41 (fun _ => rfl) ?_
      refine x_callS k111_42 (y := 127) (n := 2) (w0 := 0) (w1 := 3) (as := [vj z13, vi d]) (rest := []) (by decide +kernel) rfl rfl rfl rfl (xe_mono (C_X10_pick s14 hG_s14 z13 b_z13 d (by first | exact x_rb b_d rfl rfl | exact ⟨by omega, by omega⟩)) ?_)
      rintro s18 v ⟨-, t_s18, z17, rfl, g_z17⟩
      rw [t_s18.nil]
      show xe none 111 45 [(0, .ref 0), (1, vi a), (2, vi b), (3, vi d)] [vi z17] s14 0 0 _
      exact x_iret k111_45 rfl ⟨hG_s14, f_s14, z17, rfl, (by first | exact x_rbe e_z17 g_z17 rfl rfl | exact x_rb g_z17 rfl rfl | exact ⟨by omega, by omega⟩)⟩
    · rw [e_z6]
      show xe none 111 20 [(0, .ref 0), (1, vi a), (2, vi b), (3, vi d)] [vi 0] s0 0 0 _
      refine x_if_ne k111_20 (t := 27) rfl ⟨by decide, by decide⟩ (fun c19 => by exfalso; omega) (fun c19 => ?_)
      refine x_sipush k111_23 (by decide +kernel) ?_
      exact x_iret k111_26 rfl ⟨hG0, f0, (-1002), rfl, ⟨by decide, by decide⟩⟩
  · rw [e_z2]
    show xe none 111 8 [(0, .ref 0), (1, vi a), (2, vi b), (3, vi d)] [vi 0] s0 0 0 _
    refine x_if_ne k111_8 (t := 15) rfl ⟨by decide, by decide⟩ (fun c20 => by exfalso; omega) (fun c20 => ?_)
    refine x_sipush k111_11 (by decide +kernel) ?_
    exact x_iret k111_14 rfl ⟨hG0, f0, (-1001), rfl, ⟨by decide, by decide⟩⟩
theorem C_X10_hands_0 (s0 : xS) (hG0 : GI s0) (hJ0 : J s0) (a : Int) (b_a : (-2147483648) ≤ a ∧ a ≤ 2147483647) (b : Int) (b_b : (-2147483648) ≤ b ∧ b ≤ 2147483647) (d : Int) (b_d : (-2147483648) ≤ d ∧ d ≤ 2147483647) (e : Int) (b_e : (-2147483648) ≤ e ∧ e ≤ 2147483647) (h : Int) (b_h : (-2147483648) ≤ h ∧ h ≤ 2147483647) : xe none 112 0 (lv_args 0 [.ref 0, vi a, vi b, vi d, vi e, vi h]) [] s0 0 0 (fun s' v => GI s' ∧ FL [3329, 3334, 3335, 3336, 3392, 3456, 3520, 3584, 3276, 3648, 3712, 3776, 3840, 3904, 3968, 3277, 4032] s0 s' ∧ ∃ z, v = some (vi z) ∧ ((-2147483648) ≤ z ∧ z ≤ 2147483647)) := by
  have f0 : FL [3329, 3334, 3335, 3336, 3392, 3456, 3520, 3584, 3276, 3648, 3712, 3776, 3840, 3904, 3968, 3277, 4032] s0 s0 := FL.rf
  show xe none 112 0 [(0, .ref 0), (1, vi a), (2, vi b), (3, vi d), (4, vi e), (5, vi h)] [] s0 0 0 _
  refine x_A k112_0 (fun _ => rfl) ?_
  refine x_getR k112_1 (f := 0) rfl (q := 0) (n := 12) (kd := 3) ⟨by decide, rfl⟩ (q2 := 1) (by decide) rfl ?_
  refine x_A k112_4 (fun _ => rfl) ?_
  obtain ⟨z1, e_z1⟩ : ∃ z, z = s0 1 4 := ⟨_, rfl⟩
  have g_z1 : (1 : Int) ≤ s0 1 4 ∧ s0 1 4 ≤ 40 := hG0 1 4
  refine x_callV k112_5 (y := 59) (n := 1) (w0 := 0) (w1 := 1) (as := [vi d]) (rest := []) (by decide +kernel) (q := 1) (nq := 5) (kq := 4) ⟨by decide, rfl⟩ rfl rfl rfl rfl (xe_mono (C_X7_has_1 s0 hG0 d (by first | exact x_rb b_d rfl rfl | exact ⟨by omega, by omega⟩)) ?_)
  rintro s3 v ⟨h_s3, z2, rfl, hz_z2⟩
  rw [h_s3]
  rcases hz_z2 with ⟨c_z2, e_z2⟩ | ⟨c_z2, e_z2⟩
  · rw [e_z2]
    show xe none 112 8 [(0, .ref 0), (1, vi a), (2, vi b), (3, vi d), (4, vi e), (5, vi h)] [vi 1] s0 0 0 _
    refine x_if_ne k112_8 (t := 15) rfl ⟨by decide, by decide⟩ (fun c4 => ?_) (fun c4 => by exfalso; omega)
    refine x_A k112_15 (fun _ => rfl) ?_
    refine x_callS k112_16 (y := 123) (n := 1) (w0 := 0) (w1 := 1) (as := [vi a]) (rest := []) (by decide +kernel) rfl rfl rfl rfl (xe_mono (C_X10_isHand s0 hG0 a (by first | exact x_rb b_a rfl rfl | exact ⟨by omega, by omega⟩)) ?_)
    rintro s6 v ⟨h_s6, z5, rfl, hz_z5⟩
    rw [h_s6]
    rcases hz_z5 with ⟨c_z5, e_z5⟩ | ⟨c_z5, e_z5⟩
    · rw [e_z5]
      show xe none 112 19 [(0, .ref 0), (1, vi a), (2, vi b), (3, vi d), (4, vi e), (5, vi h)] [vi 1] s0 0 0 _
      refine x_if_eq k112_19 (t := 34) rfl ⟨by decide, by decide⟩ (fun c7 => by exfalso; omega) (fun c7 => ?_)
      refine x_A k112_22 (fun _ => rfl) ?_
      refine x_callS k112_23 (y := 123) (n := 1) (w0 := 0) (w1 := 1) (as := [vi b]) (rest := []) (by decide +kernel) rfl rfl rfl rfl (xe_mono (C_X10_isHand s0 hG0 b (by first | exact x_rb b_b rfl rfl | exact ⟨by omega, by omega⟩)) ?_)
      rintro s9 v ⟨h_s9, z8, rfl, hz_z8⟩
      rw [h_s9]
      rcases hz_z8 with ⟨c_z8, e_z8⟩ | ⟨c_z8, e_z8⟩
      · rw [e_z8]
        show xe none 112 26 [(0, .ref 0), (1, vi a), (2, vi b), (3, vi d), (4, vi e), (5, vi h)] [vi 1] s0 0 0 _
        refine x_if_eq k112_26 (t := 34) rfl ⟨by decide, by decide⟩ (fun c10 => by exfalso; omega) (fun c10 => ?_)
        refine x_A k112_29 (fun _ => rfl) ?_
        refine x_A k112_30 (fun _ => rfl) ?_
        refine x_ic_ne k112_31 (t := 38) rfl (by first | exact x_rb b_a rfl rfl | exact ⟨by omega, by omega⟩) (by first | exact x_rb b_b rfl rfl | exact ⟨by omega, by omega⟩) (fun c11 => ?_) (fun c11 => ?_)
        · skip
          refine x_A k112_38 (fun _ => rfl) ?_
          refine x_A k112_39 (fun _ => rfl) ?_
          obtain ⟨z12, e_z12⟩ : ∃ z, z = s0 0 10 := ⟨_, rfl⟩
          have g_z12 : (0 : Int) ≤ s0 0 10 ∧ s0 0 10 ≤ 9 := hG0 0 10
          refine x_callV k112_41 (y := 125) (n := 1) (w0 := 0) (w1 := 1) (as := [vi e]) (rest := []) (by decide +kernel) (q := 0) (nq := 12) (kq := 3) ⟨by decide, rfl⟩ rfl rfl rfl rfl (xe_mono (C_X10_isKnownEdition_0 s0 hG0 e (by first | exact x_rb b_e rfl rfl | exact ⟨by omega, by omega⟩)) ?_)
          rintro s14 v ⟨h_s14, z13, rfl, hz_z13⟩
          rw [h_s14]
          rcases hz_z13 with ⟨c_z13, e_z13⟩ | ⟨c_z13, e_z13⟩
          · rw [e_z13]
            show xe none 112 44 [(0, .ref 0), (1, vi a), (2, vi b), (3, vi d), (4, vi e), (5, vi h)] [vi 1] s0 0 0 _
            refine x_if_eq k112_44 (t := 57) rfl ⟨by decide, by decide⟩ (fun c15 => by exfalso; omega) (fun c15 => ?_)
            refine x_A k112_47 (fun _ => rfl) ?_
            refine x_A k112_49 (fun _ => rfl) ?_
            refine x_A k112_50 (fun _ => rfl) ?_
            refine x_callS k112_51 (y := 121) (n := 3) (w0 := 0) (w1 := 3) (as := [vi h, vi 0, vi 4]) (rest := []) (by decide +kernel) rfl rfl rfl rfl (xe_mono (C_X10_isWithin s0 hG0 h (by first | exact x_rb b_h rfl rfl | exact ⟨by omega, by omega⟩) 0 ⟨by decide, by decide⟩ 4 ⟨by decide, by decide⟩) ?_)
            rintro s17 v ⟨h_s17, z16, rfl, hz_z16⟩
            rw [h_s17]
            rcases hz_z16 with ⟨c_z16, e_z16⟩ | ⟨c_z16, e_z16⟩
            · rw [e_z16]
              show xe none 112 54 [(0, .ref 0), (1, vi a), (2, vi b), (3, vi d), (4, vi e), (5, vi h)] [vi 1] s0 0 0 _
              refine x_if_ne k112_54 (t := 61) rfl ⟨by decide, by decide⟩ (fun c18 => ?_) (fun c18 => by exfalso; omega)
              refine x_A k112_61 (fun _ => rfl) ?_
              refine x_getR k112_62 (f := 9) rfl (q := 0) (n := 12) (kd := 3) ⟨by decide, rfl⟩ (q2 := 243) (by decide) rfl ?_
              refine x_A k112_65 (fun _ => rfl) ?_
              refine x_callV k112_67 (y := 76) (n := 1) (w0 := 0) (w1 := 1) (as := [vi e]) (rest := []) (by decide +kernel) (q := 243) (nq := 13) (kq := 13) ⟨by decide, rfl⟩ rfl rfl rfl rfl (xe_mono (C_X8_lookIn_243 s0 hG0 (hJ0.fl f0 (by decide +kernel)) e (by first | exact x_rb b_e rfl rfl | exact ⟨by omega, by omega⟩)) ?_)
              rintro s20 v ⟨hG_s20, t_s20, rfl⟩
              have f_s20 : FL [3329, 3334, 3335, 3336, 3392, 3456, 3520, 3584, 3276, 3648, 3712, 3776, 3840, 3904, 3968, 3277, 4032] s0 s20 := f0.tr t_s20 (by decide +kernel)
              have q21 : s20 1 4 = z1 := (t_s20 1 4 (show 69 ∉ [3329, 3334, 3335, 3336, 3392, 3456, 3520, 3584, 3276, 3648, 3712, 3776, 3840, 3904, 3968, 3277, 4032] from by decide +kernel)).trans e_z1.symm
              have q22 : s20 0 10 = z12 := (t_s20 0 10 (show 11 ∉ [3329, 3334, 3335, 3336, 3392, 3456, 3520, 3584, 3276, 3648, 3712, 3776, 3840, 3904, 3968, 3277, 4032] from by decide +kernel)).trans e_z12.symm
              show xe none 112 70 [(0, .ref 0), (1, vi a), (2, vi b), (3, vi d), (4, vi e), (5, vi h)] [] s20 0 0 _
              refine x_A k112_70 (fun _ => rfl) ?_
              refine x_getR k112_71 (f := 2) rfl (q := 0) (n := 12) (kd := 3) ⟨by decide, rfl⟩ (q2 := 50) (by decide) rfl ?_
              refine x_A k112_74 (fun _ => rfl) ?_
              refine x_A k112_75 (fun _ => rfl) ?_
              refine x_callV k112_77 (y := 27) (n := 2) (w0 := 0) (w1 := 2) (as := [vi a, vi e]) (rest := []) (by decide +kernel) (q := 50) (nq := 7) (kq := 6) ⟨by decide, rfl⟩ rfl rfl rfl rfl (xe_mono (C_X2_picturesOf_50 s20 hG_s20 a (by first | exact x_rb b_a rfl rfl | exact ⟨by omega, by omega⟩) e (by first | exact x_rb b_e rfl rfl | exact ⟨by omega, by omega⟩)) ?_)
              rintro s24 v ⟨-, t_s24, z23, rfl, b_z23⟩
              rw [t_s24.nil]
              show xe none 112 80 [(0, .ref 0), (1, vi a), (2, vi b), (3, vi d), (4, vi e), (5, vi h)] [vj z23] s20 0 0 _
              refine x_A k112_80 (fun _ => rfl) ?_
              refine x_getR k112_81 (f := 2) rfl (q := 0) (n := 12) (kd := 3) ⟨by decide, rfl⟩ (q2 := 50) (by decide) rfl ?_
              refine x_A k112_84 (fun _ => rfl) ?_
              refine x_A k112_85 (fun _ => rfl) ?_
              refine x_callV k112_87 (y := 27) (n := 2) (w0 := 2) (w1 := 2) (as := [vi b, vi e]) (rest := [vj z23]) (by decide +kernel) (q := 50) (nq := 7) (kq := 6) ⟨by decide, rfl⟩ rfl rfl rfl rfl (xe_mono (C_X2_picturesOf_50 s20 hG_s20 b (by first | exact x_rb b_b rfl rfl | exact ⟨by omega, by omega⟩) e (by first | exact x_rb b_e rfl rfl | exact ⟨by omega, by omega⟩)) ?_)
              rintro s26 v ⟨-, t_s26, z25, rfl, b_z25⟩
              rw [t_s26.nil]
              show xe none 112 90 [(0, .ref 0), (1, vi a), (2, vi b), (3, vi d), (4, vi e), (5, vi h)] [vj z25, vj z23] s20 0 0 _
              refine x_land_any k112_90 (fun z27 b_z27 => ?_)
              refine x_lstore k112_91 (ls' := [(6, vj z27), (0, .ref 0), (1, vi a), (2, vi b), (3, vi d), (4, vi e), (5, vi h)]) (by decide) rfl ?_
              refine x_A k112_93 (fun _ => rfl) ?_
              refine x_getR k112_94 (f := 9) rfl (q := 0) (n := 12) (kd := 3) ⟨by decide, rfl⟩ (q2 := 243) (by decide) rfl ?_
              refine x_A k112_97 (fun _ => rfl) ?_
              refine x_A k112_98 (fun _ => rfl) ?_
              refine x_callV k112_99 (y := 82) (n := 2) (w0 := 0) (w1 := 2) (as := [vi a, vi d]) (rest := []) (by decide +kernel) (q := 243) (nq := 13) (kq := 13) ⟨by decide, rfl⟩ rfl rfl rfl rfl (xe_mono (C_X8_seenBy_243 s20 hG_s20 a (by first | exact x_rb b_a rfl rfl | exact ⟨by omega, by omega⟩) d (by first | exact x_rb b_d rfl rfl | exact ⟨by omega, by omega⟩)) ?_)
              rintro s29 v ⟨-, t_s29, z28, rfl, b_z28⟩
              rw [t_s29.nil]
              show xe none 112 102 [(6, vj z27), (0, .ref 0), (1, vi a), (2, vi b), (3, vi d), (4, vi e), (5, vi h)] [vj z28] s20 0 0 _
              refine x_A k112_102 (fun _ => rfl) ?_
              refine x_land_any k112_104 (fun z30 b_z30 => ?_)
              refine x_lstore k112_105 (ls' := [(8, vj z30), (6, vj z27), (0, .ref 0), (1, vi a), (2, vi b), (3, vi d), (4, vi e), (5, vi h)]) (by decide) rfl ?_
              refine x_A k112_107 (fun _ => rfl) ?_
              refine x_getR k112_108 (f := 9) rfl (q := 0) (n := 12) (kd := 3) ⟨by decide, rfl⟩ (q2 := 243) (by decide) rfl ?_
              refine x_A k112_111 (fun _ => rfl) ?_
              refine x_A k112_112 (fun _ => rfl) ?_
              refine x_callV k112_113 (y := 82) (n := 2) (w0 := 0) (w1 := 2) (as := [vi b, vi d]) (rest := []) (by decide +kernel) (q := 243) (nq := 13) (kq := 13) ⟨by decide, rfl⟩ rfl rfl rfl rfl (xe_mono (C_X8_seenBy_243 s20 hG_s20 b (by first | exact x_rb b_b rfl rfl | exact ⟨by omega, by omega⟩) d (by first | exact x_rb b_d rfl rfl | exact ⟨by omega, by omega⟩)) ?_)
              rintro s32 v ⟨-, t_s32, z31, rfl, b_z31⟩
              rw [t_s32.nil]
              show xe none 112 116 [(8, vj z30), (6, vj z27), (0, .ref 0), (1, vi a), (2, vi b), (3, vi d), (4, vi e), (5, vi h)] [vj z31] s20 0 0 _
              refine x_A k112_116 (fun _ => rfl) ?_
              refine x_land_any k112_118 (fun z33 b_z33 => ?_)
              refine x_lstore k112_119 (ls' := [(10, vj z33), (8, vj z30), (6, vj z27), (0, .ref 0), (1, vi a), (2, vi b), (3, vi d), (4, vi e), (5, vi h)]) (by decide) rfl ?_
              refine x_A k112_121 (fun _ => rfl) ?_
              have c34 : h = 0 ∨ h = 1 ∨ h = 2 ∨ h = 3 ∨ ¬ (0 ≤ h ∧ h ≤ 3) := by omega
              rcases c34 with c34 | c34 | c34 | c34 | c34
              · rw [c34]
                refine x_B k112_123 rfl (fun _ => rfl) (fun _ => rfl) (fun _ _ => rfl) ?_
                show xe none 112 152 [(10, vj z33), (8, vj z30), (6, vj z27), (0, .ref 0), (1, vi a), (2, vi b), (3, vi d), (4, vi e), (5, vi 0)] [] s20 0 0 _
                refine x_A k112_152 (fun _ => rfl) ?_
                refine x_callS k112_154 (y := 219) (n := 1) (w0 := 0) (w1 := 2) (as := [vj z27]) (rest := []) (by decide +kernel) rfl rfl rfl rfl (xe_mono (C_J13_bitCount_95d88 s20 hG_s20 z27 b_z27) ?_)
                rintro s36 v ⟨-, t_s36, z35, rfl, g_z35⟩
                rw [t_s36.nil]
                show xe none 112 157 [(10, vj z33), (8, vj z30), (6, vj z27), (0, .ref 0), (1, vi a), (2, vi b), (3, vi d), (4, vi e), (5, vi 0)] [vi z35] s20 0 0 _
                exact x_iret k112_157 rfl ⟨hG_s20, f_s20, z35, rfl, (by first | exact x_rbe e_z35 g_z35 rfl rfl | exact x_rb g_z35 rfl rfl | exact ⟨by omega, by omega⟩)⟩
              · rw [c34]
                refine x_B k112_123 rfl (fun _ => rfl) (fun _ => rfl) (fun _ _ => rfl) ?_
                show xe none 112 158 [(10, vj z33), (8, vj z30), (6, vj z27), (0, .ref 0), (1, vi a), (2, vi b), (3, vi d), (4, vi e), (5, vi 1)] [] s20 0 0 _
                refine x_A k112_158 (fun _ => rfl) ?_
                refine x_callS k112_160 (y := 219) (n := 1) (w0 := 0) (w1 := 2) (as := [vj z30]) (rest := []) (by decide +kernel) rfl rfl rfl rfl (xe_mono (C_J13_bitCount_95d88 s20 hG_s20 z30 b_z30) ?_)
                rintro s38 v ⟨-, t_s38, z37, rfl, g_z37⟩
                rw [t_s38.nil]
                show xe none 112 163 [(10, vj z33), (8, vj z30), (6, vj z27), (0, .ref 0), (1, vi a), (2, vi b), (3, vi d), (4, vi e), (5, vi 1)] [vi z37] s20 0 0 _
                exact x_iret k112_163 rfl ⟨hG_s20, f_s20, z37, rfl, (by first | exact x_rbe e_z37 g_z37 rfl rfl | exact x_rb g_z37 rfl rfl | exact ⟨by omega, by omega⟩)⟩
              · rw [c34]
                refine x_B k112_123 rfl (fun _ => rfl) (fun _ => rfl) (fun _ _ => rfl) ?_
                show xe none 112 164 [(10, vj z33), (8, vj z30), (6, vj z27), (0, .ref 0), (1, vi a), (2, vi b), (3, vi d), (4, vi e), (5, vi 2)] [] s20 0 0 _
                refine x_A k112_164 (fun _ => rfl) ?_
                refine x_callS k112_166 (y := 219) (n := 1) (w0 := 0) (w1 := 2) (as := [vj z33]) (rest := []) (by decide +kernel) rfl rfl rfl rfl (xe_mono (C_J13_bitCount_95d88 s20 hG_s20 z33 b_z33) ?_)
                rintro s40 v ⟨-, t_s40, z39, rfl, g_z39⟩
                rw [t_s40.nil]
                show xe none 112 169 [(10, vj z33), (8, vj z30), (6, vj z27), (0, .ref 0), (1, vi a), (2, vi b), (3, vi d), (4, vi e), (5, vi 2)] [vi z39] s20 0 0 _
                exact x_iret k112_169 rfl ⟨hG_s20, f_s20, z39, rfl, (by first | exact x_rbe e_z39 g_z39 rfl rfl | exact x_rb g_z39 rfl rfl | exact ⟨by omega, by omega⟩)⟩
              · rw [c34]
                refine x_B k112_123 rfl (fun _ => rfl) (fun _ => rfl) (fun _ _ => rfl) ?_
                show xe none 112 170 [(10, vj z33), (8, vj z30), (6, vj z27), (0, .ref 0), (1, vi a), (2, vi b), (3, vi d), (4, vi e), (5, vi 3)] [] s20 0 0 _
                refine x_A k112_170 (fun _ => rfl) ?_
                refine x_A k112_172 (fun _ => rfl) ?_
                refine x_land_any k112_174 (fun z41 b_z41 => ?_)
                refine x_callS k112_175 (y := 219) (n := 1) (w0 := 0) (w1 := 2) (as := [vj z41]) (rest := []) (by decide +kernel) rfl rfl rfl rfl (xe_mono (C_J13_bitCount_95d88 s20 hG_s20 z41 b_z41) ?_)
                rintro s43 v ⟨-, t_s43, z42, rfl, g_z42⟩
                rw [t_s43.nil]
                show xe none 112 178 [(10, vj z33), (8, vj z30), (6, vj z27), (0, .ref 0), (1, vi a), (2, vi b), (3, vi d), (4, vi e), (5, vi 3)] [vi z42] s20 0 0 _
                exact x_iret k112_178 rfl ⟨hG_s20, f_s20, z42, rfl, (by first | exact x_rbe e_z42 g_z42 rfl rfl | exact x_rb g_z42 rfl rfl | exact ⟨by omega, by omega⟩)⟩
              · refine x_tabD k112_123 ⟨by omega, by omega⟩ c34 (t0 := 179) rfl ?_
                refine x_A k112_179 (fun _ => rfl) ?_
                refine x_A k112_181 (fun _ => rfl) ?_
                refine x_callS k112_183 (y := 129) (n := 2) (w0 := 0) (w1 := 4) (as := [vj z30, vj z33]) (rest := []) (by decide +kernel) rfl rfl rfl rfl (xe_mono (C_X10_missed s20 hG_s20 z30 b_z30 z33 b_z33) ?_)
                rintro s45 v ⟨-, t_s45, z44, rfl, g_z44⟩
                rw [t_s45.nil]
                show xe none 112 186 [(10, vj z33), (8, vj z30), (6, vj z27), (0, .ref 0), (1, vi a), (2, vi b), (3, vi d), (4, vi e), (5, vi h)] [vi z44] s20 0 0 _
                exact x_iret k112_186 rfl ⟨hG_s20, f_s20, z44, rfl, (by first | exact x_rbe e_z44 g_z44 rfl rfl | exact x_rb g_z44 rfl rfl | exact ⟨by omega, by omega⟩)⟩
            · rw [e_z16]
              show xe none 112 54 [(0, .ref 0), (1, vi a), (2, vi b), (3, vi d), (4, vi e), (5, vi h)] [vi 0] s0 0 0 _
              refine x_if_ne k112_54 (t := 61) rfl ⟨by decide, by decide⟩ (fun c46 => by exfalso; omega) (fun c46 => ?_)
              refine x_sipush k112_57 (by decide +kernel) ?_
              exact x_iret k112_60 rfl ⟨hG0, f0, (-1002), rfl, ⟨by decide, by decide⟩⟩
          · rw [e_z13]
            show xe none 112 44 [(0, .ref 0), (1, vi a), (2, vi b), (3, vi d), (4, vi e), (5, vi h)] [vi 0] s0 0 0 _
            refine x_if_eq k112_44 (t := 57) rfl ⟨by decide, by decide⟩ (fun c47 => ?_) (fun c47 => by exfalso; omega)
            refine x_sipush k112_57 (by decide +kernel) ?_
            exact x_iret k112_60 rfl ⟨hG0, f0, (-1002), rfl, ⟨by decide, by decide⟩⟩
        · skip
          refine x_sipush k112_34 (by decide +kernel) ?_
          exact x_iret k112_37 rfl ⟨hG0, f0, (-1002), rfl, ⟨by decide, by decide⟩⟩
      · rw [e_z8]
        show xe none 112 26 [(0, .ref 0), (1, vi a), (2, vi b), (3, vi d), (4, vi e), (5, vi h)] [vi 0] s0 0 0 _
        refine x_if_eq k112_26 (t := 34) rfl ⟨by decide, by decide⟩ (fun c48 => ?_) (fun c48 => by exfalso; omega)
        refine x_sipush k112_34 (by decide +kernel) ?_
        exact x_iret k112_37 rfl ⟨hG0, f0, (-1002), rfl, ⟨by decide, by decide⟩⟩
    · rw [e_z5]
      show xe none 112 19 [(0, .ref 0), (1, vi a), (2, vi b), (3, vi d), (4, vi e), (5, vi h)] [vi 0] s0 0 0 _
      refine x_if_eq k112_19 (t := 34) rfl ⟨by decide, by decide⟩ (fun c49 => ?_) (fun c49 => by exfalso; omega)
      refine x_sipush k112_34 (by decide +kernel) ?_
      exact x_iret k112_37 rfl ⟨hG0, f0, (-1002), rfl, ⟨by decide, by decide⟩⟩
  · rw [e_z2]
    show xe none 112 8 [(0, .ref 0), (1, vi a), (2, vi b), (3, vi d), (4, vi e), (5, vi h)] [vi 0] s0 0 0 _
    refine x_if_ne k112_8 (t := 15) rfl ⟨by decide, by decide⟩ (fun c50 => by exfalso; omega) (fun c50 => ?_)
    refine x_sipush k112_11 (by decide +kernel) ?_
    exact x_iret k112_14 rfl ⟨hG0, f0, (-1001), rfl, ⟨by decide, by decide⟩⟩
theorem C_X10_together_0 (s0 : xS) (hG0 : GI s0) (hJ0 : J s0) (a : Int) (b_a : (-2147483648) ≤ a ∧ a ≤ 2147483647) (b : Int) (b_b : (-2147483648) ≤ b ∧ b ≤ 2147483647) (d : Int) (b_d : (-2147483648) ≤ d ∧ d ≤ 2147483647) (e : Int) (b_e : (-2147483648) ≤ e ∧ e ≤ 2147483647) (h : Int) (b_h : (-2147483648) ≤ h ∧ h ≤ 2147483647) (j : Int) (b_j : (-2147483648) ≤ j ∧ j ≤ 2147483647) : xe none 113 0 (lv_args 0 [.ref 0, vi a, vi b, vi d, vi e, vi h, vi j]) [] s0 0 0 (fun s' v => GI s' ∧ FL [3329, 3334, 3335, 3336, 3392, 3456, 3520, 3584, 3276, 3648, 3712, 3776, 3840, 3904, 3968, 3277, 4032] s0 s' ∧ ∃ z, v = some (vi z) ∧ ((-1004) ≤ z ∧ z ≤ 127)) := by
  have f0 : FL [3329, 3334, 3335, 3336, 3392, 3456, 3520, 3584, 3276, 3648, 3712, 3776, 3840, 3904, 3968, 3277, 4032] s0 s0 := FL.rf
  show xe none 113 0 [(0, .ref 0), (1, vi a), (2, vi b), (3, vi d), (4, vi e), (5, vi h), (6, vi j)] [] s0 0 0 _
  refine x_A k113_0 (fun _ => rfl) ?_
  refine x_getR k113_1 (f := 0) rfl (q := 0) (n := 12) (kd := 3) ⟨by decide, rfl⟩ (q2 := 1) (by decide) rfl ?_
  refine x_A k113_4 (fun _ => rfl) ?_
  obtain ⟨z1, e_z1⟩ : ∃ z, z = s0 1 4 := ⟨_, rfl⟩
  have g_z1 : (1 : Int) ≤ s0 1 4 ∧ s0 1 4 ≤ 40 := hG0 1 4
  refine x_callV k113_5 (y := 59) (n := 1) (w0 := 0) (w1 := 1) (as := [vi a]) (rest := []) (by decide +kernel) (q := 1) (nq := 5) (kq := 4) ⟨by decide, rfl⟩ rfl rfl rfl rfl (xe_mono (C_X7_has_1 s0 hG0 a (by first | exact x_rb b_a rfl rfl | exact ⟨by omega, by omega⟩)) ?_)
  rintro s3 v ⟨h_s3, z2, rfl, hz_z2⟩
  rw [h_s3]
  rcases hz_z2 with ⟨c_z2, e_z2⟩ | ⟨c_z2, e_z2⟩
  · rw [e_z2]
    show xe none 113 8 [(0, .ref 0), (1, vi a), (2, vi b), (3, vi d), (4, vi e), (5, vi h), (6, vi j)] [vi 1] s0 0 0 _
    refine x_if_eq k113_8 (t := 22) rfl ⟨by decide, by decide⟩ (fun c4 => by exfalso; omega) (fun c4 => ?_)
    refine x_A k113_11 (fun _ => rfl) ?_
    refine x_getR k113_12 (f := 0) rfl (q := 0) (n := 12) (kd := 3) ⟨by decide, rfl⟩ (q2 := 1) (by decide) rfl ?_
    refine x_A k113_15 (fun _ => rfl) ?_
    refine x_callV k113_16 (y := 59) (n := 1) (w0 := 0) (w1 := 1) (as := [vi b]) (rest := []) (by decide +kernel) (q := 1) (nq := 5) (kq := 4) ⟨by decide, rfl⟩ rfl rfl rfl rfl (xe_mono (C_X7_has_1 s0 hG0 b (by first | exact x_rb b_b rfl rfl | exact ⟨by omega, by omega⟩)) ?_)
    rintro s6 v ⟨h_s6, z5, rfl, hz_z5⟩
    rw [h_s6]
    rcases hz_z5 with ⟨c_z5, e_z5⟩ | ⟨c_z5, e_z5⟩
    · rw [e_z5]
      show xe none 113 19 [(0, .ref 0), (1, vi a), (2, vi b), (3, vi d), (4, vi e), (5, vi h), (6, vi j)] [vi 1] s0 0 0 _
      refine x_if_ne k113_19 (t := 26) rfl ⟨by decide, by decide⟩ (fun c7 => ?_) (fun c7 => by exfalso; omega)
      refine x_A k113_26 (fun _ => rfl) ?_
      refine x_A k113_27 (fun _ => rfl) ?_
      obtain ⟨z8, e_z8⟩ : ∃ z, z = s0 0 10 := ⟨_, rfl⟩
      have g_z8 : (0 : Int) ≤ s0 0 10 ∧ s0 0 10 ≤ 9 := hG0 0 10
      refine x_callV k113_28 (y := 125) (n := 1) (w0 := 0) (w1 := 1) (as := [vi d]) (rest := []) (by decide +kernel) (q := 0) (nq := 12) (kq := 3) ⟨by decide, rfl⟩ rfl rfl rfl rfl (xe_mono (C_X10_isKnownEdition_0 s0 hG0 d (by first | exact x_rb b_d rfl rfl | exact ⟨by omega, by omega⟩)) ?_)
      rintro s10 v ⟨h_s10, z9, rfl, hz_z9⟩
      rw [h_s10]
      rcases hz_z9 with ⟨c_z9, e_z9⟩ | ⟨c_z9, e_z9⟩
      · rw [e_z9]
        show xe none 113 31 [(0, .ref 0), (1, vi a), (2, vi b), (3, vi d), (4, vi e), (5, vi h), (6, vi j)] [vi 1] s0 0 0 _
        refine x_if_eq k113_31 (t := 44) rfl ⟨by decide, by decide⟩ (fun c11 => by exfalso; omega) (fun c11 => ?_)
        refine x_A k113_34 (fun _ => rfl) ?_
        refine x_A k113_36 (fun _ => rfl) ?_
        refine x_A k113_37 (fun _ => rfl) ?_
        refine x_callS k113_38 (y := 121) (n := 3) (w0 := 0) (w1 := 3) (as := [vi j, vi 0, vi 4]) (rest := []) (by decide +kernel) rfl rfl rfl rfl (xe_mono (C_X10_isWithin s0 hG0 j (by first | exact x_rb b_j rfl rfl | exact ⟨by omega, by omega⟩) 0 ⟨by decide, by decide⟩ 4 ⟨by decide, by decide⟩) ?_)
        rintro s13 v ⟨h_s13, z12, rfl, hz_z12⟩
        rw [h_s13]
        rcases hz_z12 with ⟨c_z12, e_z12⟩ | ⟨c_z12, e_z12⟩
        · rw [e_z12]
          show xe none 113 41 [(0, .ref 0), (1, vi a), (2, vi b), (3, vi d), (4, vi e), (5, vi h), (6, vi j)] [vi 1] s0 0 0 _
          refine x_if_ne k113_41 (t := 48) rfl ⟨by decide, by decide⟩ (fun c14 => ?_) (fun c14 => by exfalso; omega)
          refine x_A k113_48 (fun _ => rfl) ?_
          refine x_callS k113_50 (y := 122) (n := 1) (w0 := 0) (w1 := 1) (as := [vi e]) (rest := []) (by decide +kernel) rfl rfl rfl rfl (xe_mono (C_X10_isYear s0 hG0 e (by first | exact x_rb b_e rfl rfl | exact ⟨by omega, by omega⟩)) ?_)
          rintro s16 v ⟨h_s16, z15, rfl, hz_z15⟩
          rw [h_s16]
          rcases hz_z15 with ⟨c_z15, e_z15⟩ | ⟨c_z15, e_z15⟩
          · rw [e_z15]
            show xe none 113 53 [(0, .ref 0), (1, vi a), (2, vi b), (3, vi d), (4, vi e), (5, vi h), (6, vi j)] [vi 1] s0 0 0 _
            refine x_if_eq k113_53 (t := 71) rfl ⟨by decide, by decide⟩ (fun c17 => by exfalso; omega) (fun c17 => ?_)
            refine x_A k113_56 (fun _ => rfl) ?_
            refine x_callS k113_58 (y := 122) (n := 1) (w0 := 0) (w1 := 1) (as := [vi h]) (rest := []) (by decide +kernel) rfl rfl rfl rfl (xe_mono (C_X10_isYear s0 hG0 h (by first | exact x_rb b_h rfl rfl | exact ⟨by omega, by omega⟩)) ?_)
            rintro s19 v ⟨h_s19, z18, rfl, hz_z18⟩
            rw [h_s19]
            rcases hz_z18 with ⟨c_z18, e_z18⟩ | ⟨c_z18, e_z18⟩
            · rw [e_z18]
              show xe none 113 61 [(0, .ref 0), (1, vi a), (2, vi b), (3, vi d), (4, vi e), (5, vi h), (6, vi j)] [vi 1] s0 0 0 _
              refine x_if_eq k113_61 (t := 71) rfl ⟨by decide, by decide⟩ (fun c20 => by exfalso; omega) (fun c20 => ?_)
              refine x_A k113_64 (fun _ => rfl) ?_
              refine x_A k113_66 (fun _ => rfl) ?_
              refine x_ic_ge k113_68 (t := 75) rfl (by first | exact x_rb b_h rfl rfl | exact ⟨by omega, by omega⟩) (by first | exact x_rb b_e rfl rfl | exact ⟨by omega, by omega⟩) (fun c21 => ?_) (fun c21 => ?_)
              · skip
                refine x_A k113_75 (fun _ => rfl) ?_
                refine x_getR k113_76 (f := 9) rfl (q := 0) (n := 12) (kd := 3) ⟨by decide, rfl⟩ (q2 := 243) (by decide) rfl ?_
                refine x_A k113_79 (fun _ => rfl) ?_
                refine x_callV k113_80 (y := 76) (n := 1) (w0 := 0) (w1 := 1) (as := [vi d]) (rest := []) (by decide +kernel) (q := 243) (nq := 13) (kq := 13) ⟨by decide, rfl⟩ rfl rfl rfl rfl (xe_mono (C_X8_lookIn_243 s0 hG0 (hJ0.fl f0 (by decide +kernel)) d (by first | exact x_rb b_d rfl rfl | exact ⟨by omega, by omega⟩)) ?_)
                rintro s23 v ⟨hG_s23, t_s23, rfl⟩
                have f_s23 : FL [3329, 3334, 3335, 3336, 3392, 3456, 3520, 3584, 3276, 3648, 3712, 3776, 3840, 3904, 3968, 3277, 4032] s0 s23 := f0.tr t_s23 (by decide +kernel)
                have q24 : s23 1 4 = z1 := (t_s23 1 4 (show 69 ∉ [3329, 3334, 3335, 3336, 3392, 3456, 3520, 3584, 3276, 3648, 3712, 3776, 3840, 3904, 3968, 3277, 4032] from by decide +kernel)).trans e_z1.symm
                have q25 : s23 0 10 = z8 := (t_s23 0 10 (show 11 ∉ [3329, 3334, 3335, 3336, 3392, 3456, 3520, 3584, 3276, 3648, 3712, 3776, 3840, 3904, 3968, 3277, 4032] from by decide +kernel)).trans e_z8.symm
                show xe none 113 83 [(0, .ref 0), (1, vi a), (2, vi b), (3, vi d), (4, vi e), (5, vi h), (6, vi j)] [] s23 0 0 _
                refine x_A k113_83 (fun _ => rfl) ?_
                refine x_getR k113_84 (f := 1) rfl (q := 0) (n := 12) (kd := 3) ⟨by decide, rfl⟩ (q2 := 46) (by decide) rfl ?_
                refine x_A k113_87 (fun _ => rfl) ?_
                refine x_A k113_89 (fun _ => rfl) ?_
                refine x_callV k113_91 (y := 32) (n := 2) (w0 := 0) (w1 := 2) (as := [vi e, vi h]) (rest := []) (by decide +kernel) (q := 46) (nq := 4) (kq := 5) ⟨by decide, rfl⟩ rfl rfl rfl rfl (xe_mono (C_X3_ofYears_46 s23 hG_s23 e (by first | exact x_rb b_e rfl rfl | exact ⟨by omega, by omega⟩) h (by first | exact x_rb b_h rfl rfl | exact ⟨by omega, by omega⟩)) ?_)
                rintro s27 v ⟨-, t_s27, z26, rfl, b_z26⟩
                rw [t_s27.nil]
                show xe none 113 94 [(0, .ref 0), (1, vi a), (2, vi b), (3, vi d), (4, vi e), (5, vi h), (6, vi j)] [vj z26] s23 0 0 _
                refine x_lstore k113_94 (ls' := [(7, vj z26), (0, .ref 0), (1, vi a), (2, vi b), (3, vi d), (4, vi e), (5, vi h), (6, vi j)]) (by decide) rfl ?_
                refine x_A k113_96 (fun _ => rfl) ?_
                refine x_getR k113_97 (f := 9) rfl (q := 0) (n := 12) (kd := 3) ⟨by decide, rfl⟩ (q2 := 243) (by decide) rfl ?_
                refine x_A k113_100 (fun _ => rfl) ?_
                refine x_callV k113_101 (y := 79) (n := 1) (w0 := 0) (w1 := 1) (as := [vi a]) (rest := []) (by decide +kernel) (q := 243) (nq := 13) (kq := 13) ⟨by decide, rfl⟩ rfl rfl rfl rfl (xe_mono (C_X8_showing_243 s23 hG_s23 a (by first | exact x_rb b_a rfl rfl | exact ⟨by omega, by omega⟩)) ?_)
                rintro s29 v ⟨-, t_s29, z28, rfl, b_z28⟩
                rw [t_s29.nil]
                show xe none 113 104 [(7, vj z26), (0, .ref 0), (1, vi a), (2, vi b), (3, vi d), (4, vi e), (5, vi h), (6, vi j)] [vj z28] s23 0 0 _
                refine x_A k113_104 (fun _ => rfl) ?_
                refine x_land_any k113_106 (fun z30 b_z30 => ?_)
                refine x_lstore k113_107 (ls' := [(9, vj z30), (7, vj z26), (0, .ref 0), (1, vi a), (2, vi b), (3, vi d), (4, vi e), (5, vi h), (6, vi j)]) (by decide) rfl ?_
                refine x_A k113_109 (fun _ => rfl) ?_
                refine x_getR k113_110 (f := 9) rfl (q := 0) (n := 12) (kd := 3) ⟨by decide, rfl⟩ (q2 := 243) (by decide) rfl ?_
                refine x_A k113_113 (fun _ => rfl) ?_
                refine x_callV k113_114 (y := 79) (n := 1) (w0 := 0) (w1 := 1) (as := [vi b]) (rest := []) (by decide +kernel) (q := 243) (nq := 13) (kq := 13) ⟨by decide, rfl⟩ rfl rfl rfl rfl (xe_mono (C_X8_showing_243 s23 hG_s23 b (by first | exact x_rb b_b rfl rfl | exact ⟨by omega, by omega⟩)) ?_)
                rintro s32 v ⟨-, t_s32, z31, rfl, b_z31⟩
                rw [t_s32.nil]
                show xe none 113 117 [(9, vj z30), (7, vj z26), (0, .ref 0), (1, vi a), (2, vi b), (3, vi d), (4, vi e), (5, vi h), (6, vi j)] [vj z31] s23 0 0 _
                refine x_A k113_117 (fun _ => rfl) ?_
                refine x_land_any k113_119 (fun z33 b_z33 => ?_)
                refine x_lstore k113_120 (ls' := [(11, vj z33), (9, vj z30), (7, vj z26), (0, .ref 0), (1, vi a), (2, vi b), (3, vi d), (4, vi e), (5, vi h), (6, vi j)]) (by decide) rfl ?_
                refine x_A k113_122 (fun _ => rfl) ?_
                have c34 : j = 0 ∨ j = 1 ∨ j = 2 ∨ j = 3 ∨ ¬ (0 ≤ j ∧ j ≤ 3) := by omega
                rcases c34 with c34 | c34 | c34 | c34 | c34
                · rw [c34]
                  refine x_B k113_124 rfl (fun _ => rfl) (fun _ => rfl) (fun _ _ => rfl) ?_
                  show xe none 113 156 [(11, vj z33), (9, vj z30), (7, vj z26), (0, .ref 0), (1, vi a), (2, vi b), (3, vi d), (4, vi e), (5, vi h), (6, vi 0)] [] s23 0 0 _
                  refine x_A k113_156 (fun _ => rfl) ?_
                  refine x_callS k113_158 (y := 219) (n := 1) (w0 := 0) (w1 := 2) (as := [vj z30]) (rest := []) (by decide +kernel) rfl rfl rfl rfl (xe_mono (C_J13_bitCount_95d88 s23 hG_s23 z30 b_z30) ?_)
                  rintro s36 v ⟨-, t_s36, z35, rfl, g_z35⟩
                  rw [t_s36.nil]
                  show xe none 113 161 [(11, vj z33), (9, vj z30), (7, vj z26), (0, .ref 0), (1, vi a), (2, vi b), (3, vi d), (4, vi e), (5, vi h), (6, vi 0)] [vi z35] s23 0 0 _
                  exact x_iret k113_161 rfl ⟨hG_s23, f_s23, z35, rfl, (by first | exact x_rbe e_z35 g_z35 rfl rfl | exact x_rb g_z35 rfl rfl | exact ⟨by omega, by omega⟩)⟩
                · rw [c34]
                  refine x_B k113_124 rfl (fun _ => rfl) (fun _ => rfl) (fun _ _ => rfl) ?_
                  show xe none 113 162 [(11, vj z33), (9, vj z30), (7, vj z26), (0, .ref 0), (1, vi a), (2, vi b), (3, vi d), (4, vi e), (5, vi h), (6, vi 1)] [] s23 0 0 _
                  refine x_A k113_162 (fun _ => rfl) ?_
                  refine x_callS k113_164 (y := 219) (n := 1) (w0 := 0) (w1 := 2) (as := [vj z33]) (rest := []) (by decide +kernel) rfl rfl rfl rfl (xe_mono (C_J13_bitCount_95d88 s23 hG_s23 z33 b_z33) ?_)
                  rintro s38 v ⟨-, t_s38, z37, rfl, g_z37⟩
                  rw [t_s38.nil]
                  show xe none 113 167 [(11, vj z33), (9, vj z30), (7, vj z26), (0, .ref 0), (1, vi a), (2, vi b), (3, vi d), (4, vi e), (5, vi h), (6, vi 1)] [vi z37] s23 0 0 _
                  exact x_iret k113_167 rfl ⟨hG_s23, f_s23, z37, rfl, (by first | exact x_rbe e_z37 g_z37 rfl rfl | exact x_rb g_z37 rfl rfl | exact ⟨by omega, by omega⟩)⟩
                · rw [c34]
                  refine x_B k113_124 rfl (fun _ => rfl) (fun _ => rfl) (fun _ _ => rfl) ?_
                  show xe none 113 168 [(11, vj z33), (9, vj z30), (7, vj z26), (0, .ref 0), (1, vi a), (2, vi b), (3, vi d), (4, vi e), (5, vi h), (6, vi 2)] [] s23 0 0 _
                  refine x_A k113_168 (fun _ => rfl) ?_
                  refine x_A k113_170 (fun _ => rfl) ?_
                  refine x_land_any k113_172 (fun z39 b_z39 => ?_)
                  refine x_callS k113_173 (y := 219) (n := 1) (w0 := 0) (w1 := 2) (as := [vj z39]) (rest := []) (by decide +kernel) rfl rfl rfl rfl (xe_mono (C_J13_bitCount_95d88 s23 hG_s23 z39 b_z39) ?_)
                  rintro s41 v ⟨-, t_s41, z40, rfl, g_z40⟩
                  rw [t_s41.nil]
                  show xe none 113 176 [(11, vj z33), (9, vj z30), (7, vj z26), (0, .ref 0), (1, vi a), (2, vi b), (3, vi d), (4, vi e), (5, vi h), (6, vi 2)] [vi z40] s23 0 0 _
                  exact x_iret k113_176 rfl ⟨hG_s23, f_s23, z40, rfl, (by first | exact x_rbe e_z40 g_z40 rfl rfl | exact x_rb g_z40 rfl rfl | exact ⟨by omega, by omega⟩)⟩
                · rw [c34]
                  refine x_B k113_124 rfl (fun _ => rfl) (fun _ => rfl) (fun _ _ => rfl) ?_
                  show xe none 113 177 [(11, vj z33), (9, vj z30), (7, vj z26), (0, .ref 0), (1, vi a), (2, vi b), (3, vi d), (4, vi e), (5, vi h), (6, vi 3)] [] s23 0 0 _
                  refine x_A k113_177 (fun _ => rfl) ?_
                  refine x_callS k113_179 (y := 219) (n := 1) (w0 := 0) (w1 := 2) (as := [vj z26]) (rest := []) (by decide +kernel) rfl rfl rfl rfl (xe_mono (C_J13_bitCount_95d88 s23 hG_s23 z26 b_z26) ?_)
                  rintro s43 v ⟨-, t_s43, z42, rfl, g_z42⟩
                  rw [t_s43.nil]
                  show xe none 113 182 [(11, vj z33), (9, vj z30), (7, vj z26), (0, .ref 0), (1, vi a), (2, vi b), (3, vi d), (4, vi e), (5, vi h), (6, vi 3)] [vi z42] s23 0 0 _
                  exact x_iret k113_182 rfl ⟨hG_s23, f_s23, z42, rfl, (by first | exact x_rbe e_z42 g_z42 rfl rfl | exact x_rb g_z42 rfl rfl | exact ⟨by omega, by omega⟩)⟩
                · refine x_tabD k113_124 ⟨by omega, by omega⟩ c34 (t0 := 183) rfl ?_
                  refine x_A k113_183 (fun _ => rfl) ?_
                  refine x_A k113_185 (fun _ => rfl) ?_
                  refine x_A k113_187 (fun _ => rfl) ?_
                  refine x_callS k113_189 (y := 219) (n := 1) (w0 := 4) (w1 := 2) (as := [vj z26]) (rest := [vj z33, vj z30]) (by decide +kernel) rfl rfl rfl rfl (xe_mono (C_J13_bitCount_95d88 s23 hG_s23 z26 b_z26) ?_)
                  rintro s45 v ⟨-, t_s45, z44, rfl, g_z44⟩
                  rw [t_s45.nil]
                  show xe none 113 192 [(11, vj z33), (9, vj z30), (7, vj z26), (0, .ref 0), (1, vi a), (2, vi b), (3, vi d), (4, vi e), (5, vi h), (6, vi j)] [vi z44, vj z33, vj z30] s23 0 0 _
                  refine x_callS k113_192 (y := 130) (n := 3) (w0 := 0) (w1 := 5) (as := [vj z30, vj z33, vi z44]) (rest := []) (by decide +kernel) rfl rfl rfl rfl (xe_mono (C_X10_isBeyondChance s23 hG_s23 z30 b_z30 z33 b_z33 z44 (by first | exact x_rbe e_z44 g_z44 rfl rfl | exact x_rb g_z44 rfl rfl | exact ⟨by omega, by omega⟩)) ?_)
                  rintro s47 v ⟨-, t_s47, z46, rfl, g_z46⟩
                  rw [t_s47.nil]
                  show xe none 113 195 [(11, vj z33), (9, vj z30), (7, vj z26), (0, .ref 0), (1, vi a), (2, vi b), (3, vi d), (4, vi e), (5, vi h), (6, vi j)] [vi z46] s23 0 0 _
                  refine x_callS k113_195 (y := 126) (n := 1) (w0 := 0) (w1 := 1) (as := [vi z46]) (rest := []) (by decide +kernel) rfl rfl rfl rfl (xe_mono (C_X10_oneIf s23 hG_s23 z46 (by first | exact x_rbe e_z46 g_z46 rfl rfl | exact x_rb g_z46 rfl rfl | exact ⟨by omega, by omega⟩)) ?_)
                  rintro s49 v ⟨-, t_s49, z48, rfl, g_z48⟩
                  rw [t_s49.nil]
                  show xe none 113 198 [(11, vj z33), (9, vj z30), (7, vj z26), (0, .ref 0), (1, vi a), (2, vi b), (3, vi d), (4, vi e), (5, vi h), (6, vi j)] [vi z48] s23 0 0 _
                  exact x_iret k113_198 rfl ⟨hG_s23, f_s23, z48, rfl, (by first | exact x_rbe e_z48 g_z48 rfl rfl | exact x_rb g_z48 rfl rfl | exact ⟨by omega, by omega⟩)⟩
              · skip
                refine x_sipush k113_71 (by decide +kernel) ?_
                exact x_iret k113_74 rfl ⟨hG0, f0, (-1002), rfl, ⟨by decide, by decide⟩⟩
            · rw [e_z18]
              show xe none 113 61 [(0, .ref 0), (1, vi a), (2, vi b), (3, vi d), (4, vi e), (5, vi h), (6, vi j)] [vi 0] s0 0 0 _
              refine x_if_eq k113_61 (t := 71) rfl ⟨by decide, by decide⟩ (fun c50 => ?_) (fun c50 => by exfalso; omega)
              refine x_sipush k113_71 (by decide +kernel) ?_
              exact x_iret k113_74 rfl ⟨hG0, f0, (-1002), rfl, ⟨by decide, by decide⟩⟩
          · rw [e_z15]
            show xe none 113 53 [(0, .ref 0), (1, vi a), (2, vi b), (3, vi d), (4, vi e), (5, vi h), (6, vi j)] [vi 0] s0 0 0 _
            refine x_if_eq k113_53 (t := 71) rfl ⟨by decide, by decide⟩ (fun c51 => ?_) (fun c51 => by exfalso; omega)
            refine x_sipush k113_71 (by decide +kernel) ?_
            exact x_iret k113_74 rfl ⟨hG0, f0, (-1002), rfl, ⟨by decide, by decide⟩⟩
        · rw [e_z12]
          show xe none 113 41 [(0, .ref 0), (1, vi a), (2, vi b), (3, vi d), (4, vi e), (5, vi h), (6, vi j)] [vi 0] s0 0 0 _
          refine x_if_ne k113_41 (t := 48) rfl ⟨by decide, by decide⟩ (fun c52 => by exfalso; omega) (fun c52 => ?_)
          refine x_sipush k113_44 (by decide +kernel) ?_
          exact x_iret k113_47 rfl ⟨hG0, f0, (-1002), rfl, ⟨by decide, by decide⟩⟩
      · rw [e_z9]
        show xe none 113 31 [(0, .ref 0), (1, vi a), (2, vi b), (3, vi d), (4, vi e), (5, vi h), (6, vi j)] [vi 0] s0 0 0 _
        refine x_if_eq k113_31 (t := 44) rfl ⟨by decide, by decide⟩ (fun c53 => ?_) (fun c53 => by exfalso; omega)
        refine x_sipush k113_44 (by decide +kernel) ?_
        exact x_iret k113_47 rfl ⟨hG0, f0, (-1002), rfl, ⟨by decide, by decide⟩⟩
    · rw [e_z5]
      show xe none 113 19 [(0, .ref 0), (1, vi a), (2, vi b), (3, vi d), (4, vi e), (5, vi h), (6, vi j)] [vi 0] s0 0 0 _
      refine x_if_ne k113_19 (t := 26) rfl ⟨by decide, by decide⟩ (fun c54 => by exfalso; omega) (fun c54 => ?_)
      refine x_sipush k113_22 (by decide +kernel) ?_
      exact x_iret k113_25 rfl ⟨hG0, f0, (-1001), rfl, ⟨by decide, by decide⟩⟩
  · rw [e_z2]
    show xe none 113 8 [(0, .ref 0), (1, vi a), (2, vi b), (3, vi d), (4, vi e), (5, vi h), (6, vi j)] [vi 0] s0 0 0 _
    refine x_if_eq k113_8 (t := 22) rfl ⟨by decide, by decide⟩ (fun c55 => ?_) (fun c55 => by exfalso; omega)
    refine x_sipush k113_22 (by decide +kernel) ?_
    exact x_iret k113_25 rfl ⟨hG0, f0, (-1001), rfl, ⟨by decide, by decide⟩⟩
theorem C_X10_along_0 (s0 : xS) (hG0 : GI s0) (hJ0 : J s0) (a : Int) (b_a : (-2147483648) ≤ a ∧ a ≤ 2147483647) (b : Int) (b_b : (-2147483648) ≤ b ∧ b ≤ 2147483647) (d : Int) (b_d : (-2147483648) ≤ d ∧ d ≤ 2147483647) : xe none 114 0 (lv_args 0 [.ref 0, vi a, vi b, vi d]) [] s0 0 0 (fun s' v => GI s' ∧ FL [3329, 3334, 3335, 3336, 3392, 3456, 3520, 3584, 3276, 3648, 3712, 3776, 3840, 3904, 3968, 3277, 4032] s0 s' ∧ ∃ z, v = some (vi z) ∧ ((-1004) ≤ z ∧ z ≤ 127)) := by
  have f0 : FL [3329, 3334, 3335, 3336, 3392, 3456, 3520, 3584, 3276, 3648, 3712, 3776, 3840, 3904, 3968, 3277, 4032] s0 s0 := FL.rf
  show xe none 114 0 [(0, .ref 0), (1, vi a), (2, vi b), (3, vi d)] [] s0 0 0 _
  refine x_A k114_0 (fun _ => rfl) ?_
  refine x_getR k114_1 (f := 0) rfl (q := 0) (n := 12) (kd := 3) ⟨by decide, rfl⟩ (q2 := 1) (by decide) rfl ?_
  refine x_A k114_4 (fun _ => rfl) ?_
  obtain ⟨z1, e_z1⟩ : ∃ z, z = s0 1 4 := ⟨_, rfl⟩
  have g_z1 : (1 : Int) ≤ s0 1 4 ∧ s0 1 4 ≤ 40 := hG0 1 4
  refine x_callV k114_5 (y := 59) (n := 1) (w0 := 0) (w1 := 1) (as := [vi a]) (rest := []) (by decide +kernel) (q := 1) (nq := 5) (kq := 4) ⟨by decide, rfl⟩ rfl rfl rfl rfl (xe_mono (C_X7_has_1 s0 hG0 a (by first | exact x_rb b_a rfl rfl | exact ⟨by omega, by omega⟩)) ?_)
  rintro s3 v ⟨h_s3, z2, rfl, hz_z2⟩
  rw [h_s3]
  rcases hz_z2 with ⟨c_z2, e_z2⟩ | ⟨c_z2, e_z2⟩
  · rw [e_z2]
    show xe none 114 8 [(0, .ref 0), (1, vi a), (2, vi b), (3, vi d)] [vi 1] s0 0 0 _
    refine x_if_ne k114_8 (t := 15) rfl ⟨by decide, by decide⟩ (fun c4 => ?_) (fun c4 => by exfalso; omega)
    refine x_A k114_15 (fun _ => rfl) ?_
    refine x_A k114_16 (fun _ => rfl) ?_
    obtain ⟨z5, e_z5⟩ : ∃ z, z = s0 0 10 := ⟨_, rfl⟩
    have g_z5 : (0 : Int) ≤ s0 0 10 ∧ s0 0 10 ≤ 9 := hG0 0 10
    refine x_callV k114_17 (y := 125) (n := 1) (w0 := 0) (w1 := 1) (as := [vi b]) (rest := []) (by decide +kernel) (q := 0) (nq := 12) (kq := 3) ⟨by decide, rfl⟩ rfl rfl rfl rfl (xe_mono (C_X10_isKnownEdition_0 s0 hG0 b (by first | exact x_rb b_b rfl rfl | exact ⟨by omega, by omega⟩)) ?_)
    rintro s7 v ⟨h_s7, z6, rfl, hz_z6⟩
    rw [h_s7]
    rcases hz_z6 with ⟨c_z6, e_z6⟩ | ⟨c_z6, e_z6⟩
    · rw [e_z6]
      show xe none 114 20 [(0, .ref 0), (1, vi a), (2, vi b), (3, vi d)] [vi 1] s0 0 0 _
      refine x_if_ne k114_20 (t := 27) rfl ⟨by decide, by decide⟩ (fun c8 => ?_) (fun c8 => by exfalso; omega)
      refine x_A k114_27 (fun _ => rfl) ?_
      refine x_getR k114_28 (f := 9) rfl (q := 0) (n := 12) (kd := 3) ⟨by decide, rfl⟩ (q2 := 243) (by decide) rfl ?_
      refine x_A k114_31 (fun _ => rfl) ?_
      refine x_callV k114_32 (y := 76) (n := 1) (w0 := 0) (w1 := 1) (as := [vi b]) (rest := []) (by decide +kernel) (q := 243) (nq := 13) (kq := 13) ⟨by decide, rfl⟩ rfl rfl rfl rfl (xe_mono (C_X8_lookIn_243 s0 hG0 (hJ0.fl f0 (by decide +kernel)) b (by first | exact x_rb b_b rfl rfl | exact ⟨by omega, by omega⟩)) ?_)
      rintro s10 v ⟨hG_s10, t_s10, rfl⟩
      have f_s10 : FL [3329, 3334, 3335, 3336, 3392, 3456, 3520, 3584, 3276, 3648, 3712, 3776, 3840, 3904, 3968, 3277, 4032] s0 s10 := f0.tr t_s10 (by decide +kernel)
      have q11 : s10 1 4 = z1 := (t_s10 1 4 (show 69 ∉ [3329, 3334, 3335, 3336, 3392, 3456, 3520, 3584, 3276, 3648, 3712, 3776, 3840, 3904, 3968, 3277, 4032] from by decide +kernel)).trans e_z1.symm
      have q12 : s10 0 10 = z5 := (t_s10 0 10 (show 11 ∉ [3329, 3334, 3335, 3336, 3392, 3456, 3520, 3584, 3276, 3648, 3712, 3776, 3840, 3904, 3968, 3277, 4032] from by decide +kernel)).trans e_z5.symm
      show xe none 114 35 [(0, .ref 0), (1, vi a), (2, vi b), (3, vi d)] [] s10 0 0 _
      refine x_A k114_35 (fun _ => rfl) ?_
      refine x_A k114_36 (fun _ => rfl) ?_
      refine x_A k114_37 (fun _ => rfl) ?_
      refine x_callV k114_38 (y := 132) (n := 2) (w0 := 0) (w1 := 2) (as := [vi a, vi b]) (rest := []) (by decide +kernel) (q := 0) (nq := 12) (kq := 3) ⟨by decide, rfl⟩ rfl rfl rfl rfl (xe_mono (C_X10_goingAlong_0 s10 hG_s10 a (by first | exact x_rb b_a rfl rfl | exact ⟨by omega, by omega⟩) b (by first | exact x_rb b_b rfl rfl | exact ⟨by omega, by omega⟩)) ?_)
      rintro s14 v ⟨-, t_s14, z13, rfl, b_z13⟩
      rw [t_s14.nil]
      show xe none 114 41 [(0, .ref 0), (1, vi a), (2, vi b), (3, vi d)] [vj z13] s10 0 0 _
      refine x_A k114_41 (fun _ => rfl) ?_
      refine x_callS k114_42 (y := 127) (n := 2) (w0 := 0) (w1 := 3) (as := [vj z13, vi d]) (rest := []) (by decide +kernel) rfl rfl rfl rfl (xe_mono (C_X10_pick s10 hG_s10 z13 b_z13 d (by first | exact x_rb b_d rfl rfl | exact ⟨by omega, by omega⟩)) ?_)
      rintro s16 v ⟨-, t_s16, z15, rfl, g_z15⟩
      rw [t_s16.nil]
      show xe none 114 45 [(0, .ref 0), (1, vi a), (2, vi b), (3, vi d)] [vi z15] s10 0 0 _
      exact x_iret k114_45 rfl ⟨hG_s10, f_s10, z15, rfl, (by first | exact x_rbe e_z15 g_z15 rfl rfl | exact x_rb g_z15 rfl rfl | exact ⟨by omega, by omega⟩)⟩
    · rw [e_z6]
      show xe none 114 20 [(0, .ref 0), (1, vi a), (2, vi b), (3, vi d)] [vi 0] s0 0 0 _
      refine x_if_ne k114_20 (t := 27) rfl ⟨by decide, by decide⟩ (fun c17 => by exfalso; omega) (fun c17 => ?_)
      refine x_sipush k114_23 (by decide +kernel) ?_
      exact x_iret k114_26 rfl ⟨hG0, f0, (-1002), rfl, ⟨by decide, by decide⟩⟩
  · rw [e_z2]
    show xe none 114 8 [(0, .ref 0), (1, vi a), (2, vi b), (3, vi d)] [vi 0] s0 0 0 _
    refine x_if_ne k114_8 (t := 15) rfl ⟨by decide, by decide⟩ (fun c18 => by exfalso; omega) (fun c18 => ?_)
    refine x_sipush k114_11 (by decide +kernel) ?_
    exact x_iret k114_14 rfl ⟨hG0, f0, (-1001), rfl, ⟨by decide, by decide⟩⟩
theorem L_C_X10_likely_0_61 (s0 : xS) (hJ0 : J s0) (n_53 : Nat) (ih_53 : ∀ (s : xS) (x1 : Int) (x2 : Int) (x3 : Int) (x4 : Int) (x6 : Int) (x7 : Int) (hG : GI s) (f : FL [3329, 3334, 3335, 3336, 3392, 3456, 3520, 3584, 3276, 3648, 3712, 3776, 3840, 3904, 3968, 3277, 4032] s0 s) (b_x1 : 0 ≤ x1 ∧ x1 ≤ 39) (b_x2 : 0 ≤ x2 ∧ x2 ≤ 9) (b_x3 : (-2147483648) ≤ x3 ∧ x3 ≤ 2147483647) (b_x4 : in64 x4) (b_x6 : (-2147483648) ≤ x6 ∧ x6 ≤ 2147483647) (b_x7 : 0 ≤ x7 ∧ x7 ≤ 127) (hm : (x7 - 0) < (n_53 : Int)), xe none 115 53 [(0, .ref 0), (1, vi x1), (2, vi x2), (3, vi x3), (4, vj x4), (6, vi x6), (7, vi x7)] [] s 0 0 (fun s' v => GI s' ∧ FL [3329, 3334, 3335, 3336, 3392, 3456, 3520, 3584, 3276, 3648, 3712, 3776, 3840, 3904, 3968, 3277, 4032] s0 s' ∧ ∃ z, v = some (vi z) ∧ ((-2147483648) ≤ z ∧ z ≤ 2147483647))) : ∀ (n : Nat) (s : xS) (x1 : Int) (x2 : Int) (x3 : Int) (x4 : Int) (x6 : Int) (x7 : Int) (x8 : Int) (hG : GI s) (f : FL [3329, 3334, 3335, 3336, 3392, 3456, 3520, 3584, 3276, 3648, 3712, 3776, 3840, 3904, 3968, 3277, 4032] s0 s) (b_x1 : 0 ≤ x1 ∧ x1 ≤ 39) (b_x2 : 0 ≤ x2 ∧ x2 ≤ 9) (b_x3 : (-2147483648) ≤ x3 ∧ x3 ≤ 2147483647) (b_x4 : in64 x4) (b_x6 : (-2147483648) ≤ x6 ∧ x6 ≤ 2147483647) (b_x7 : 1 ≤ x7 ∧ x7 ≤ 127) (b_x8 : 0 ≤ x8 ∧ x8 ≤ 40) (k_53 : (x7 - 0) < (n_53 : Int) + 1) (hm : (40 - x8) < (n : Int)), xe none 115 61 [(0, .ref 0), (1, vi x1), (2, vi x2), (3, vi x3), (4, vj x4), (6, vi x6), (7, vi x7), (8, vi x8)] [] s 0 0 (fun s' v => GI s' ∧ FL [3329, 3334, 3335, 3336, 3392, 3456, 3520, 3584, 3276, 3648, 3712, 3776, 3840, 3904, 3968, 3277, 4032] s0 s' ∧ ∃ z, v = some (vi z) ∧ ((-2147483648) ≤ z ∧ z ≤ 2147483647)) := by
  intro n
  induction n with
  | zero => intro s x1 x2 x3 x4 x6 x7 x8 hG f b_x1 b_x2 b_x3 b_x4 b_x6 b_x7 b_x8 k_53 hm; exfalso; omega
  | succ n ih =>
    intro s x1 x2 x3 x4 x6 x7 x8 hG f b_x1 b_x2 b_x3 b_x4 b_x6 b_x7 b_x8 k_53 hm
    refine x_A k115_61 (fun _ => rfl) ?_
    refine x_A k115_63 (fun _ => rfl) ?_
    refine x_getR k115_64 (f := 1) rfl (q := 0) (n := 12) (kd := 3) ⟨by decide, rfl⟩ (q2 := 46) (by decide) rfl ?_
    refine x_getI k115_67 (f := 3) rfl (q := 46) (n := 4) (kd := 5) ⟨by decide, rfl⟩ (by decide) rfl ?_
    refine x_top (fun z844 e_z844 => ?_)
    have g_z844 : (0 : Int) ≤ s 46 3 ∧ s 46 3 ≤ 40 := hG 46 3
    refine x_ic_ge k115_70 (t := 128) rfl (by first | exact x_rb b_x8 rfl rfl | exact ⟨by omega, by omega⟩) (by first | exact x_rbe e_z844 g_z844 rfl rfl | exact x_rb g_z844 rfl rfl | exact ⟨by omega, by omega⟩) (fun c845 => ?_) (fun c845 => ?_)
    · skip
      refine x_iinc k115_128 (ls' := [(7, vi (x7 + (-1))), (0, .ref 0), (1, vi x1), (2, vi x2), (3, vi x3), (4, vj x4), (6, vi x6), (8, vi x8)]) rfl (by decide) rfl ?_
      refine x_goto k115_131 (t := 53) rfl ?_
      refine x_ls (l := [(0, .ref 0), (1, vi x1), (2, vi x2), (3, vi x3), (4, vj x4), (6, vi x6), (7, vi (x7 + (-1)))]) (show ([0, 1, 2, 3, 4, 6, 7] : List Nat).Nodup from by decide +kernel) ⟨rfl, rfl, rfl, rfl, rfl, rfl, rfl, trivial⟩ ?_
      exact ih_53 s x1 x2 x3 x4 x6 (x7 + (-1)) hG f (by first | exact x_rb b_x1 rfl rfl | exact ⟨by omega, by omega⟩) (by first | exact x_rb b_x2 rfl rfl | exact ⟨by omega, by omega⟩) (by first | exact x_rb b_x3 rfl rfl | exact ⟨by omega, by omega⟩) b_x4 (by first | exact x_rb b_x6 rfl rfl | exact ⟨by omega, by omega⟩) ⟨by omega, by omega⟩ (by omega)
    · skip
      refine x_A k115_73 (fun _ => rfl) ?_
      refine x_getR k115_74 (f := 9) rfl (q := 0) (n := 12) (kd := 3) ⟨by decide, rfl⟩ (q2 := 243) (by decide) rfl ?_
      refine x_A k115_77 (fun _ => rfl) ?_
      refine x_A k115_79 (fun _ => rfl) ?_
      refine x_callV k115_80 (y := 78) (n := 2) (w0 := 0) (w1 := 2) (as := [vi x8, vi x1]) (rest := []) (by decide +kernel) (q := 243) (nq := 13) (kq := 13) ⟨by decide, rfl⟩ rfl rfl rfl rfl (xe_mono (C_X8_shows_243 s hG x8 (by first | exact x_rb b_x8 rfl rfl | exact ⟨by omega, by omega⟩) x1 (by first | exact x_rb b_x1 rfl rfl | exact ⟨by omega, by omega⟩)) ?_)
      rintro s847 v ⟨-, t_s847, z846, rfl, g_z846⟩
      rw [t_s847.nil]
      show xe none 115 83 [(0, .ref 0), (1, vi x1), (2, vi x2), (3, vi x3), (4, vj x4), (6, vi x6), (7, vi x7), (8, vi x8)] [vi z846] s 0 0 _
      refine x_if_ne k115_83 (t := 122) rfl (by first | exact x_rbe e_z846 g_z846 rfl rfl | exact x_rb g_z846 rfl rfl | exact ⟨by omega, by omega⟩) (fun c848 => ?_) (fun c848 => ?_)
      · skip
        refine x_iinc k115_122 (ls' := [(8, vi (x8 + 1)), (0, .ref 0), (1, vi x1), (2, vi x2), (3, vi x3), (4, vj x4), (6, vi x6), (7, vi x7)]) rfl (by decide) rfl ?_
        refine x_goto k115_125 (t := 61) rfl ?_
        refine x_ls (l := [(0, .ref 0), (1, vi x1), (2, vi x2), (3, vi x3), (4, vj x4), (6, vi x6), (7, vi x7), (8, vi (x8 + 1))]) (show ([0, 1, 2, 3, 4, 6, 7, 8] : List Nat).Nodup from by decide +kernel) ⟨rfl, rfl, rfl, rfl, rfl, rfl, rfl, rfl, trivial⟩ ?_
        exact ih s x1 x2 x3 x4 x6 x7 (x8 + 1) hG f (by first | exact x_rb b_x1 rfl rfl | exact ⟨by omega, by omega⟩) (by first | exact x_rb b_x2 rfl rfl | exact ⟨by omega, by omega⟩) (by first | exact x_rb b_x3 rfl rfl | exact ⟨by omega, by omega⟩) b_x4 (by first | exact x_rb b_x6 rfl rfl | exact ⟨by omega, by omega⟩) (by first | exact x_rb b_x7 rfl rfl | exact ⟨by omega, by omega⟩) ⟨by omega, by omega⟩ (by omega) (by omega)
      · skip
        refine x_A k115_86 (fun _ => rfl) ?_
        refine x_getR k115_87 (f := 9) rfl (q := 0) (n := 12) (kd := 3) ⟨by decide, rfl⟩ (q2 := 243) (by decide) rfl ?_
        refine x_getR k115_90 (f := 10) rfl (q := 243) (n := 13) (kd := 13) ⟨by decide, rfl⟩ (q2 := 255) (by decide) rfl ?_
        refine x_A k115_93 (fun _ => rfl) ?_
        refine x_lald k115_95 (q := 255) (n := 40) ⟨by decide, rfl⟩ (by decide) (by first | exact x_rbl b_x8 rfl rfl | exact ⟨by omega, by omega⟩) ?_
        refine x_topL (fun z849 e_z849 => ?_)
        have b_z849 : in64 z849 := by rw [e_z849]; exact hG 255 x8.toNat
        refine x_A k115_96 (fun _ => rfl) ?_
        refine x_land_any k115_98 (fun z850 b_z850 => ?_)
        refine x_callS k115_99 (y := 219) (n := 1) (w0 := 0) (w1 := 2) (as := [vj z850]) (rest := []) (by decide +kernel) rfl rfl rfl rfl (xe_mono (C_J13_bitCount_95d88 s hG z850 b_z850) ?_)
        rintro s852 v ⟨-, t_s852, z851, rfl, g_z851⟩
        rw [t_s852.nil]
        show xe none 115 102 [(0, .ref 0), (1, vi x1), (2, vi x2), (3, vi x3), (4, vj x4), (6, vi x6), (7, vi x7), (8, vi x8)] [vi z851] s 0 0 _
        refine x_A k115_102 (fun _ => rfl) ?_
        refine x_ic_eq k115_104 (t := 110) rfl (by first | exact x_rbe e_z851 g_z851 rfl rfl | exact x_rb g_z851 rfl rfl | exact ⟨by omega, by omega⟩) (by first | exact x_rb b_x7 rfl rfl | exact ⟨by omega, by omega⟩) (fun c853 => ?_) (fun c853 => ?_)
        · skip
          refine x_A k115_110 (fun _ => rfl) ?_
          refine x_A k115_112 (fun _ => rfl) ?_
          refine x_ic_ne k115_113 (t := 119) rfl (by first | exact x_rb b_x6 rfl rfl | exact ⟨by omega, by omega⟩) (by first | exact x_rb b_x3 rfl rfl | exact ⟨by omega, by omega⟩) (fun c854 => ?_) (fun c854 => ?_)
          · skip
            refine x_iinc k115_119 (ls' := [(6, vi (x6 + 1)), (0, .ref 0), (1, vi x1), (2, vi x2), (3, vi x3), (4, vj x4), (7, vi x7), (8, vi x8)]) rfl (by decide) rfl ?_
            obtain ⟨z855, g_z855, e_z855⟩ := x_wrap (x6 + 1)
            unfold in32 at g_z855
            rw [e_z855]
            refine x_iinc k115_122 (ls' := [(8, vi (x8 + 1)), (6, vi z855), (0, .ref 0), (1, vi x1), (2, vi x2), (3, vi x3), (4, vj x4), (7, vi x7)]) rfl (by decide) rfl ?_
            refine x_goto k115_125 (t := 61) rfl ?_
            refine x_ls (l := [(0, .ref 0), (1, vi x1), (2, vi x2), (3, vi x3), (4, vj x4), (6, vi z855), (7, vi x7), (8, vi (x8 + 1))]) (show ([0, 1, 2, 3, 4, 6, 7, 8] : List Nat).Nodup from by decide +kernel) ⟨rfl, rfl, rfl, rfl, rfl, rfl, rfl, rfl, trivial⟩ ?_
            exact ih s x1 x2 x3 x4 z855 x7 (x8 + 1) hG f (by first | exact x_rb b_x1 rfl rfl | exact ⟨by omega, by omega⟩) (by first | exact x_rb b_x2 rfl rfl | exact ⟨by omega, by omega⟩) (by first | exact x_rb b_x3 rfl rfl | exact ⟨by omega, by omega⟩) b_x4 (by first | exact x_rbe e_z855 g_z855 rfl rfl | exact x_rb g_z855 rfl rfl | exact ⟨by omega, by omega⟩) (by first | exact x_rb b_x7 rfl rfl | exact ⟨by omega, by omega⟩) ⟨by omega, by omega⟩ (by omega) (by omega)
          · skip
            refine x_A k115_116 (fun _ => rfl) ?_
            exact x_iret k115_118 rfl ⟨hG, f, x8, rfl, (by first | exact x_rb b_x8 rfl rfl | exact ⟨by omega, by omega⟩)⟩
        · skip
          refine x_goto k115_107 (t := 122) rfl ?_
          refine x_iinc k115_122 (ls' := [(8, vi (x8 + 1)), (0, .ref 0), (1, vi x1), (2, vi x2), (3, vi x3), (4, vj x4), (6, vi x6), (7, vi x7)]) rfl (by decide) rfl ?_
          refine x_goto k115_125 (t := 61) rfl ?_
          refine x_ls (l := [(0, .ref 0), (1, vi x1), (2, vi x2), (3, vi x3), (4, vj x4), (6, vi x6), (7, vi x7), (8, vi (x8 + 1))]) (show ([0, 1, 2, 3, 4, 6, 7, 8] : List Nat).Nodup from by decide +kernel) ⟨rfl, rfl, rfl, rfl, rfl, rfl, rfl, rfl, trivial⟩ ?_
          exact ih s x1 x2 x3 x4 x6 x7 (x8 + 1) hG f (by first | exact x_rb b_x1 rfl rfl | exact ⟨by omega, by omega⟩) (by first | exact x_rb b_x2 rfl rfl | exact ⟨by omega, by omega⟩) (by first | exact x_rb b_x3 rfl rfl | exact ⟨by omega, by omega⟩) b_x4 (by first | exact x_rb b_x6 rfl rfl | exact ⟨by omega, by omega⟩) (by first | exact x_rb b_x7 rfl rfl | exact ⟨by omega, by omega⟩) ⟨by omega, by omega⟩ (by omega) (by omega)
theorem L_C_X10_likely_0_53 (s0 : xS) (hJ0 : J s0)  : ∀ (n : Nat) (s : xS) (x1 : Int) (x2 : Int) (x3 : Int) (x4 : Int) (x6 : Int) (x7 : Int) (hG : GI s) (f : FL [3329, 3334, 3335, 3336, 3392, 3456, 3520, 3584, 3276, 3648, 3712, 3776, 3840, 3904, 3968, 3277, 4032] s0 s) (b_x1 : 0 ≤ x1 ∧ x1 ≤ 39) (b_x2 : 0 ≤ x2 ∧ x2 ≤ 9) (b_x3 : (-2147483648) ≤ x3 ∧ x3 ≤ 2147483647) (b_x4 : in64 x4) (b_x6 : (-2147483648) ≤ x6 ∧ x6 ≤ 2147483647) (b_x7 : 0 ≤ x7 ∧ x7 ≤ 127)  (hm : (x7 - 0) < (n : Int)), xe none 115 53 [(0, .ref 0), (1, vi x1), (2, vi x2), (3, vi x3), (4, vj x4), (6, vi x6), (7, vi x7)] [] s 0 0 (fun s' v => GI s' ∧ FL [3329, 3334, 3335, 3336, 3392, 3456, 3520, 3584, 3276, 3648, 3712, 3776, 3840, 3904, 3968, 3277, 4032] s0 s' ∧ ∃ z, v = some (vi z) ∧ ((-2147483648) ≤ z ∧ z ≤ 2147483647)) := by
  intro n
  induction n with
  | zero => intro s x1 x2 x3 x4 x6 x7 hG f b_x1 b_x2 b_x3 b_x4 b_x6 b_x7  hm; exfalso; omega
  | succ n ih =>
    intro s x1 x2 x3 x4 x6 x7 hG f b_x1 b_x2 b_x3 b_x4 b_x6 b_x7  hm
    refine x_A k115_53 (fun _ => rfl) ?_
    refine x_if_le k115_55 (t := 134) rfl (by first | exact x_rb b_x7 rfl rfl | exact ⟨by omega, by omega⟩) (fun c856 => ?_) (fun c856 => ?_)
    · skip
      refine x_A k115_134 (fun _ => rfl) ?_
      refine x_A k115_135 (fun _ => rfl) ?_
      refine x_ic_ne k115_136 (t := 144) rfl (by first | exact x_rb b_x3 rfl rfl | exact ⟨by omega, by omega⟩) ⟨by decide, by decide⟩ (fun c857 => ?_) (fun c857 => ?_)
      · skip
        refine x_A k115_144 (fun _ => rfl) ?_
        exact x_iret k115_145 rfl ⟨hG, f, (-1), rfl, ⟨by decide, by decide⟩⟩
      · skip
        refine x_A k115_139 (fun _ => rfl) ?_
        refine x_goto k115_141 (t := 145) rfl ?_
        exact x_iret k115_145 rfl ⟨hG, f, x6, rfl, (by first | exact x_rb b_x6 rfl rfl | exact ⟨by omega, by omega⟩)⟩
    · skip
      refine x_A k115_58 (fun _ => rfl) ?_
      refine x_istore k115_59 (ls' := [(8, vi 0), (0, .ref 0), (1, vi x1), (2, vi x2), (3, vi x3), (4, vj x4), (6, vi x6), (7, vi x7)]) (by decide) rfl ?_
      refine x_ls (l := [(0, .ref 0), (1, vi x1), (2, vi x2), (3, vi x3), (4, vj x4), (6, vi x6), (7, vi x7), (8, vi 0)]) (show ([0, 1, 2, 3, 4, 6, 7, 8] : List Nat).Nodup from by decide +kernel) ⟨rfl, rfl, rfl, rfl, rfl, rfl, rfl, rfl, trivial⟩ ?_
      exact L_C_X10_likely_0_61 s0 hJ0 n (fun s x1 x2 x3 x4 x6 x7 hG f b_x1 b_x2 b_x3 b_x4 b_x6 b_x7 hm => ih s x1 x2 x3 x4 x6 x7 hG f b_x1 b_x2 b_x3 b_x4 b_x6 b_x7  hm) (((40 - 0) + 1 : Int)).toNat s x1 x2 x3 x4 x6 x7 0 hG f (by first | exact x_rb b_x1 rfl rfl | exact ⟨by omega, by omega⟩) (by first | exact x_rb b_x2 rfl rfl | exact ⟨by omega, by omega⟩) (by first | exact x_rb b_x3 rfl rfl | exact ⟨by omega, by omega⟩) b_x4 (by first | exact x_rb b_x6 rfl rfl | exact ⟨by omega, by omega⟩) (by first | exact x_rb b_x7 rfl rfl | exact ⟨by omega, by omega⟩) ⟨by decide, by decide⟩ (by omega) (by omega)
theorem C_X10_likely_0 (s0 : xS) (hG0 : GI s0) (hJ0 : J s0) (a : Int) (b_a : (-2147483648) ≤ a ∧ a ≤ 2147483647) (b : Int) (b_b : (-2147483648) ≤ b ∧ b ≤ 2147483647) (d : Int) (b_d : (-2147483648) ≤ d ∧ d ≤ 2147483647) : xe none 115 0 (lv_args 0 [.ref 0, vi a, vi b, vi d]) [] s0 0 0 (fun s' v => GI s' ∧ FL [3329, 3334, 3335, 3336, 3392, 3456, 3520, 3584, 3276, 3648, 3712, 3776, 3840, 3904, 3968, 3277, 4032] s0 s' ∧ ∃ z, v = some (vi z) ∧ ((-2147483648) ≤ z ∧ z ≤ 2147483647)) := by
  have f0 : FL [3329, 3334, 3335, 3336, 3392, 3456, 3520, 3584, 3276, 3648, 3712, 3776, 3840, 3904, 3968, 3277, 4032] s0 s0 := FL.rf
  show xe none 115 0 [(0, .ref 0), (1, vi a), (2, vi b), (3, vi d)] [] s0 0 0 _
  refine x_A k115_0 (fun _ => rfl) ?_
  refine x_getR k115_1 (f := 0) rfl (q := 0) (n := 12) (kd := 3) ⟨by decide, rfl⟩ (q2 := 1) (by decide) rfl ?_
  refine x_A k115_4 (fun _ => rfl) ?_
  obtain ⟨z858, e_z858⟩ : ∃ z, z = s0 1 4 := ⟨_, rfl⟩
  have g_z858 : (1 : Int) ≤ s0 1 4 ∧ s0 1 4 ≤ 40 := hG0 1 4
  refine x_callV k115_5 (y := 59) (n := 1) (w0 := 0) (w1 := 1) (as := [vi a]) (rest := []) (by decide +kernel) (q := 1) (nq := 5) (kq := 4) ⟨by decide, rfl⟩ rfl rfl rfl rfl (xe_mono (C_X7_has_1 s0 hG0 a (by first | exact x_rb b_a rfl rfl | exact ⟨by omega, by omega⟩)) ?_)
  rintro s860 v ⟨h_s860, z859, rfl, hz_z859⟩
  rw [h_s860]
  rcases hz_z859 with ⟨c_z859, e_z859⟩ | ⟨c_z859, e_z859⟩
  · rw [e_z859]
    show xe none 115 8 [(0, .ref 0), (1, vi a), (2, vi b), (3, vi d)] [vi 1] s0 0 0 _
    refine x_if_ne k115_8 (t := 15) rfl ⟨by decide, by decide⟩ (fun c861 => ?_) (fun c861 => by exfalso; omega)
    refine x_A k115_15 (fun _ => rfl) ?_
    refine x_A k115_16 (fun _ => rfl) ?_
    obtain ⟨z862, e_z862⟩ : ∃ z, z = s0 0 10 := ⟨_, rfl⟩
    have g_z862 : (0 : Int) ≤ s0 0 10 ∧ s0 0 10 ≤ 9 := hG0 0 10
    refine x_callV k115_17 (y := 125) (n := 1) (w0 := 0) (w1 := 1) (as := [vi b]) (rest := []) (by decide +kernel) (q := 0) (nq := 12) (kq := 3) ⟨by decide, rfl⟩ rfl rfl rfl rfl (xe_mono (C_X10_isKnownEdition_0 s0 hG0 b (by first | exact x_rb b_b rfl rfl | exact ⟨by omega, by omega⟩)) ?_)
    rintro s864 v ⟨h_s864, z863, rfl, hz_z863⟩
    rw [h_s864]
    rcases hz_z863 with ⟨c_z863, e_z863⟩ | ⟨c_z863, e_z863⟩
    · rw [e_z863]
      show xe none 115 20 [(0, .ref 0), (1, vi a), (2, vi b), (3, vi d)] [vi 1] s0 0 0 _
      refine x_if_ne k115_20 (t := 27) rfl ⟨by decide, by decide⟩ (fun c865 => ?_) (fun c865 => by exfalso; omega)
      refine x_A k115_27 (fun _ => rfl) ?_
      refine x_getR k115_28 (f := 9) rfl (q := 0) (n := 12) (kd := 3) ⟨by decide, rfl⟩ (q2 := 243) (by decide) rfl ?_
      refine x_A k115_31 (fun _ => rfl) ?_
      refine x_callV k115_32 (y := 76) (n := 1) (w0 := 0) (w1 := 1) (as := [vi b]) (rest := []) (by decide +kernel) (q := 243) (nq := 13) (kq := 13) ⟨by decide, rfl⟩ rfl rfl rfl rfl (xe_mono (C_X8_lookIn_243 s0 hG0 (hJ0.fl f0 (by decide +kernel)) b (by first | exact x_rb b_b rfl rfl | exact ⟨by omega, by omega⟩)) ?_)
      rintro s867 v ⟨hG_s867, t_s867, rfl⟩
      have f_s867 : FL [3329, 3334, 3335, 3336, 3392, 3456, 3520, 3584, 3276, 3648, 3712, 3776, 3840, 3904, 3968, 3277, 4032] s0 s867 := f0.tr t_s867 (by decide +kernel)
      have q868 : s867 1 4 = z858 := (t_s867 1 4 (show 69 ∉ [3329, 3334, 3335, 3336, 3392, 3456, 3520, 3584, 3276, 3648, 3712, 3776, 3840, 3904, 3968, 3277, 4032] from by decide +kernel)).trans e_z858.symm
      have q869 : s867 0 10 = z862 := (t_s867 0 10 (show 11 ∉ [3329, 3334, 3335, 3336, 3392, 3456, 3520, 3584, 3276, 3648, 3712, 3776, 3840, 3904, 3968, 3277, 4032] from by decide +kernel)).trans e_z862.symm
      show xe none 115 35 [(0, .ref 0), (1, vi a), (2, vi b), (3, vi d)] [] s867 0 0 _
      refine x_A k115_35 (fun _ => rfl) ?_
      refine x_A k115_36 (fun _ => rfl) ?_
      refine x_A k115_37 (fun _ => rfl) ?_
      refine x_callV k115_38 (y := 132) (n := 2) (w0 := 0) (w1 := 2) (as := [vi a, vi b]) (rest := []) (by decide +kernel) (q := 0) (nq := 12) (kq := 3) ⟨by decide, rfl⟩ rfl rfl rfl rfl (xe_mono (C_X10_goingAlong_0 s867 hG_s867 a (by first | exact x_rb b_a rfl rfl | exact ⟨by omega, by omega⟩) b (by first | exact x_rb b_b rfl rfl | exact ⟨by omega, by omega⟩)) ?_)
      rintro s871 v ⟨-, t_s871, z870, rfl, b_z870⟩
      rw [t_s871.nil]
      show xe none 115 41 [(0, .ref 0), (1, vi a), (2, vi b), (3, vi d)] [vj z870] s867 0 0 _
      refine x_lstore k115_41 (ls' := [(4, vj z870), (0, .ref 0), (1, vi a), (2, vi b), (3, vi d)]) (by decide) rfl ?_
      refine x_A k115_43 (fun _ => rfl) ?_
      refine x_istore k115_44 (ls' := [(6, vi 0), (4, vj z870), (0, .ref 0), (1, vi a), (2, vi b), (3, vi d)]) (by decide) rfl ?_
      refine x_A k115_46 (fun _ => rfl) ?_
      refine x_callS k115_48 (y := 219) (n := 1) (w0 := 0) (w1 := 2) (as := [vj z870]) (rest := []) (by decide +kernel) rfl rfl rfl rfl (xe_mono (C_J13_bitCount_95d88 s867 hG_s867 z870 b_z870) ?_)
      rintro s873 v ⟨-, t_s873, z872, rfl, g_z872⟩
      rw [t_s873.nil]
      show xe none 115 51 [(6, vi 0), (4, vj z870), (0, .ref 0), (1, vi a), (2, vi b), (3, vi d)] [vi z872] s867 0 0 _
      refine x_istore k115_51 (ls' := [(7, vi z872), (6, vi 0), (4, vj z870), (0, .ref 0), (1, vi a), (2, vi b), (3, vi d)]) (by decide) rfl ?_
      refine x_ls (l := [(0, .ref 0), (1, vi a), (2, vi b), (3, vi d), (4, vj z870), (6, vi 0), (7, vi z872)]) (show ([0, 1, 2, 3, 4, 6, 7] : List Nat).Nodup from by decide +kernel) ⟨rfl, rfl, rfl, rfl, rfl, rfl, rfl, trivial⟩ ?_
      exact L_C_X10_likely_0_53 s0 hJ0  (((z872 - 0) + 1 : Int)).toNat s867 a b d z870 0 z872 hG_s867 f_s867 (by first | exact x_rb b_a rfl rfl | exact ⟨by omega, by omega⟩) (by first | exact x_rb b_b rfl rfl | exact ⟨by omega, by omega⟩) (by first | exact x_rb b_d rfl rfl | exact ⟨by omega, by omega⟩) b_z870 ⟨by decide, by decide⟩ (by first | exact x_rbe e_z872 g_z872 rfl rfl | exact x_rb g_z872 rfl rfl | exact ⟨by omega, by omega⟩)  (by omega)
    · rw [e_z863]
      show xe none 115 20 [(0, .ref 0), (1, vi a), (2, vi b), (3, vi d)] [vi 0] s0 0 0 _
      refine x_if_ne k115_20 (t := 27) rfl ⟨by decide, by decide⟩ (fun c874 => by exfalso; omega) (fun c874 => ?_)
      refine x_sipush k115_23 (by decide +kernel) ?_
      exact x_iret k115_26 rfl ⟨hG0, f0, (-1002), rfl, ⟨by decide, by decide⟩⟩
  · rw [e_z859]
    show xe none 115 8 [(0, .ref 0), (1, vi a), (2, vi b), (3, vi d)] [vi 0] s0 0 0 _
    refine x_if_ne k115_8 (t := 15) rfl ⟨by decide, by decide⟩ (fun c875 => by exfalso; omega) (fun c875 => ?_)
    refine x_sipush k115_11 (by decide +kernel) ?_
    exact x_iret k115_14 rfl ⟨hG0, f0, (-1001), rfl, ⟨by decide, by decide⟩⟩
theorem L_C_X10_lacking_0_40 (s0 : xS) (hJ0 : J s0)  : ∀ (n : Nat) (s : xS) (x1 : Int) (x2 : Int) (x3 : Int) (x5 : Int) (hG : GI s) (f : FL [3329, 3334, 3335, 3336, 3392, 3456, 3520, 3584, 3276, 3648, 3712, 3776, 3840, 3904, 3968, 3277, 4032] s0 s) (b_x1 : 0 ≤ x1 ∧ x1 ≤ 39) (b_x2 : 0 ≤ x2 ∧ x2 ≤ 9) (b_x3 : in64 x3) (b_x5 : 0 ≤ x5 ∧ x5 ≤ 120)  (hm : (120 - x5) < (n : Int)), xe none 116 40 [(0, .ref 0), (1, vi x1), (2, vi x2), (3, vj x3), (5, vi x5)] [] s 0 0 (fun s' v => GI s' ∧ FL [3329, 3334, 3335, 3336, 3392, 3456, 3520, 3584, 3276, 3648, 3712, 3776, 3840, 3904, 3968, 3277, 4032] s0 s' ∧ ∃ z, v = some (vj z) ∧ in64 z) := by
  intro n
  induction n with
  | zero => intro s x1 x2 x3 x5 hG f b_x1 b_x2 b_x3 b_x5  hm; exfalso; omega
  | succ n ih =>
    intro s x1 x2 x3 x5 hG f b_x1 b_x2 b_x3 b_x5  hm
    refine x_A k116_40 (fun _ => rfl) ?_
    refine x_A k116_42 (fun _ => rfl) ?_
    refine x_getR k116_43 (f := 2) rfl (q := 0) (n := 12) (kd := 3) ⟨by decide, rfl⟩ (q2 := 50) (by decide) rfl ?_
    refine x_getI k116_46 (f := 6) rfl (q := 50) (n := 7) (kd := 6) ⟨by decide, rfl⟩ (by decide) rfl ?_
    refine x_top (fun z547 e_z547 => ?_)
    have g_z547 : (0 : Int) ≤ s 50 6 ∧ s 50 6 ≤ 120 := hG 50 6
    refine x_ic_ge k116_49 (t := 130) rfl (by first | exact x_rb b_x5 rfl rfl | exact ⟨by omega, by omega⟩) (by first | exact x_rbe e_z547 g_z547 rfl rfl | exact x_rb g_z547 rfl rfl | exact ⟨by omega, by omega⟩) (fun c548 => ?_) (fun c548 => ?_)
    · skip
      refine x_A k116_130 (fun _ => rfl) ?_
      refine x_A k116_131 (fun _ => rfl) ?_
      refine x_getR k116_132 (f := 9) rfl (q := 0) (n := 12) (kd := 3) ⟨by decide, rfl⟩ (q2 := 243) (by decide) rfl ?_
      refine x_getR k116_135 (f := 10) rfl (q := 243) (n := 13) (kd := 13) ⟨by decide, rfl⟩ (q2 := 255) (by decide) rfl ?_
      refine x_A k116_138 (fun _ => rfl) ?_
      refine x_lald k116_139 (q := 255) (n := 40) ⟨by decide, rfl⟩ (by decide) (by first | exact x_rbl b_x1 rfl rfl | exact ⟨by omega, by omega⟩) ?_
      refine x_topL (fun z549 e_z549 => ?_)
      have b_z549 : in64 z549 := by rw [e_z549]; exact hG 255 x1.toNat
      refine x_ldc2 k116_140 (z := (-1)) rfl (by decide +kernel) ?_
      refine x_lxor_any k116_143 (fun z550 b_z550 => ?_)
      refine x_land_any k116_144 (fun z551 b_z551 => ?_)
      exact x_lret k116_145 rfl ⟨hG, f, z551, rfl, b_z551⟩
    · skip
      refine x_A k116_52 (fun _ => rfl) ?_
      refine x_getR k116_53 (f := 2) rfl (q := 0) (n := 12) (kd := 3) ⟨by decide, rfl⟩ (q2 := 50) (by decide) rfl ?_
      refine x_getR k116_56 (f := 0) rfl (q := 50) (n := 7) (kd := 6) ⟨by decide, rfl⟩ (q2 := 51) (by decide) rfl ?_
      refine x_A k116_59 (fun _ => rfl) ?_
      refine x_iald k116_61 (q := 51) (n := 120) ⟨by decide, rfl⟩ (by decide) (by first | exact x_rbl b_x5 rfl rfl | exact ⟨by omega, by omega⟩) ?_
      refine x_top (fun z552 e_z552 => ?_)
      have g_z552 : (0 : Int) ≤ s 51 x5.toNat ∧ s 51 x5.toNat ≤ 39 := hG 51 x5.toNat
      refine x_istore k116_62 (ls' := [(6, vi z552), (0, .ref 0), (1, vi x1), (2, vi x2), (3, vj x3), (5, vi x5)]) (by decide) rfl ?_
      refine x_A k116_64 (fun _ => rfl) ?_
      refine x_A k116_66 (fun _ => rfl) ?_
      refine x_ic_eq k116_67 (t := 124) rfl (by first | exact x_rbe e_z552 g_z552 rfl rfl | exact x_rb g_z552 rfl rfl | exact ⟨by omega, by omega⟩) (by first | exact x_rb b_x1 rfl rfl | exact ⟨by omega, by omega⟩) (fun c553 => ?_) (fun c553 => ?_)
      · skip
        refine x_iinc k116_124 (ls' := [(5, vi (x5 + 1)), (6, vi z552), (0, .ref 0), (1, vi x1), (2, vi x2), (3, vj x3)]) rfl (by decide) rfl ?_
        refine x_goto k116_127 (t := 40) rfl ?_
        refine x_ls (l := [(0, .ref 0), (1, vi x1), (2, vi x2), (3, vj x3), (5, vi (x5 + 1))]) (show ([0, 1, 2, 3, 5] : List Nat).Nodup from by decide +kernel) ⟨rfl, rfl, rfl, rfl, rfl, trivial⟩ ?_
        exact ih s x1 x2 x3 (x5 + 1) hG f (by first | exact x_rb b_x1 rfl rfl | exact ⟨by omega, by omega⟩) (by first | exact x_rb b_x2 rfl rfl | exact ⟨by omega, by omega⟩) b_x3 ⟨by omega, by omega⟩  (by omega)
      · skip
        refine x_A k116_70 (fun _ => rfl) ?_
        refine x_getR k116_71 (f := 1) rfl (q := 0) (n := 12) (kd := 3) ⟨by decide, rfl⟩ (q2 := 46) (by decide) rfl ?_
        refine x_getR k116_74 (f := 2) rfl (q := 46) (n := 4) (kd := 5) ⟨by decide, rfl⟩ (q2 := 49) (by decide) rfl ?_
        refine x_A k116_77 (fun _ => rfl) ?_
        refine x_iald k116_79 (q := 49) (n := 40) ⟨by decide, rfl⟩ (by decide) (by first | exact x_rbel e_z552 g_z552 rfl rfl | exact x_rbl g_z552 rfl rfl | exact ⟨by omega, by omega⟩) ?_
        refine x_top (fun z554 e_z554 => ?_)
        have g_z554 : (0 : Int) ≤ s 49 z552.toNat ∧ s 49 z552.toNat ≤ 39 := hG 49 z552.toNat
        refine x_A k116_80 (fun _ => rfl) ?_
        refine x_getR k116_81 (f := 1) rfl (q := 0) (n := 12) (kd := 3) ⟨by decide, rfl⟩ (q2 := 46) (by decide) rfl ?_
        refine x_getR k116_84 (f := 2) rfl (q := 46) (n := 4) (kd := 5) ⟨by decide, rfl⟩ (q2 := 49) (by decide) rfl ?_
        refine x_A k116_87 (fun _ => rfl) ?_
        refine x_iald k116_88 (q := 49) (n := 40) ⟨by decide, rfl⟩ (by decide) (by first | exact x_rbl b_x1 rfl rfl | exact ⟨by omega, by omega⟩) ?_
        refine x_top (fun z555 e_z555 => ?_)
        have g_z555 : (0 : Int) ≤ s 49 x1.toNat ∧ s 49 x1.toNat ≤ 39 := hG 49 x1.toNat
        refine x_ic_eq k116_89 (t := 95) rfl (by first | exact x_rbe e_z554 g_z554 rfl rfl | exact x_rb g_z554 rfl rfl | exact ⟨by omega, by omega⟩) (by first | exact x_rbe e_z555 g_z555 rfl rfl | exact x_rb g_z555 rfl rfl | exact ⟨by omega, by omega⟩) (fun c556 => ?_) (fun c556 => ?_)
        · skip
          refine x_A k116_95 (fun _ => rfl) ?_
          refine x_getR k116_96 (f := 9) rfl (q := 0) (n := 12) (kd := 3) ⟨by decide, rfl⟩ (q2 := 243) (by decide) rfl ?_
          refine x_getR k116_99 (f := 8) rfl (q := 243) (n := 13) (kd := 13) ⟨by decide, rfl⟩ (q2 := 253) (by decide) rfl ?_
          refine x_A k116_102 (fun _ => rfl) ?_
          refine x_iald k116_104 (q := 253) (n := 120) ⟨by decide, rfl⟩ (by decide) (by first | exact x_rbl b_x5 rfl rfl | exact ⟨by omega, by omega⟩) ?_
          refine x_top (fun z557 e_z557 => ?_)
          have g_z557 : (-1) ≤ s 253 x5.toNat ∧ s 253 x5.toNat ≤ 39 := hG 253 x5.toNat
          refine x_A k116_105 (fun _ => rfl) ?_
          refine x_ic_eq k116_106 (t := 124) rfl (by first | exact x_rbe e_z557 g_z557 rfl rfl | exact x_rb g_z557 rfl rfl | exact ⟨by omega, by omega⟩) ⟨by decide, by decide⟩ (fun c558 => ?_) (fun c558 => ?_)
          · skip
            refine x_iinc k116_124 (ls' := [(5, vi (x5 + 1)), (6, vi z552), (0, .ref 0), (1, vi x1), (2, vi x2), (3, vj x3)]) rfl (by decide) rfl ?_
            refine x_goto k116_127 (t := 40) rfl ?_
            refine x_ls (l := [(0, .ref 0), (1, vi x1), (2, vi x2), (3, vj x3), (5, vi (x5 + 1))]) (show ([0, 1, 2, 3, 5] : List Nat).Nodup from by decide +kernel) ⟨rfl, rfl, rfl, rfl, rfl, trivial⟩ ?_
            exact ih s x1 x2 x3 (x5 + 1) hG f (by first | exact x_rb b_x1 rfl rfl | exact ⟨by omega, by omega⟩) (by first | exact x_rb b_x2 rfl rfl | exact ⟨by omega, by omega⟩) b_x3 ⟨by omega, by omega⟩  (by omega)
          · skip
            refine x_A k116_109 (fun _ => rfl) ?_
            refine x_lconst k116_110 (z := 1) (by decide +kernel) ?_
            refine x_A k116_111 (fun _ => rfl) ?_
            refine x_getR k116_112 (f := 9) rfl (q := 0) (n := 12) (kd := 3) ⟨by decide, rfl⟩ (q2 := 243) (by decide) rfl ?_
            refine x_getR k116_115 (f := 8) rfl (q := 243) (n := 13) (kd := 13) ⟨by decide, rfl⟩ (q2 := 253) (by decide) rfl ?_
            refine x_A k116_118 (fun _ => rfl) ?_
            refine x_iald k116_120 (q := 253) (n := 120) ⟨by decide, rfl⟩ (by decide) (by first | exact x_rbl b_x5 rfl rfl | exact ⟨by omega, by omega⟩) ?_
            rw [e_z557.symm]
            refine x_lshl_any k116_121 (fun z559 b_z559 => ?_)
            refine x_lor_any k116_122 (fun z560 b_z560 => ?_)
            refine x_lstore_n k116_123 (ls' := [(3, vj z560), (6, vi z552), (0, .ref 0), (1, vi x1), (2, vi x2), (5, vi x5)]) (by decide) rfl ?_
            refine x_iinc k116_124 (ls' := [(5, vi (x5 + 1)), (3, vj z560), (6, vi z552), (0, .ref 0), (1, vi x1), (2, vi x2)]) rfl (by decide) rfl ?_
            refine x_goto k116_127 (t := 40) rfl ?_
            refine x_ls (l := [(0, .ref 0), (1, vi x1), (2, vi x2), (3, vj z560), (5, vi (x5 + 1))]) (show ([0, 1, 2, 3, 5] : List Nat).Nodup from by decide +kernel) ⟨rfl, rfl, rfl, rfl, rfl, trivial⟩ ?_
            exact ih s x1 x2 z560 (x5 + 1) hG f (by first | exact x_rb b_x1 rfl rfl | exact ⟨by omega, by omega⟩) (by first | exact x_rb b_x2 rfl rfl | exact ⟨by omega, by omega⟩) b_z560 ⟨by omega, by omega⟩  (by omega)
        · skip
          refine x_goto k116_92 (t := 124) rfl ?_
          refine x_iinc k116_124 (ls' := [(5, vi (x5 + 1)), (6, vi z552), (0, .ref 0), (1, vi x1), (2, vi x2), (3, vj x3)]) rfl (by decide) rfl ?_
          refine x_goto k116_127 (t := 40) rfl ?_
          refine x_ls (l := [(0, .ref 0), (1, vi x1), (2, vi x2), (3, vj x3), (5, vi (x5 + 1))]) (show ([0, 1, 2, 3, 5] : List Nat).Nodup from by decide +kernel) ⟨rfl, rfl, rfl, rfl, rfl, trivial⟩ ?_
          exact ih s x1 x2 x3 (x5 + 1) hG f (by first | exact x_rb b_x1 rfl rfl | exact ⟨by omega, by omega⟩) (by first | exact x_rb b_x2 rfl rfl | exact ⟨by omega, by omega⟩) b_x3 ⟨by omega, by omega⟩  (by omega)
theorem C_X10_lacking_0 (s0 : xS) (hG0 : GI s0) (hJ0 : J s0) (a : Int) (b_a : (-2147483648) ≤ a ∧ a ≤ 2147483647) (b : Int) (b_b : (-2147483648) ≤ b ∧ b ≤ 2147483647) : xe none 116 0 (lv_args 0 [.ref 0, vi a, vi b]) [] s0 0 0 (fun s' v => GI s' ∧ FL [3329, 3334, 3335, 3336, 3392, 3456, 3520, 3584, 3276, 3648, 3712, 3776, 3840, 3904, 3968, 3277, 4032] s0 s' ∧ ∃ z, v = some (vj z) ∧ in64 z) := by
  have f0 : FL [3329, 3334, 3335, 3336, 3392, 3456, 3520, 3584, 3276, 3648, 3712, 3776, 3840, 3904, 3968, 3277, 4032] s0 s0 := FL.rf
  show xe none 116 0 [(0, .ref 0), (1, vi a), (2, vi b)] [] s0 0 0 _
  refine x_A k116_0 (fun _ => rfl) ?_
  refine x_getR k116_1 (f := 1) rfl (q := 0) (n := 12) (kd := 3) ⟨by decide, rfl⟩ (q2 := 46) (by decide) rfl ?_
  refine x_A k116_4 (fun _ => rfl) ?_
  obtain ⟨z561, e_z561⟩ : ∃ z, z = s0 46 3 := ⟨_, rfl⟩
  have g_z561 : (0 : Int) ≤ s0 46 3 ∧ s0 46 3 ≤ 40 := hG0 46 3
  refine x_callV k116_5 (y := 29) (n := 1) (w0 := 0) (w1 := 1) (as := [vi a]) (rest := []) (by decide +kernel) (q := 46) (nq := 4) (kq := 5) ⟨by decide, rfl⟩ rfl rfl rfl rfl (xe_mono (C_X3_has_46 s0 hG0 a (by first | exact x_rb b_a rfl rfl | exact ⟨by omega, by omega⟩)) ?_)
  rintro s563 v ⟨h_s563, z562, rfl, hz_z562⟩
  rw [h_s563]
  rcases hz_z562 with ⟨c_z562, e_z562⟩ | ⟨c_z562, e_z562⟩
  · rw [e_z562]
    show xe none 116 8 [(0, .ref 0), (1, vi a), (2, vi b)] [vi 1] s0 0 0 _
    refine x_if_ne k116_8 (t := 15) rfl ⟨by decide, by decide⟩ (fun c564 => ?_) (fun c564 => by exfalso; omega)
    refine x_A k116_15 (fun _ => rfl) ?_
    refine x_A k116_16 (fun _ => rfl) ?_
    obtain ⟨z565, e_z565⟩ : ∃ z, z = s0 0 10 := ⟨_, rfl⟩
    have g_z565 : (0 : Int) ≤ s0 0 10 ∧ s0 0 10 ≤ 9 := hG0 0 10
    refine x_callV k116_17 (y := 125) (n := 1) (w0 := 0) (w1 := 1) (as := [vi b]) (rest := []) (by decide +kernel) (q := 0) (nq := 12) (kq := 3) ⟨by decide, rfl⟩ rfl rfl rfl rfl (xe_mono (C_X10_isKnownEdition_0 s0 hG0 b (by first | exact x_rb b_b rfl rfl | exact ⟨by omega, by omega⟩)) ?_)
    rintro s567 v ⟨h_s567, z566, rfl, hz_z566⟩
    rw [h_s567]
    rcases hz_z566 with ⟨c_z566, e_z566⟩ | ⟨c_z566, e_z566⟩
    · rw [e_z566]
      show xe none 116 20 [(0, .ref 0), (1, vi a), (2, vi b)] [vi 1] s0 0 0 _
      refine x_if_ne k116_20 (t := 27) rfl ⟨by decide, by decide⟩ (fun c568 => ?_) (fun c568 => by exfalso; omega)
      refine x_A k116_27 (fun _ => rfl) ?_
      refine x_getR k116_28 (f := 9) rfl (q := 0) (n := 12) (kd := 3) ⟨by decide, rfl⟩ (q2 := 243) (by decide) rfl ?_
      refine x_A k116_31 (fun _ => rfl) ?_
      refine x_callV k116_32 (y := 76) (n := 1) (w0 := 0) (w1 := 1) (as := [vi b]) (rest := []) (by decide +kernel) (q := 243) (nq := 13) (kq := 13) ⟨by decide, rfl⟩ rfl rfl rfl rfl (xe_mono (C_X8_lookIn_243 s0 hG0 (hJ0.fl f0 (by decide +kernel)) b (by first | exact x_rb b_b rfl rfl | exact ⟨by omega, by omega⟩)) ?_)
      rintro s570 v ⟨hG_s570, t_s570, rfl⟩
      have f_s570 : FL [3329, 3334, 3335, 3336, 3392, 3456, 3520, 3584, 3276, 3648, 3712, 3776, 3840, 3904, 3968, 3277, 4032] s0 s570 := f0.tr t_s570 (by decide +kernel)
      have q571 : s570 46 3 = z561 := (t_s570 46 3 (show 452 ∉ [3329, 3334, 3335, 3336, 3392, 3456, 3520, 3584, 3276, 3648, 3712, 3776, 3840, 3904, 3968, 3277, 4032] from by decide +kernel)).trans e_z561.symm
      have q572 : s570 0 10 = z565 := (t_s570 0 10 (show 11 ∉ [3329, 3334, 3335, 3336, 3392, 3456, 3520, 3584, 3276, 3648, 3712, 3776, 3840, 3904, 3968, 3277, 4032] from by decide +kernel)).trans e_z565.symm
      show xe none 116 35 [(0, .ref 0), (1, vi a), (2, vi b)] [] s570 0 0 _
      refine x_lconst k116_35 (z := 0) (by decide +kernel) ?_
      refine x_lstore_n k116_36 (ls' := [(3, vj 0), (0, .ref 0), (1, vi a), (2, vi b)]) (by decide) rfl ?_
      refine x_A k116_37 (fun _ => rfl) ?_
      refine x_istore k116_38 (ls' := [(5, vi 0), (3, vj 0), (0, .ref 0), (1, vi a), (2, vi b)]) (by decide) rfl ?_
      refine x_ls (l := [(0, .ref 0), (1, vi a), (2, vi b), (3, vj 0), (5, vi 0)]) (show ([0, 1, 2, 3, 5] : List Nat).Nodup from by decide +kernel) ⟨rfl, rfl, rfl, rfl, rfl, trivial⟩ ?_
      exact L_C_X10_lacking_0_40 s0 hJ0  (((120 - 0) + 1 : Int)).toNat s570 a b 0 0 hG_s570 f_s570 (by first | exact x_rb b_a rfl rfl | exact ⟨by omega, by omega⟩) (by first | exact x_rb b_b rfl rfl | exact ⟨by omega, by omega⟩) ⟨by omega, by omega⟩ ⟨by decide, by decide⟩  (by omega)
    · rw [e_z566]
      show xe none 116 20 [(0, .ref 0), (1, vi a), (2, vi b)] [vi 0] s0 0 0 _
      refine x_if_ne k116_20 (t := 27) rfl ⟨by decide, by decide⟩ (fun c573 => by exfalso; omega) (fun c573 => ?_)
      refine x_ldc2 k116_23 (z := (-1002)) rfl (by decide +kernel) ?_
      exact x_lret k116_26 rfl ⟨hG0, f0, (-1002), rfl, ⟨by omega, by omega⟩⟩
  · rw [e_z562]
    show xe none 116 8 [(0, .ref 0), (1, vi a), (2, vi b)] [vi 0] s0 0 0 _
    refine x_if_ne k116_8 (t := 15) rfl ⟨by decide, by decide⟩ (fun c574 => by exfalso; omega) (fun c574 => ?_)
    refine x_ldc2 k116_11 (z := (-1001)) rfl (by decide +kernel) ?_
    exact x_lret k116_14 rfl ⟨hG0, f0, (-1001), rfl, ⟨by omega, by omega⟩⟩
theorem L_C_X10_of_0_75 (s0 : xS) (hJ0 : J s0)  : ∀ (n : Nat) (s : xS) (x1 : Int) (x2 : Int) (x3 : Int) (x4 : Int) (x5 : Int) (x6 : Int) (x7 : Int) (hG : GI s) (f : FL [3329, 3334, 3335, 3336, 3392, 3456, 3520, 3584, 3276, 3648, 3712, 3776, 3840, 3904, 3968, 3277, 4032] s0 s) (b_x1 : 0 ≤ x1 ∧ x1 ≤ 39) (b_x2 : 0 ≤ x2 ∧ x2 ≤ 3) (b_x3 : 0 ≤ x3 ∧ x3 ≤ 9) (b_x4 : 0 ≤ x4 ∧ x4 ≤ 2) (b_x5 : (-2147483648) ≤ x5 ∧ x5 ≤ 2147483647) (b_x6 : (-1) ≤ x6 ∧ x6 ≤ 4) (b_x7 : (-1) ≤ x7 ∧ x7 ≤ 4)  (hm : (x7 - (-1)) < (n : Int)), xe none 119 75 [(0, .ref 0), (1, vi x1), (2, vi x2), (3, vi x3), (4, vi x4), (5, vi x5), (6, vi x6), (7, vi x7)] [] s 0 0 (fun s' v => GI s' ∧ FL [3329, 3334, 3335, 3336, 3392, 3456, 3520, 3584, 3276, 3648, 3712, 3776, 3840, 3904, 3968, 3277, 4032] s0 s' ∧ ∃ z, v = some (vi z) ∧ ((-2147483648) ≤ z ∧ z ≤ 2147483647)) := by
  intro n
  induction n with
  | zero => intro s x1 x2 x3 x4 x5 x6 x7 hG f b_x1 b_x2 b_x3 b_x4 b_x5 b_x6 b_x7  hm; exfalso; omega
  | succ n ih =>
    intro s x1 x2 x3 x4 x5 x6 x7 hG f b_x1 b_x2 b_x3 b_x4 b_x5 b_x6 b_x7  hm
    refine x_A k119_75 (fun _ => rfl) ?_
    refine x_if_lt k119_77 (t := 127) rfl (by first | exact x_rb b_x7 rfl rfl | exact ⟨by omega, by omega⟩) (fun c964 => ?_) (fun c964 => ?_)
    · skip
      refine x_A k119_127 (fun _ => rfl) ?_
      have c965 : x4 = 0 ∨ x4 = 1 ∨ x4 = 2 := by omega
      rcases c965 with c965 | c965 | c965
      · rw [c965]
        refine x_B k119_129 rfl (fun _ => rfl) (fun _ => rfl) (fun _ _ => rfl) ?_
        show xe none 119 156 [(0, .ref 0), (1, vi x1), (2, vi x2), (3, vi x3), (4, vi 0), (5, vi x5), (6, vi x6), (7, vi x7)] [] s 0 0 _
        refine x_A k119_156 (fun _ => rfl) ?_
        exact x_iret k119_158 rfl ⟨hG, f, x5, rfl, (by first | exact x_rb b_x5 rfl rfl | exact ⟨by omega, by omega⟩)⟩
      · rw [c965]
        refine x_B k119_129 rfl (fun _ => rfl) (fun _ => rfl) (fun _ _ => rfl) ?_
        show xe none 119 159 [(0, .ref 0), (1, vi x1), (2, vi x2), (3, vi x3), (4, vi 1), (5, vi x5), (6, vi x6), (7, vi x7)] [] s 0 0 _
        refine x_A k119_159 (fun _ => rfl) ?_
        exact x_iret k119_161 rfl ⟨hG, f, x6, rfl, (by first | exact x_rb b_x6 rfl rfl | exact ⟨by omega, by omega⟩)⟩
      · rw [c965]
        refine x_B k119_129 rfl (fun _ => rfl) (fun _ => rfl) (fun _ _ => rfl) ?_
        show xe none 119 162 [(0, .ref 0), (1, vi x1), (2, vi x2), (3, vi x3), (4, vi 2), (5, vi x5), (6, vi x6), (7, vi x7)] [] s 0 0 _
        refine x_A k119_162 (fun _ => rfl) ?_
        refine x_A k119_164 (fun _ => rfl) ?_
        refine x_ic_ne k119_165 (t := 172) rfl (by first | exact x_rb b_x5 rfl rfl | exact ⟨by omega, by omega⟩) ⟨by decide, by decide⟩ (fun c966 => ?_) (fun c966 => ?_)
        · skip
          refine x_A k119_172 (fun _ => rfl) ?_
          refine x_callS k119_173 (y := 126) (n := 1) (w0 := 0) (w1 := 1) (as := [vi 0]) (rest := []) (by decide +kernel) rfl rfl rfl rfl (xe_mono (C_X10_oneIf s hG 0 ⟨by decide, by decide⟩) ?_)
          rintro s968 v ⟨-, t_s968, z967, rfl, g_z967⟩
          rw [t_s968.nil]
          show xe none 119 176 [(0, .ref 0), (1, vi x1), (2, vi x2), (3, vi x3), (4, vi 2), (5, vi x5), (6, vi x6), (7, vi x7)] [vi z967] s 0 0 _
          exact x_iret k119_176 rfl ⟨hG, f, z967, rfl, (by first | exact x_rbe e_z967 g_z967 rfl rfl | exact x_rb g_z967 rfl rfl | exact ⟨by omega, by omega⟩)⟩
        · skip
          refine x_A k119_168 (fun _ => rfl) ?_
          refine x_goto k119_169 (t := 173) rfl ?_
          refine x_callS k119_173 (y := 126) (n := 1) (w0 := 0) (w1 := 1) (as := [vi 1]) (rest := []) (by decide +kernel) rfl rfl rfl rfl (xe_mono (C_X10_oneIf s hG 1 ⟨by decide, by decide⟩) ?_)
          rintro s970 v ⟨-, t_s970, z969, rfl, g_z969⟩
          rw [t_s970.nil]
          show xe none 119 176 [(0, .ref 0), (1, vi x1), (2, vi x2), (3, vi x3), (4, vi 2), (5, vi x5), (6, vi x6), (7, vi x7)] [vi z969] s 0 0 _
          exact x_iret k119_176 rfl ⟨hG, f, z969, rfl, (by first | exact x_rbe e_z969 g_z969 rfl rfl | exact x_rb g_z969 rfl rfl | exact ⟨by omega, by omega⟩)⟩
    · skip
      refine x_A k119_80 (fun _ => rfl) ?_
      refine x_getR k119_81 (f := 8) rfl (q := 0) (n := 12) (kd := 3) ⟨by decide, rfl⟩ (q2 := 231) (by decide) rfl ?_
      refine x_getR k119_84 (f := 2) rfl (q := 231) (n := 4) (kd := 12) ⟨by decide, rfl⟩ (q2 := 238) (by decide) rfl ?_
      refine x_A k119_87 (fun _ => rfl) ?_
      refine x_aald k119_88 (q := 238) (t := 24) (n := 4) ⟨by decide, rfl⟩ (by decide) (by decide) ⟨by omega, by omega⟩ ?_
      refine x_A k119_89 (fun _ => rfl) ?_
      refine x_lald k119_91 (q := (238 + 1 + x2.toNat)) (n := 5) (xg_239 (by omega) (by omega)) (by decide) (by first | exact x_rbl b_x7 rfl rfl | exact ⟨by omega, by omega⟩) ?_
      refine x_topL (fun z971 e_z971 => ?_)
      have r_z971 := hG (238 + 1 + x2.toNat) x7.toNat
      rw [(gr_239 x7.toNat (show 239 ≤ (238 + 1 + x2.toNat) by omega) (by omega)).1, (gr_239 x7.toNat (show 239 ≤ (238 + 1 + x2.toNat) by omega) (by omega)).2.1, ← e_z971] at r_z971
      have b_z971 : in64 z971 := r_z971
      refine x_A k119_92 (fun _ => rfl) ?_
      refine x_getR k119_93 (f := 9) rfl (q := 0) (n := 12) (kd := 3) ⟨by decide, rfl⟩ (q2 := 243) (by decide) rfl ?_
      refine x_getR k119_96 (f := 10) rfl (q := 243) (n := 13) (kd := 13) ⟨by decide, rfl⟩ (q2 := 255) (by decide) rfl ?_
      refine x_A k119_99 (fun _ => rfl) ?_
      refine x_lald k119_100 (q := 255) (n := 40) ⟨by decide, rfl⟩ (by decide) (by first | exact x_rbl b_x1 rfl rfl | exact ⟨by omega, by omega⟩) ?_
      refine x_topL (fun z972 e_z972 => ?_)
      have b_z972 : in64 z972 := by rw [e_z972]; exact hG 255 x1.toNat
      refine x_ldc2 k119_101 (z := (-1)) rfl (by decide +kernel) ?_
      refine x_lxor_any k119_104 (fun z973 b_z973 => ?_)
      refine x_land_any k119_105 (fun z974 b_z974 => ?_)
      refine x_lconst k119_106 (z := 0) (by decide +kernel) ?_
      refine x_lc_eq k119_107 k119_108 (t := 114) rfl b_z974 ⟨by omega, by omega⟩ (fun c975 => ?_) (fun c975 => ?_)
      · skip
        refine x_iinc k119_114 (ls' := [(5, vi (x5 + 1)), (0, .ref 0), (1, vi x1), (2, vi x2), (3, vi x3), (4, vi x4), (6, vi x6), (7, vi x7)]) rfl (by decide) rfl ?_
        obtain ⟨z976, g_z976, e_z976⟩ := x_wrap (x5 + 1)
        unfold in32 at g_z976
        rw [e_z976]
        refine x_A k119_117 (fun _ => rfl) ?_
        refine x_istore k119_119 (ls' := [(6, vi x7), (5, vi z976), (0, .ref 0), (1, vi x1), (2, vi x2), (3, vi x3), (4, vi x4), (7, vi x7)]) (by decide) rfl ?_
        refine x_iinc k119_121 (ls' := [(7, vi (x7 + (-1))), (6, vi x7), (5, vi z976), (0, .ref 0), (1, vi x1), (2, vi x2), (3, vi x3), (4, vi x4)]) rfl (by decide) rfl ?_
        refine x_goto k119_124 (t := 75) rfl ?_
        refine x_ls (l := [(0, .ref 0), (1, vi x1), (2, vi x2), (3, vi x3), (4, vi x4), (5, vi z976), (6, vi x7), (7, vi (x7 + (-1)))]) (show ([0, 1, 2, 3, 4, 5, 6, 7] : List Nat).Nodup from by decide +kernel) ⟨rfl, rfl, rfl, rfl, rfl, rfl, rfl, rfl, trivial⟩ ?_
        exact ih s x1 x2 x3 x4 z976 x7 (x7 + (-1)) hG f (by first | exact x_rb b_x1 rfl rfl | exact ⟨by omega, by omega⟩) (by first | exact x_rb b_x2 rfl rfl | exact ⟨by omega, by omega⟩) (by first | exact x_rb b_x3 rfl rfl | exact ⟨by omega, by omega⟩) (by first | exact x_rb b_x4 rfl rfl | exact ⟨by omega, by omega⟩) (by first | exact x_rbe e_z976 g_z976 rfl rfl | exact x_rb g_z976 rfl rfl | exact ⟨by omega, by omega⟩) (by first | exact x_rb b_x7 rfl rfl | exact ⟨by omega, by omega⟩) ⟨by omega, by omega⟩  (by omega)
      · skip
        refine x_goto k119_111 (t := 121) rfl ?_
        refine x_iinc k119_121 (ls' := [(7, vi (x7 + (-1))), (0, .ref 0), (1, vi x1), (2, vi x2), (3, vi x3), (4, vi x4), (5, vi x5), (6, vi x6)]) rfl (by decide) rfl ?_
        refine x_goto k119_124 (t := 75) rfl ?_
        refine x_ls (l := [(0, .ref 0), (1, vi x1), (2, vi x2), (3, vi x3), (4, vi x4), (5, vi x5), (6, vi x6), (7, vi (x7 + (-1)))]) (show ([0, 1, 2, 3, 4, 5, 6, 7] : List Nat).Nodup from by decide +kernel) ⟨rfl, rfl, rfl, rfl, rfl, rfl, rfl, rfl, trivial⟩ ?_
        exact ih s x1 x2 x3 x4 x5 x6 (x7 + (-1)) hG f (by first | exact x_rb b_x1 rfl rfl | exact ⟨by omega, by omega⟩) (by first | exact x_rb b_x2 rfl rfl | exact ⟨by omega, by omega⟩) (by first | exact x_rb b_x3 rfl rfl | exact ⟨by omega, by omega⟩) (by first | exact x_rb b_x4 rfl rfl | exact ⟨by omega, by omega⟩) (by first | exact x_rb b_x5 rfl rfl | exact ⟨by omega, by omega⟩) (by first | exact x_rb b_x6 rfl rfl | exact ⟨by omega, by omega⟩) ⟨by omega, by omega⟩  (by omega)
theorem C_X10_of_0 (s0 : xS) (hG0 : GI s0) (hJ0 : J s0) (a : Int) (b_a : (-2147483648) ≤ a ∧ a ≤ 2147483647) (b : Int) (b_b : (-2147483648) ≤ b ∧ b ≤ 2147483647) (d : Int) (b_d : (-2147483648) ≤ d ∧ d ≤ 2147483647) (e : Int) (b_e : (-2147483648) ≤ e ∧ e ≤ 2147483647) : xe none 119 0 (lv_args 0 [.ref 0, vi a, vi b, vi d, vi e]) [] s0 0 0 (fun s' v => GI s' ∧ FL [3329, 3334, 3335, 3336, 3392, 3456, 3520, 3584, 3276, 3648, 3712, 3776, 3840, 3904, 3968, 3277, 4032] s0 s' ∧ ∃ z, v = some (vi z) ∧ ((-2147483648) ≤ z ∧ z ≤ 2147483647)) := by
  have f0 : FL [3329, 3334, 3335, 3336, 3392, 3456, 3520, 3584, 3276, 3648, 3712, 3776, 3840, 3904, 3968, 3277, 4032] s0 s0 := FL.rf
  show xe none 119 0 [(0, .ref 0), (1, vi a), (2, vi b), (3, vi d), (4, vi e)] [] s0 0 0 _
  refine x_A k119_0 (fun _ => rfl) ?_
  refine x_getR k119_1 (f := 1) rfl (q := 0) (n := 12) (kd := 3) ⟨by decide, rfl⟩ (q2 := 46) (by decide) rfl ?_
  refine x_A k119_4 (fun _ => rfl) ?_
  obtain ⟨z977, e_z977⟩ : ∃ z, z = s0 46 3 := ⟨_, rfl⟩
  have g_z977 : (0 : Int) ≤ s0 46 3 ∧ s0 46 3 ≤ 40 := hG0 46 3
  refine x_callV k119_5 (y := 29) (n := 1) (w0 := 0) (w1 := 1) (as := [vi a]) (rest := []) (by decide +kernel) (q := 46) (nq := 4) (kq := 5) ⟨by decide, rfl⟩ rfl rfl rfl rfl (xe_mono (C_X3_has_46 s0 hG0 a (by first | exact x_rb b_a rfl rfl | exact ⟨by omega, by omega⟩)) ?_)
  rintro s979 v ⟨h_s979, z978, rfl, hz_z978⟩
  rw [h_s979]
  rcases hz_z978 with ⟨c_z978, e_z978⟩ | ⟨c_z978, e_z978⟩
  · rw [e_z978]
    show xe none 119 8 [(0, .ref 0), (1, vi a), (2, vi b), (3, vi d), (4, vi e)] [vi 1] s0 0 0 _
    refine x_if_eq k119_8 (t := 22) rfl ⟨by decide, by decide⟩ (fun c980 => by exfalso; omega) (fun c980 => ?_)
    refine x_A k119_11 (fun _ => rfl) ?_
    refine x_getR k119_12 (f := 8) rfl (q := 0) (n := 12) (kd := 3) ⟨by decide, rfl⟩ (q2 := 231) (by decide) rfl ?_
    refine x_A k119_15 (fun _ => rfl) ?_
    obtain ⟨z981, e_z981⟩ : ∃ z, z = s0 231 3 := ⟨_, rfl⟩
    have g_z981 : (0 : Int) ≤ s0 231 3 ∧ s0 231 3 ≤ 4 := hG0 231 3
    refine x_callV k119_16 (y := 43) (n := 1) (w0 := 0) (w1 := 1) (as := [vi b]) (rest := []) (by decide +kernel) (q := 231) (nq := 4) (kq := 12) ⟨by decide, rfl⟩ rfl rfl rfl rfl (xe_mono (C_X5_has_231 s0 hG0 b (by first | exact x_rb b_b rfl rfl | exact ⟨by omega, by omega⟩)) ?_)
    rintro s983 v ⟨h_s983, z982, rfl, hz_z982⟩
    rw [h_s983]
    rcases hz_z982 with ⟨c_z982, e_z982⟩ | ⟨c_z982, e_z982⟩
    · rw [e_z982]
      show xe none 119 19 [(0, .ref 0), (1, vi a), (2, vi b), (3, vi d), (4, vi e)] [vi 1] s0 0 0 _
      refine x_if_ne k119_19 (t := 26) rfl ⟨by decide, by decide⟩ (fun c984 => ?_) (fun c984 => by exfalso; omega)
      refine x_A k119_26 (fun _ => rfl) ?_
      refine x_A k119_27 (fun _ => rfl) ?_
      obtain ⟨z985, e_z985⟩ : ∃ z, z = s0 0 10 := ⟨_, rfl⟩
      have g_z985 : (0 : Int) ≤ s0 0 10 ∧ s0 0 10 ≤ 9 := hG0 0 10
      refine x_callV k119_28 (y := 125) (n := 1) (w0 := 0) (w1 := 1) (as := [vi d]) (rest := []) (by decide +kernel) (q := 0) (nq := 12) (kq := 3) ⟨by decide, rfl⟩ rfl rfl rfl rfl (xe_mono (C_X10_isKnownEdition_0 s0 hG0 d (by first | exact x_rb b_d rfl rfl | exact ⟨by omega, by omega⟩)) ?_)
      rintro s987 v ⟨h_s987, z986, rfl, hz_z986⟩
      rw [h_s987]
      rcases hz_z986 with ⟨c_z986, e_z986⟩ | ⟨c_z986, e_z986⟩
      · rw [e_z986]
        show xe none 119 31 [(0, .ref 0), (1, vi a), (2, vi b), (3, vi d), (4, vi e)] [vi 1] s0 0 0 _
        refine x_if_eq k119_31 (t := 44) rfl ⟨by decide, by decide⟩ (fun c988 => by exfalso; omega) (fun c988 => ?_)
        refine x_A k119_34 (fun _ => rfl) ?_
        refine x_A k119_36 (fun _ => rfl) ?_
        refine x_A k119_37 (fun _ => rfl) ?_
        refine x_callS k119_38 (y := 121) (n := 3) (w0 := 0) (w1 := 3) (as := [vi e, vi 0, vi 2]) (rest := []) (by decide +kernel) rfl rfl rfl rfl (xe_mono (C_X10_isWithin s0 hG0 e (by first | exact x_rb b_e rfl rfl | exact ⟨by omega, by omega⟩) 0 ⟨by decide, by decide⟩ 2 ⟨by decide, by decide⟩) ?_)
        rintro s990 v ⟨h_s990, z989, rfl, hz_z989⟩
        rw [h_s990]
        rcases hz_z989 with ⟨c_z989, e_z989⟩ | ⟨c_z989, e_z989⟩
        · rw [e_z989]
          show xe none 119 41 [(0, .ref 0), (1, vi a), (2, vi b), (3, vi d), (4, vi e)] [vi 1] s0 0 0 _
          refine x_if_ne k119_41 (t := 48) rfl ⟨by decide, by decide⟩ (fun c991 => ?_) (fun c991 => by exfalso; omega)
          refine x_A k119_48 (fun _ => rfl) ?_
          refine x_getR k119_49 (f := 9) rfl (q := 0) (n := 12) (kd := 3) ⟨by decide, rfl⟩ (q2 := 243) (by decide) rfl ?_
          refine x_A k119_52 (fun _ => rfl) ?_
          refine x_callV k119_53 (y := 76) (n := 1) (w0 := 0) (w1 := 1) (as := [vi d]) (rest := []) (by decide +kernel) (q := 243) (nq := 13) (kq := 13) ⟨by decide, rfl⟩ rfl rfl rfl rfl (xe_mono (C_X8_lookIn_243 s0 hG0 (hJ0.fl f0 (by decide +kernel)) d (by first | exact x_rb b_d rfl rfl | exact ⟨by omega, by omega⟩)) ?_)
          rintro s993 v ⟨hG_s993, t_s993, rfl⟩
          have f_s993 : FL [3329, 3334, 3335, 3336, 3392, 3456, 3520, 3584, 3276, 3648, 3712, 3776, 3840, 3904, 3968, 3277, 4032] s0 s993 := f0.tr t_s993 (by decide +kernel)
          have q994 : s993 46 3 = z977 := (t_s993 46 3 (show 452 ∉ [3329, 3334, 3335, 3336, 3392, 3456, 3520, 3584, 3276, 3648, 3712, 3776, 3840, 3904, 3968, 3277, 4032] from by decide +kernel)).trans e_z977.symm
          have q995 : s993 231 3 = z981 := (t_s993 231 3 (show 2884 ∉ [3329, 3334, 3335, 3336, 3392, 3456, 3520, 3584, 3276, 3648, 3712, 3776, 3840, 3904, 3968, 3277, 4032] from by decide +kernel)).trans e_z981.symm
          have q996 : s993 0 10 = z985 := (t_s993 0 10 (show 11 ∉ [3329, 3334, 3335, 3336, 3392, 3456, 3520, 3584, 3276, 3648, 3712, 3776, 3840, 3904, 3968, 3277, 4032] from by decide +kernel)).trans e_z985.symm
          show xe none 119 56 [(0, .ref 0), (1, vi a), (2, vi b), (3, vi d), (4, vi e)] [] s993 0 0 _
          refine x_A k119_56 (fun _ => rfl) ?_
          refine x_istore k119_57 (ls' := [(5, vi 0), (0, .ref 0), (1, vi a), (2, vi b), (3, vi d), (4, vi e)]) (by decide) rfl ?_
          refine x_A k119_59 (fun _ => rfl) ?_
          refine x_istore k119_60 (ls' := [(6, vi (-1)), (5, vi 0), (0, .ref 0), (1, vi a), (2, vi b), (3, vi d), (4, vi e)]) (by decide) rfl ?_
          refine x_A k119_62 (fun _ => rfl) ?_
          refine x_getR k119_63 (f := 8) rfl (q := 0) (n := 12) (kd := 3) ⟨by decide, rfl⟩ (q2 := 231) (by decide) rfl ?_
          refine x_getR k119_66 (f := 0) rfl (q := 231) (n := 4) (kd := 12) ⟨by decide, rfl⟩ (q2 := 232) (by decide) rfl ?_
          refine x_A k119_69 (fun _ => rfl) ?_
          refine x_iald k119_70 (q := 232) (n := 4) ⟨by decide, rfl⟩ (by decide) (by first | exact x_rbl b_b rfl rfl | exact ⟨by omega, by omega⟩) ?_
          refine x_top (fun z997 e_z997 => ?_)
          have g_z997 : (0 : Int) ≤ s993 232 b.toNat ∧ s993 232 b.toNat ≤ 5 := hG_s993 232 b.toNat
          refine x_A k119_71 (fun _ => rfl) ?_
          refine x_isub k119_72 ?_
          refine x_top (fun z998 e_z998 => ?_)
          refine x_istore k119_73 (ls' := [(7, vi z998), (6, vi (-1)), (5, vi 0), (0, .ref 0), (1, vi a), (2, vi b), (3, vi d), (4, vi e)]) (by decide) rfl ?_
          refine x_ls (l := [(0, .ref 0), (1, vi a), (2, vi b), (3, vi d), (4, vi e), (5, vi 0), (6, vi (-1)), (7, vi z998)]) (show ([0, 1, 2, 3, 4, 5, 6, 7] : List Nat).Nodup from by decide +kernel) ⟨rfl, rfl, rfl, rfl, rfl, rfl, rfl, rfl, trivial⟩ ?_
          exact L_C_X10_of_0_75 s0 hJ0  (((z998 - (-1)) + 1 : Int)).toNat s993 a b d e 0 (-1) z998 hG_s993 f_s993 (by first | exact x_rb b_a rfl rfl | exact ⟨by omega, by omega⟩) (by first | exact x_rb b_b rfl rfl | exact ⟨by omega, by omega⟩) (by first | exact x_rb b_d rfl rfl | exact ⟨by omega, by omega⟩) (by first | exact x_rb b_e rfl rfl | exact ⟨by omega, by omega⟩) ⟨by decide, by decide⟩ ⟨by decide, by decide⟩ (by first | exact x_rbe e_z998 g_z998 rfl rfl | exact x_rb g_z998 rfl rfl | exact ⟨by omega, by omega⟩)  (by omega)
        · rw [e_z989]
          show xe none 119 41 [(0, .ref 0), (1, vi a), (2, vi b), (3, vi d), (4, vi e)] [vi 0] s0 0 0 _
          refine x_if_ne k119_41 (t := 48) rfl ⟨by decide, by decide⟩ (fun c999 => by exfalso; omega) (fun c999 => ?_)
          refine x_sipush k119_44 (by decide +kernel) ?_
          exact x_iret k119_47 rfl ⟨hG0, f0, (-1002), rfl, ⟨by decide, by decide⟩⟩
      · rw [e_z986]
        show xe none 119 31 [(0, .ref 0), (1, vi a), (2, vi b), (3, vi d), (4, vi e)] [vi 0] s0 0 0 _
        refine x_if_eq k119_31 (t := 44) rfl ⟨by decide, by decide⟩ (fun c1000 => ?_) (fun c1000 => by exfalso; omega)
        refine x_sipush k119_44 (by decide +kernel) ?_
        exact x_iret k119_47 rfl ⟨hG0, f0, (-1002), rfl, ⟨by decide, by decide⟩⟩
    · rw [e_z982]
      show xe none 119 19 [(0, .ref 0), (1, vi a), (2, vi b), (3, vi d), (4, vi e)] [vi 0] s0 0 0 _
      refine x_if_ne k119_19 (t := 26) rfl ⟨by decide, by decide⟩ (fun c1001 => by exfalso; omega) (fun c1001 => ?_)
      refine x_sipush k119_22 (by decide +kernel) ?_
      exact x_iret k119_25 rfl ⟨hG0, f0, (-1001), rfl, ⟨by decide, by decide⟩⟩
  · rw [e_z978]
    show xe none 119 8 [(0, .ref 0), (1, vi a), (2, vi b), (3, vi d), (4, vi e)] [vi 0] s0 0 0 _
    refine x_if_eq k119_8 (t := 22) rfl ⟨by decide, by decide⟩ (fun c1002 => ?_) (fun c1002 => by exfalso; omega)
    refine x_sipush k119_22 (by decide +kernel) ?_
    exact x_iret k119_25 rfl ⟨hG0, f0, (-1001), rfl, ⟨by decide, by decide⟩⟩
theorem L_C_X10_split_0_63 (s0 : xS) (hJ0 : J s0)  : ∀ (n : Nat) (s : xS) (x1 : Int) (x2 : Int) (x3 : Int) (x4 : Int) (x6 : Int) (x7 : Int) (x8 : Int) (hG : GI s) (f : FL [3329, 3334, 3335, 3336, 3392, 3456, 3520, 3584, 3276, 3648, 3712, 3776, 3840, 3904, 3968, 3277, 4032] s0 s) (b_x1 : 0 ≤ x1 ∧ x1 ≤ 39) (b_x2 : 0 ≤ x2 ∧ x2 ≤ 9) (b_x3 : 0 ≤ x3 ∧ x3 ≤ 1) (b_x4 : in64 x4) (b_x6 : (-1) ≤ x6 ∧ x6 ≤ 39) (b_x7 : (-1) ≤ x7 ∧ x7 ≤ 127) (b_x8 : 0 ≤ x8 ∧ x8 ≤ 40) (r_6_8 : x6 ≤ x8 + (-1))  (hm : (40 - x8) < (n : Int)), xe none 120 63 [(0, .ref 0), (1, vi x1), (2, vi x2), (3, vi x3), (4, vj x4), (6, vi x6), (7, vi x7), (8, vi x8)] [] s 0 0 (fun s' v => GI s' ∧ FL [3329, 3334, 3335, 3336, 3392, 3456, 3520, 3584, 3276, 3648, 3712, 3776, 3840, 3904, 3968, 3277, 4032] s0 s' ∧ ∃ z, v = some (vi z) ∧ ((-1004) ≤ z ∧ z ≤ 127)) := by
  intro n
  induction n with
  | zero => intro s x1 x2 x3 x4 x6 x7 x8 hG f b_x1 b_x2 b_x3 b_x4 b_x6 b_x7 b_x8 r_6_8  hm; exfalso; omega
  | succ n ih =>
    intro s x1 x2 x3 x4 x6 x7 x8 hG f b_x1 b_x2 b_x3 b_x4 b_x6 b_x7 b_x8 r_6_8  hm
    refine x_A k120_63 (fun _ => rfl) ?_
    refine x_A k120_65 (fun _ => rfl) ?_
    refine x_getR k120_66 (f := 0) rfl (q := 0) (n := 12) (kd := 3) ⟨by decide, rfl⟩ (q2 := 1) (by decide) rfl ?_
    refine x_getI k120_69 (f := 4) rfl (q := 1) (n := 5) (kd := 4) ⟨by decide, rfl⟩ (by decide) rfl ?_
    refine x_top (fun z511 e_z511 => ?_)
    have g_z511 : (1 : Int) ≤ s 1 4 ∧ s 1 4 ≤ 40 := hG 1 4
    refine x_ic_ge k120_72 (t := 148) rfl (by first | exact x_rb b_x8 rfl rfl | exact ⟨by omega, by omega⟩) (by first | exact x_rbe e_z511 g_z511 rfl rfl | exact x_rb g_z511 rfl rfl | exact ⟨by omega, by omega⟩) (fun c512 => ?_) (fun c512 => ?_)
    · skip
      refine x_A k120_148 (fun _ => rfl) ?_
      refine x_if_ne k120_149 (t := 157) rfl (by first | exact x_rb b_x3 rfl rfl | exact ⟨by omega, by omega⟩) (fun c513 => ?_) (fun c513 => ?_)
      · skip
        refine x_A k120_157 (fun _ => rfl) ?_
        exact x_iret k120_159 rfl ⟨hG, f, x7, rfl, (by first | exact x_rb b_x7 rfl rfl | exact ⟨by omega, by omega⟩)⟩
      · skip
        refine x_A k120_152 (fun _ => rfl) ?_
        refine x_goto k120_154 (t := 159) rfl ?_
        exact x_iret k120_159 rfl ⟨hG, f, x6, rfl, (by first | exact x_rb b_x6 rfl rfl | exact ⟨by omega, by omega⟩)⟩
    · skip
      refine x_A k120_75 (fun _ => rfl) ?_
      refine x_A k120_76 (fun _ => rfl) ?_
      refine x_A k120_78 (fun _ => rfl) ?_
      refine x_A k120_79 (fun _ => rfl) ?_
      refine x_callV k120_80 (y := 131) (n := 3) (w0 := 0) (w1 := 3) (as := [vi x8, vi x1, vi x2]) (rest := []) (by decide +kernel) (q := 0) (nq := 12) (kq := 3) ⟨by decide, rfl⟩ rfl rfl rfl rfl (xe_mono (C_X10_isApart_0 s hG x8 (by first | exact x_rb b_x8 rfl rfl | exact ⟨by omega, by omega⟩) x1 (by first | exact x_rb b_x1 rfl rfl | exact ⟨by omega, by omega⟩) x2 (by first | exact x_rb b_x2 rfl rfl | exact ⟨by omega, by omega⟩)) ?_)
      rintro s515 v ⟨-, t_s515, z514, rfl, g_z514⟩
      rw [t_s515.nil]
      show xe none 120 83 [(0, .ref 0), (1, vi x1), (2, vi x2), (3, vi x3), (4, vj x4), (6, vi x6), (7, vi x7), (8, vi x8)] [vi z514] s 0 0 _
      refine x_if_ne k120_83 (t := 89) rfl (by first | exact x_rbe e_z514 g_z514 rfl rfl | exact x_rb g_z514 rfl rfl | exact ⟨by omega, by omega⟩) (fun c516 => ?_) (fun c516 => ?_)
      · skip
        refine x_A k120_89 (fun _ => rfl) ?_
        refine x_A k120_91 (fun _ => rfl) ?_
        refine x_getR k120_92 (f := 9) rfl (q := 0) (n := 12) (kd := 3) ⟨by decide, rfl⟩ (q2 := 243) (by decide) rfl ?_
        refine x_A k120_95 (fun _ => rfl) ?_
        refine x_callV k120_97 (y := 79) (n := 1) (w0 := 2) (w1 := 1) (as := [vi x8]) (rest := [vj x4]) (by decide +kernel) (q := 243) (nq := 13) (kq := 13) ⟨by decide, rfl⟩ rfl rfl rfl rfl (xe_mono (C_X8_showing_243 s hG x8 (by first | exact x_rb b_x8 rfl rfl | exact ⟨by omega, by omega⟩)) ?_)
        rintro s518 v ⟨-, t_s518, z517, rfl, b_z517⟩
        rw [t_s518.nil]
        show xe none 120 100 [(0, .ref 0), (1, vi x1), (2, vi x2), (3, vi x3), (4, vj x4), (6, vi x6), (7, vi x7), (8, vi x8)] [vj z517, vj x4] s 0 0 _
        refine x_land_any k120_100 (fun z519 b_z519 => ?_)
        refine x_callS k120_101 (y := 219) (n := 1) (w0 := 0) (w1 := 2) (as := [vj z519]) (rest := []) (by decide +kernel) rfl rfl rfl rfl (xe_mono (C_J13_bitCount_95d88 s hG z519 b_z519) ?_)
        rintro s521 v ⟨-, t_s521, z520, rfl, g_z520⟩
        rw [t_s521.nil]
        show xe none 120 104 [(0, .ref 0), (1, vi x1), (2, vi x2), (3, vi x3), (4, vj x4), (6, vi x6), (7, vi x7), (8, vi x8)] [vi z520] s 0 0 _
        refine x_istore k120_104 (ls' := [(9, vi z520), (0, .ref 0), (1, vi x1), (2, vi x2), (3, vi x3), (4, vj x4), (6, vi x6), (7, vi x7), (8, vi x8)]) (by decide) rfl ?_
        refine x_A k120_106 (fun _ => rfl) ?_
        refine x_A k120_108 (fun _ => rfl) ?_
        refine x_callS k120_110 (y := 219) (n := 1) (w0 := 1) (w1 := 2) (as := [vj x4]) (rest := [vi z520]) (by decide +kernel) rfl rfl rfl rfl (xe_mono (C_J13_bitCount_95d88 s hG x4 b_x4) ?_)
        rintro s523 v ⟨-, t_s523, z522, rfl, g_z522⟩
        rw [t_s523.nil]
        show xe none 120 113 [(9, vi z520), (0, .ref 0), (1, vi x1), (2, vi x2), (3, vi x3), (4, vj x4), (6, vi x6), (7, vi x7), (8, vi x8)] [vi z522, vi z520] s 0 0 _
        refine x_A k120_113 (fun _ => rfl) ?_
        refine x_isub k120_115 ?_
        refine x_top (fun z524 e_z524 => ?_)
        refine x_callS k120_116 (y := 220) (n := 2) (w0 := 0) (w1 := 2) (as := [vi z520, vi z524]) (rest := []) (by decide +kernel) rfl rfl rfl rfl (xe_mono (C_J9_max_7cf53 s hG z520 (by first | exact x_rbe e_z520 g_z520 rfl rfl | exact x_rb g_z520 rfl rfl | exact ⟨by omega, by omega⟩) z524 (by first | exact x_rbe e_z524 g_z524 rfl rfl | exact x_rb g_z524 rfl rfl | exact ⟨by omega, by omega⟩)) ?_)
        rintro s526 v ⟨h_s526, z525, rfl, g_z525⟩
        rw [h_s526]
        show xe none 120 119 [(9, vi z520), (0, .ref 0), (1, vi x1), (2, vi x2), (3, vi x3), (4, vj x4), (6, vi x6), (7, vi x7), (8, vi x8)] [vi z525] s 0 0 _
        refine x_istore k120_119 (ls' := [(10, vi z525), (9, vi z520), (0, .ref 0), (1, vi x1), (2, vi x2), (3, vi x3), (4, vj x4), (6, vi x6), (7, vi x7), (8, vi x8)]) (by decide) rfl ?_
        refine x_A k120_121 (fun _ => rfl) ?_
        refine x_A k120_123 (fun _ => rfl) ?_
        refine x_ic_eq k120_124 (t := 134) rfl (by first | exact x_rb b_x6 rfl rfl | exact ⟨by omega, by omega⟩) ⟨by decide, by decide⟩ (fun c527 => ?_) (fun c527 => ?_)
        · skip
          refine x_A k120_134 (fun _ => rfl) ?_
          refine x_istore k120_136 (ls' := [(6, vi x8), (10, vi z525), (9, vi z520), (0, .ref 0), (1, vi x1), (2, vi x2), (3, vi x3), (4, vj x4), (7, vi x7), (8, vi x8)]) (by decide) rfl ?_
          refine x_A k120_138 (fun _ => rfl) ?_
          refine x_istore k120_140 (ls' := [(7, vi z525), (6, vi x8), (10, vi z525), (9, vi z520), (0, .ref 0), (1, vi x1), (2, vi x2), (3, vi x3), (4, vj x4), (8, vi x8)]) (by decide) rfl ?_
          refine x_iinc k120_142 (ls' := [(8, vi (x8 + 1)), (7, vi z525), (6, vi x8), (10, vi z525), (9, vi z520), (0, .ref 0), (1, vi x1), (2, vi x2), (3, vi x3), (4, vj x4)]) rfl (by decide) rfl ?_
          refine x_goto k120_145 (t := 63) rfl ?_
          refine x_ls (l := [(0, .ref 0), (1, vi x1), (2, vi x2), (3, vi x3), (4, vj x4), (6, vi x8), (7, vi z525), (8, vi (x8 + 1))]) (show ([0, 1, 2, 3, 4, 6, 7, 8] : List Nat).Nodup from by decide +kernel) ⟨rfl, rfl, rfl, rfl, rfl, rfl, rfl, rfl, trivial⟩ ?_
          exact ih s x1 x2 x3 x4 x8 z525 (x8 + 1) hG f (by first | exact x_rb b_x1 rfl rfl | exact ⟨by omega, by omega⟩) (by first | exact x_rb b_x2 rfl rfl | exact ⟨by omega, by omega⟩) (by first | exact x_rb b_x3 rfl rfl | exact ⟨by omega, by omega⟩) b_x4 (by first | exact x_rb b_x8 rfl rfl | exact ⟨by omega, by omega⟩) (by first | exact x_rbe e_z525 g_z525 rfl rfl | exact x_rb g_z525 rfl rfl | exact ⟨by omega, by omega⟩) ⟨by omega, by omega⟩ (by omega)  (by omega)
        · skip
          refine x_A k120_127 (fun _ => rfl) ?_
          refine x_A k120_129 (fun _ => rfl) ?_
          refine x_ic_ge k120_131 (t := 142) rfl (by first | exact x_rbe e_z525 g_z525 rfl rfl | exact x_rb g_z525 rfl rfl | exact ⟨by omega, by omega⟩) (by first | exact x_rb b_x7 rfl rfl | exact ⟨by omega, by omega⟩) (fun c528 => ?_) (fun c528 => ?_)
          · skip
            refine x_iinc k120_142 (ls' := [(8, vi (x8 + 1)), (10, vi z525), (9, vi z520), (0, .ref 0), (1, vi x1), (2, vi x2), (3, vi x3), (4, vj x4), (6, vi x6), (7, vi x7)]) rfl (by decide) rfl ?_
            refine x_goto k120_145 (t := 63) rfl ?_
            refine x_ls (l := [(0, .ref 0), (1, vi x1), (2, vi x2), (3, vi x3), (4, vj x4), (6, vi x6), (7, vi x7), (8, vi (x8 + 1))]) (show ([0, 1, 2, 3, 4, 6, 7, 8] : List Nat).Nodup from by decide +kernel) ⟨rfl, rfl, rfl, rfl, rfl, rfl, rfl, rfl, trivial⟩ ?_
            exact ih s x1 x2 x3 x4 x6 x7 (x8 + 1) hG f (by first | exact x_rb b_x1 rfl rfl | exact ⟨by omega, by omega⟩) (by first | exact x_rb b_x2 rfl rfl | exact ⟨by omega, by omega⟩) (by first | exact x_rb b_x3 rfl rfl | exact ⟨by omega, by omega⟩) b_x4 (by first | exact x_rb b_x6 rfl rfl | exact ⟨by omega, by omega⟩) (by first | exact x_rb b_x7 rfl rfl | exact ⟨by omega, by omega⟩) ⟨by omega, by omega⟩ (by omega)  (by omega)
          · skip
            refine x_A k120_134 (fun _ => rfl) ?_
            refine x_istore k120_136 (ls' := [(6, vi x8), (10, vi z525), (9, vi z520), (0, .ref 0), (1, vi x1), (2, vi x2), (3, vi x3), (4, vj x4), (7, vi x7), (8, vi x8)]) (by decide) rfl ?_
            refine x_A k120_138 (fun _ => rfl) ?_
            refine x_istore k120_140 (ls' := [(7, vi z525), (6, vi x8), (10, vi z525), (9, vi z520), (0, .ref 0), (1, vi x1), (2, vi x2), (3, vi x3), (4, vj x4), (8, vi x8)]) (by decide) rfl ?_
            refine x_iinc k120_142 (ls' := [(8, vi (x8 + 1)), (7, vi z525), (6, vi x8), (10, vi z525), (9, vi z520), (0, .ref 0), (1, vi x1), (2, vi x2), (3, vi x3), (4, vj x4)]) rfl (by decide) rfl ?_
            refine x_goto k120_145 (t := 63) rfl ?_
            refine x_ls (l := [(0, .ref 0), (1, vi x1), (2, vi x2), (3, vi x3), (4, vj x4), (6, vi x8), (7, vi z525), (8, vi (x8 + 1))]) (show ([0, 1, 2, 3, 4, 6, 7, 8] : List Nat).Nodup from by decide +kernel) ⟨rfl, rfl, rfl, rfl, rfl, rfl, rfl, rfl, trivial⟩ ?_
            exact ih s x1 x2 x3 x4 x8 z525 (x8 + 1) hG f (by first | exact x_rb b_x1 rfl rfl | exact ⟨by omega, by omega⟩) (by first | exact x_rb b_x2 rfl rfl | exact ⟨by omega, by omega⟩) (by first | exact x_rb b_x3 rfl rfl | exact ⟨by omega, by omega⟩) b_x4 (by first | exact x_rb b_x8 rfl rfl | exact ⟨by omega, by omega⟩) (by first | exact x_rbe e_z525 g_z525 rfl rfl | exact x_rb g_z525 rfl rfl | exact ⟨by omega, by omega⟩) ⟨by omega, by omega⟩ (by omega)  (by omega)
      · skip
        refine x_goto k120_86 (t := 142) rfl ?_
        refine x_iinc k120_142 (ls' := [(8, vi (x8 + 1)), (0, .ref 0), (1, vi x1), (2, vi x2), (3, vi x3), (4, vj x4), (6, vi x6), (7, vi x7)]) rfl (by decide) rfl ?_
        refine x_goto k120_145 (t := 63) rfl ?_
        refine x_ls (l := [(0, .ref 0), (1, vi x1), (2, vi x2), (3, vi x3), (4, vj x4), (6, vi x6), (7, vi x7), (8, vi (x8 + 1))]) (show ([0, 1, 2, 3, 4, 6, 7, 8] : List Nat).Nodup from by decide +kernel) ⟨rfl, rfl, rfl, rfl, rfl, rfl, rfl, rfl, trivial⟩ ?_
        exact ih s x1 x2 x3 x4 x6 x7 (x8 + 1) hG f (by first | exact x_rb b_x1 rfl rfl | exact ⟨by omega, by omega⟩) (by first | exact x_rb b_x2 rfl rfl | exact ⟨by omega, by omega⟩) (by first | exact x_rb b_x3 rfl rfl | exact ⟨by omega, by omega⟩) b_x4 (by first | exact x_rb b_x6 rfl rfl | exact ⟨by omega, by omega⟩) (by first | exact x_rb b_x7 rfl rfl | exact ⟨by omega, by omega⟩) ⟨by omega, by omega⟩ (by omega)  (by omega)
theorem C_X10_split_0 (s0 : xS) (hG0 : GI s0) (hJ0 : J s0) (a : Int) (b_a : (-2147483648) ≤ a ∧ a ≤ 2147483647) (b : Int) (b_b : (-2147483648) ≤ b ∧ b ≤ 2147483647) (d : Int) (b_d : (-2147483648) ≤ d ∧ d ≤ 2147483647) : xe none 120 0 (lv_args 0 [.ref 0, vi a, vi b, vi d]) [] s0 0 0 (fun s' v => GI s' ∧ FL [3329, 3334, 3335, 3336, 3392, 3456, 3520, 3584, 3276, 3648, 3712, 3776, 3840, 3904, 3968, 3277, 4032] s0 s' ∧ ∃ z, v = some (vi z) ∧ ((-1004) ≤ z ∧ z ≤ 127)) := by
  have f0 : FL [3329, 3334, 3335, 3336, 3392, 3456, 3520, 3584, 3276, 3648, 3712, 3776, 3840, 3904, 3968, 3277, 4032] s0 s0 := FL.rf
  show xe none 120 0 [(0, .ref 0), (1, vi a), (2, vi b), (3, vi d)] [] s0 0 0 _
  refine x_A k120_0 (fun _ => rfl) ?_
  refine x_getR k120_1 (f := 0) rfl (q := 0) (n := 12) (kd := 3) ⟨by decide, rfl⟩ (q2 := 1) (by decide) rfl ?_
  refine x_A k120_4 (fun _ => rfl) ?_
  obtain ⟨z529, e_z529⟩ : ∃ z, z = s0 1 4 := ⟨_, rfl⟩
  have g_z529 : (1 : Int) ≤ s0 1 4 ∧ s0 1 4 ≤ 40 := hG0 1 4
  refine x_callV k120_5 (y := 59) (n := 1) (w0 := 0) (w1 := 1) (as := [vi a]) (rest := []) (by decide +kernel) (q := 1) (nq := 5) (kq := 4) ⟨by decide, rfl⟩ rfl rfl rfl rfl (xe_mono (C_X7_has_1 s0 hG0 a (by first | exact x_rb b_a rfl rfl | exact ⟨by omega, by omega⟩)) ?_)
  rintro s531 v ⟨h_s531, z530, rfl, hz_z530⟩
  rw [h_s531]
  rcases hz_z530 with ⟨c_z530, e_z530⟩ | ⟨c_z530, e_z530⟩
  · rw [e_z530]
    show xe none 120 8 [(0, .ref 0), (1, vi a), (2, vi b), (3, vi d)] [vi 1] s0 0 0 _
    refine x_if_ne k120_8 (t := 15) rfl ⟨by decide, by decide⟩ (fun c532 => ?_) (fun c532 => by exfalso; omega)
    refine x_A k120_15 (fun _ => rfl) ?_
    refine x_A k120_16 (fun _ => rfl) ?_
    obtain ⟨z533, e_z533⟩ : ∃ z, z = s0 0 10 := ⟨_, rfl⟩
    have g_z533 : (0 : Int) ≤ s0 0 10 ∧ s0 0 10 ≤ 9 := hG0 0 10
    refine x_callV k120_17 (y := 125) (n := 1) (w0 := 0) (w1 := 1) (as := [vi b]) (rest := []) (by decide +kernel) (q := 0) (nq := 12) (kq := 3) ⟨by decide, rfl⟩ rfl rfl rfl rfl (xe_mono (C_X10_isKnownEdition_0 s0 hG0 b (by first | exact x_rb b_b rfl rfl | exact ⟨by omega, by omega⟩)) ?_)
    rintro s535 v ⟨h_s535, z534, rfl, hz_z534⟩
    rw [h_s535]
    rcases hz_z534 with ⟨c_z534, e_z534⟩ | ⟨c_z534, e_z534⟩
    · rw [e_z534]
      show xe none 120 20 [(0, .ref 0), (1, vi a), (2, vi b), (3, vi d)] [vi 1] s0 0 0 _
      refine x_if_eq k120_20 (t := 32) rfl ⟨by decide, by decide⟩ (fun c536 => by exfalso; omega) (fun c536 => ?_)
      refine x_A k120_23 (fun _ => rfl) ?_
      refine x_A k120_24 (fun _ => rfl) ?_
      refine x_A k120_25 (fun _ => rfl) ?_
      refine x_callS k120_26 (y := 121) (n := 3) (w0 := 0) (w1 := 3) (as := [vi d, vi 0, vi 1]) (rest := []) (by decide +kernel) rfl rfl rfl rfl (xe_mono (C_X10_isWithin s0 hG0 d (by first | exact x_rb b_d rfl rfl | exact ⟨by omega, by omega⟩) 0 ⟨by decide, by decide⟩ 1 ⟨by decide, by decide⟩) ?_)
      rintro s538 v ⟨h_s538, z537, rfl, hz_z537⟩
      rw [h_s538]
      rcases hz_z537 with ⟨c_z537, e_z537⟩ | ⟨c_z537, e_z537⟩
      · rw [e_z537]
        show xe none 120 29 [(0, .ref 0), (1, vi a), (2, vi b), (3, vi d)] [vi 1] s0 0 0 _
        refine x_if_ne k120_29 (t := 36) rfl ⟨by decide, by decide⟩ (fun c539 => ?_) (fun c539 => by exfalso; omega)
        refine x_A k120_36 (fun _ => rfl) ?_
        refine x_getR k120_37 (f := 9) rfl (q := 0) (n := 12) (kd := 3) ⟨by decide, rfl⟩ (q2 := 243) (by decide) rfl ?_
        refine x_A k120_40 (fun _ => rfl) ?_
        refine x_callV k120_41 (y := 76) (n := 1) (w0 := 0) (w1 := 1) (as := [vi b]) (rest := []) (by decide +kernel) (q := 243) (nq := 13) (kq := 13) ⟨by decide, rfl⟩ rfl rfl rfl rfl (xe_mono (C_X8_lookIn_243 s0 hG0 (hJ0.fl f0 (by decide +kernel)) b (by first | exact x_rb b_b rfl rfl | exact ⟨by omega, by omega⟩)) ?_)
        rintro s541 v ⟨hG_s541, t_s541, rfl⟩
        have f_s541 : FL [3329, 3334, 3335, 3336, 3392, 3456, 3520, 3584, 3276, 3648, 3712, 3776, 3840, 3904, 3968, 3277, 4032] s0 s541 := f0.tr t_s541 (by decide +kernel)
        have q542 : s541 1 4 = z529 := (t_s541 1 4 (show 69 ∉ [3329, 3334, 3335, 3336, 3392, 3456, 3520, 3584, 3276, 3648, 3712, 3776, 3840, 3904, 3968, 3277, 4032] from by decide +kernel)).trans e_z529.symm
        have q543 : s541 0 10 = z533 := (t_s541 0 10 (show 11 ∉ [3329, 3334, 3335, 3336, 3392, 3456, 3520, 3584, 3276, 3648, 3712, 3776, 3840, 3904, 3968, 3277, 4032] from by decide +kernel)).trans e_z533.symm
        show xe none 120 44 [(0, .ref 0), (1, vi a), (2, vi b), (3, vi d)] [] s541 0 0 _
        refine x_A k120_44 (fun _ => rfl) ?_
        refine x_getR k120_45 (f := 9) rfl (q := 0) (n := 12) (kd := 3) ⟨by decide, rfl⟩ (q2 := 243) (by decide) rfl ?_
        refine x_A k120_48 (fun _ => rfl) ?_
        refine x_callV k120_49 (y := 79) (n := 1) (w0 := 0) (w1 := 1) (as := [vi a]) (rest := []) (by decide +kernel) (q := 243) (nq := 13) (kq := 13) ⟨by decide, rfl⟩ rfl rfl rfl rfl (xe_mono (C_X8_showing_243 s541 hG_s541 a (by first | exact x_rb b_a rfl rfl | exact ⟨by omega, by omega⟩)) ?_)
        rintro s545 v ⟨-, t_s545, z544, rfl, b_z544⟩
        rw [t_s545.nil]
        show xe none 120 52 [(0, .ref 0), (1, vi a), (2, vi b), (3, vi d)] [vj z544] s541 0 0 _
        refine x_lstore k120_52 (ls' := [(4, vj z544), (0, .ref 0), (1, vi a), (2, vi b), (3, vi d)]) (by decide) rfl ?_
        refine x_A k120_54 (fun _ => rfl) ?_
        refine x_istore k120_55 (ls' := [(6, vi (-1)), (4, vj z544), (0, .ref 0), (1, vi a), (2, vi b), (3, vi d)]) (by decide) rfl ?_
        refine x_A k120_57 (fun _ => rfl) ?_
        refine x_istore k120_58 (ls' := [(7, vi (-1)), (6, vi (-1)), (4, vj z544), (0, .ref 0), (1, vi a), (2, vi b), (3, vi d)]) (by decide) rfl ?_
        refine x_A k120_60 (fun _ => rfl) ?_
        refine x_istore k120_61 (ls' := [(8, vi 0), (7, vi (-1)), (6, vi (-1)), (4, vj z544), (0, .ref 0), (1, vi a), (2, vi b), (3, vi d)]) (by decide) rfl ?_
        refine x_ls (l := [(0, .ref 0), (1, vi a), (2, vi b), (3, vi d), (4, vj z544), (6, vi (-1)), (7, vi (-1)), (8, vi 0)]) (show ([0, 1, 2, 3, 4, 6, 7, 8] : List Nat).Nodup from by decide +kernel) ⟨rfl, rfl, rfl, rfl, rfl, rfl, rfl, rfl, trivial⟩ ?_
        exact L_C_X10_split_0_63 s0 hJ0  (((40 - 0) + 1 : Int)).toNat s541 a b d z544 (-1) (-1) 0 hG_s541 f_s541 (by first | exact x_rb b_a rfl rfl | exact ⟨by omega, by omega⟩) (by first | exact x_rb b_b rfl rfl | exact ⟨by omega, by omega⟩) (by first | exact x_rb b_d rfl rfl | exact ⟨by omega, by omega⟩) b_z544 ⟨by decide, by decide⟩ ⟨by decide, by decide⟩ ⟨by decide, by decide⟩ (by omega)  (by omega)
      · rw [e_z537]
        show xe none 120 29 [(0, .ref 0), (1, vi a), (2, vi b), (3, vi d)] [vi 0] s0 0 0 _
        refine x_if_ne k120_29 (t := 36) rfl ⟨by decide, by decide⟩ (fun c546 => by exfalso; omega) (fun c546 => ?_)
        refine x_sipush k120_32 (by decide +kernel) ?_
        exact x_iret k120_35 rfl ⟨hG0, f0, (-1002), rfl, ⟨by decide, by decide⟩⟩
    · rw [e_z534]
      show xe none 120 20 [(0, .ref 0), (1, vi a), (2, vi b), (3, vi d)] [vi 0] s0 0 0 _
      refine x_if_eq k120_20 (t := 32) rfl ⟨by decide, by decide⟩ (fun c547 => ?_) (fun c547 => by exfalso; omega)
      refine x_sipush k120_32 (by decide +kernel) ?_
      exact x_iret k120_35 rfl ⟨hG0, f0, (-1002), rfl, ⟨by decide, by decide⟩⟩
  · rw [e_z530]
    show xe none 120 8 [(0, .ref 0), (1, vi a), (2, vi b), (3, vi d)] [vi 0] s0 0 0 _
    refine x_if_ne k120_8 (t := 15) rfl ⟨by decide, by decide⟩ (fun c548 => by exfalso; omega) (fun c548 => ?_)
    refine x_sipush k120_11 (by decide +kernel) ?_
    exact x_iret k120_14 rfl ⟨hG0, f0, (-1001), rfl, ⟨by decide, by decide⟩⟩
