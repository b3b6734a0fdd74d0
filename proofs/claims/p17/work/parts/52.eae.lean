set_option maxHeartbeats 8000000 in
theorem L_E_X6_isWord_177_2016_28 (s0 : xS)   : ∀ (n : Nat) (s : xS) (x2 : Int) (hG : GI s) (f : FL [] s0 s) (b_x2 : 0 ≤ x2 ∧ x2 ≤ 5) (w_0 : kd (s0 178) (s0 177 1) (s0 177 3) = 1) (w_1 : te (s0 178) (s0 177 1) (s0 177 3) - s0 177 3 = 4) (w_2 : ∀ i : Nat, (i : Int) < x2 → s0 178 (s0 177 3 + (i : Int)).toNat = ([104, 116, 105, 119] : List Int).getD (4 - 1 - i) 0) (w_3 : 0 ≤ s0 177 3 ∧ s0 177 3 + 4 ≤ s0 177 1)  (hm : (5 - x2) < (n : Int)), xe none 53 28 [(0, .ref 177), (1, .ref 2016), (2, vi x2)] [] s 0 0 (fun s' v => GI s' ∧ FL [] s0 s' ∧ ∃ z, v = some (vi z) ∧ (0 ≤ z ∧ z ≤ 1) ∧ ((z = 1 ∧ wv (s0 178) (s0 177 1) (s0 177 3) = 459818) ∨ (z = 0 ∧ wv (s0 178) (s0 177 1) (s0 177 3) ≠ 459818))) := by
  intro n
  induction n with
  | zero => intro s x2 hG f b_x2 w_0 w_1 w_2 w_3  hm; exfalso; omega
  | succ n ih =>
    intro s x2 hG f b_x2 w_0 w_1 w_2 w_3  hm
    refine x_A k53_28 (fun _ => rfl) ?_
    refine x_A k53_29 (fun _ => rfl) ?_
    refine x_callX k53_30 (y := 222) (as := [.ref 2016]) (rest := [vi x2]) (fun _ => rfl) rfl rfl tx_len_15 ?_
    refine x_ic_ge k53_33 (t := 62) rfl (by first | exact x_rb b_x2 rfl rfl | exact ⟨by omega, by omega⟩) ⟨by decide, by decide⟩ (fun c73 => ?_) (fun c73 => ?_)
    · skip
      refine x_A k53_62 (fun _ => rfl) ?_
      exact x_zret k53_63 rfl ⟨by omega, by omega⟩ ⟨hG, f, 1, rfl, ⟨by decide, by decide⟩, Or.inl ⟨rfl, wv_yes wl_15 w_0 w_1 (fun i hi => w_2 i (by have hi : i < 4 := hi; omega))⟩⟩
    · skip
      refine x_A k53_36 (fun _ => rfl) ?_
      refine x_A k53_37 (fun _ => rfl) ?_
      refine x_getI k53_38 (f := 3) rfl (q := 177) (n := 7) (kd := 7) ⟨by decide, rfl⟩ (by decide) rfl ?_
      refine x_top (fun z74 e_z74 => ?_)
      have g_z74 : (0 : Int) ≤ s 177 3 ∧ s 177 3 ≤ 160 := hG 177 3
      refine x_A k53_41 (fun _ => rfl) ?_
      refine x_iadd k53_42 ?_
      refine x_top (fun z75 e_z75 => ?_)
      have f1 : s 177 1 = s0 177 1 := by rw [f.nil]
      have f3 : s 177 3 = s0 177 3 := by rw [f.nil]
      refine x_callV k53_43 (y := 49) (n := 1) (w0 := 0) (w1 := 1) (as := [vi z75]) (rest := []) (by decide +kernel) (q := 177) (nq := 7) (kq := 7) ⟨by decide, rfl⟩ rfl rfl rfl rfl (xe_mono (E_X6_byteAt_177 s hG z75 (by first | exact x_rbe e_z75 g_z75 rfl rfl | exact x_rb g_z75 rfl rfl | exact ⟨by omega, by omega⟩)) ?_)
      rintro s77 v ⟨h_s77, z76, rfl, g_z76⟩
      rw [h_s77]
      show xe none 53 46 [(0, .ref 177), (1, .ref 2016), (2, vi x2)] [vi z76] s 0 0 _
      refine x_A k53_46 (fun _ => rfl) ?_
      refine x_A k53_47 (fun _ => rfl) ?_
      obtain ⟨z78, g_z78, x_z78⟩ := tx_chE_15 x2 ⟨by omega, by omega⟩
      refine x_callX k53_48 (y := 223) (as := [.ref 2016, vi x2]) (rest := [vi z76]) (fun _ => rfl) rfl rfl x_z78 ?_
      have hb_ : z76 = s0 178 (s0 177 3 + x2).toNat := by rw [← f.nil, show s 177 3 + x2 = z75 by omega]; omega
      refine x_ic_eq k53_51 (t := 56) rfl (by first | exact x_rbe e_z76 g_z76 rfl rfl | exact x_rb g_z76 rfl rfl | exact ⟨by omega, by omega⟩) (by first | exact x_rbe e_z78 g_z78 rfl rfl | exact x_rb g_z78 rfl rfl | exact ⟨by omega, by omega⟩) (fun c79 => ?_) (fun c79 => ?_)
      · skip
        refine x_iinc k53_56 (ls' := [(2, vi (x2 + 1)), (0, .ref 177), (1, .ref 2016)]) rfl (by decide) rfl ?_
        refine x_goto k53_59 (t := 28) rfl ?_
        refine x_ls (l := [(0, .ref 177), (1, .ref 2016), (2, vi (x2 + 1))]) (show ([0, 1, 2] : List Nat).Nodup from by decide +kernel) ⟨rfl, rfl, rfl, trivial⟩ ?_
        exact ih s (x2 + 1) hG f ⟨by omega, by omega⟩ w_0 w_1 (fun i hi => (Decidable.em ((i : Int) = x2)).elim (fun e => by rw [e, show i = x2.toNat by omega]; omega) (fun e => w_2 i (by omega))) (by omega)  (by omega)
      · skip
        have nch : s0 178 (s0 177 3 + x2).toNat ≠ ([104, 116, 105, 119] : List Int).getD (4 - 1 - x2.toNat) 0 := by omega
        refine x_A k53_54 (fun _ => rfl) ?_
        exact x_zret k53_55 rfl ⟨by omega, by omega⟩ ⟨hG, f, 0, rfl, ⟨by decide, by decide⟩, Or.inr ⟨rfl, wv_nc wl_15 x2.toNat (show x2.toNat < 4 by omega) (by rw [show s0 177 3 + ((x2.toNat : Nat) : Int) = s0 177 3 + x2 by omega]; exact nch)⟩⟩
set_option maxHeartbeats 8000000 in
theorem E_X6_isWord_177_2016 (s0 : xS) (hG0 : GI s0) (i0_TK : TKs s0) : xe none 53 0 (lv_args 0 [.ref 177, .ref 2016]) [] s0 0 0 (fun s' v => GI s' ∧ FL [] s0 s' ∧ ∃ z, v = some (vi z) ∧ (0 ≤ z ∧ z ≤ 1) ∧ ((z = 1 ∧ wv (s0 178) (s0 177 1) (s0 177 3) = 459818) ∨ (z = 0 ∧ wv (s0 178) (s0 177 1) (s0 177 3) ≠ 459818))) := by
  have f0 : FL [] s0 s0 := FL.rf
  show xe none 53 0 [(0, .ref 177), (1, .ref 2016)] [] s0 0 0 _
  have tk := i0_TK
  unfold TKs TK at tk
  have tl := te_le (T := s0 178) (n := s0 177 1) (p := s0 177 3)
  refine x_A k53_0 (fun _ => rfl) ?_
  refine x_getI k53_1 (f := 2) rfl (q := 177) (n := 7) (kd := 7) ⟨by decide, rfl⟩ (by decide) rfl ?_
  refine x_top (fun z80 e_z80 => ?_)
  have g_z80 : (0 : Int) ≤ s0 177 2 ∧ s0 177 2 ≤ 3 := hG0 177 2
  refine x_A k53_4 (fun _ => rfl) ?_
  refine x_ic_ne k53_5 (t := 24) rfl (by first | exact x_rbe e_z80 g_z80 rfl rfl | exact x_rb g_z80 rfl rfl | exact ⟨by omega, by omega⟩) ⟨by decide, by decide⟩ (fun c81 => ?_) (fun c81 => ?_)
  · skip
    refine x_A k53_24 (fun _ => rfl) ?_
    exact x_zret k53_25 rfl ⟨by omega, by omega⟩ ⟨hG0, f0, 0, rfl, ⟨by decide, by decide⟩, Or.inr ⟨rfl, by rw [wv_0 (by omega)]; decide⟩⟩
  · skip
    refine x_A k53_8 (fun _ => rfl) ?_
    refine x_getI k53_9 (f := 4) rfl (q := 177) (n := 7) (kd := 7) ⟨by decide, rfl⟩ (by decide) rfl ?_
    refine x_top (fun z82 e_z82 => ?_)
    have g_z82 : (0 : Int) ≤ s0 177 4 ∧ s0 177 4 ≤ 160 := hG0 177 4
    refine x_A k53_12 (fun _ => rfl) ?_
    refine x_getI k53_13 (f := 3) rfl (q := 177) (n := 7) (kd := 7) ⟨by decide, rfl⟩ (by decide) rfl ?_
    refine x_top (fun z83 e_z83 => ?_)
    have g_z83 : (0 : Int) ≤ s0 177 3 ∧ s0 177 3 ≤ 160 := hG0 177 3
    refine x_isub k53_16 ?_
    refine x_top (fun z84 e_z84 => ?_)
    refine x_A k53_17 (fun _ => rfl) ?_
    refine x_callX k53_18 (y := 222) (as := [.ref 2016]) (rest := [vi z84]) (fun _ => rfl) rfl rfl tx_len_15 ?_
    refine x_ic_eq k53_21 (t := 26) rfl (by first | exact x_rbe e_z84 g_z84 rfl rfl | exact x_rb g_z84 rfl rfl | exact ⟨by omega, by omega⟩) ⟨by decide, by decide⟩ (fun c85 => ?_) (fun c85 => ?_)
    · skip
      refine x_A k53_26 (fun _ => rfl) ?_
      refine x_istore_n k53_27 (ls' := [(2, vi 0), (0, .ref 177), (1, .ref 2016)]) (by decide) rfl ?_
      refine x_ls (l := [(0, .ref 177), (1, .ref 2016), (2, vi 0)]) (show ([0, 1, 2] : List Nat).Nodup from by decide +kernel) ⟨rfl, rfl, rfl, trivial⟩ ?_
      exact L_E_X6_isWord_177_2016_28 s0   (((5 - 0) + 1 : Int)).toNat s0 0 hG0 f0 ⟨by decide, by decide⟩ (by omega) (by omega) (fun i hi => by omega) (by omega)  (by omega)
    · skip
      refine x_A k53_24 (fun _ => rfl) ?_
      exact x_zret k53_25 rfl ⟨by omega, by omega⟩ ⟨hG0, f0, 0, rfl, ⟨by decide, by decide⟩, Or.inr ⟨rfl, wv_nl wl_15 (by omega) (show te (s0 178) (s0 177 1) (s0 177 3) - s0 177 3 ≠ (4 : Int) by omega)⟩⟩
set_option maxHeartbeats 8000000 in
theorem L_E_X6_isWord_177_2017_28 (s0 : xS)   : ∀ (n : Nat) (s : xS) (x2 : Int) (hG : GI s) (f : FL [] s0 s) (b_x2 : 0 ≤ x2 ∧ x2 ≤ 5) (w_0 : kd (s0 178) (s0 177 1) (s0 177 3) = 1) (w_1 : te (s0 178) (s0 177 1) (s0 177 3) - s0 177 3 = 5) (w_2 : ∀ i : Nat, (i : Int) < x2 → s0 178 (s0 177 3 + (i : Int)).toNat = ([115, 112, 101, 101, 107] : List Int).getD (5 - 1 - i) 0) (w_3 : 0 ≤ s0 177 3 ∧ s0 177 3 + 5 ≤ s0 177 1)  (hm : (5 - x2) < (n : Int)), xe none 53 28 [(0, .ref 177), (1, .ref 2017), (2, vi x2)] [] s 0 0 (fun s' v => GI s' ∧ FL [] s0 s' ∧ ∃ z, v = some (vi z) ∧ (0 ≤ z ∧ z ≤ 1) ∧ ((z = 1 ∧ wv (s0 178) (s0 177 1) (s0 177 3) = 5948362) ∨ (z = 0 ∧ wv (s0 178) (s0 177 1) (s0 177 3) ≠ 5948362))) := by
  intro n
  induction n with
  | zero => intro s x2 hG f b_x2 w_0 w_1 w_2 w_3  hm; exfalso; omega
  | succ n ih =>
    intro s x2 hG f b_x2 w_0 w_1 w_2 w_3  hm
    refine x_A k53_28 (fun _ => rfl) ?_
    refine x_A k53_29 (fun _ => rfl) ?_
    refine x_callX k53_30 (y := 222) (as := [.ref 2017]) (rest := [vi x2]) (fun _ => rfl) rfl rfl tx_len_16 ?_
    refine x_ic_ge k53_33 (t := 62) rfl (by first | exact x_rb b_x2 rfl rfl | exact ⟨by omega, by omega⟩) ⟨by decide, by decide⟩ (fun c73 => ?_) (fun c73 => ?_)
    · skip
      refine x_A k53_62 (fun _ => rfl) ?_
      exact x_zret k53_63 rfl ⟨by omega, by omega⟩ ⟨hG, f, 1, rfl, ⟨by decide, by decide⟩, Or.inl ⟨rfl, wv_yes wl_16 w_0 w_1 (fun i hi => w_2 i (by have hi : i < 5 := hi; omega))⟩⟩
    · skip
      refine x_A k53_36 (fun _ => rfl) ?_
      refine x_A k53_37 (fun _ => rfl) ?_
      refine x_getI k53_38 (f := 3) rfl (q := 177) (n := 7) (kd := 7) ⟨by decide, rfl⟩ (by decide) rfl ?_
      refine x_top (fun z74 e_z74 => ?_)
      have g_z74 : (0 : Int) ≤ s 177 3 ∧ s 177 3 ≤ 160 := hG 177 3
      refine x_A k53_41 (fun _ => rfl) ?_
      refine x_iadd k53_42 ?_
      refine x_top (fun z75 e_z75 => ?_)
      have f1 : s 177 1 = s0 177 1 := by rw [f.nil]
      have f3 : s 177 3 = s0 177 3 := by rw [f.nil]
      refine x_callV k53_43 (y := 49) (n := 1) (w0 := 0) (w1 := 1) (as := [vi z75]) (rest := []) (by decide +kernel) (q := 177) (nq := 7) (kq := 7) ⟨by decide, rfl⟩ rfl rfl rfl rfl (xe_mono (E_X6_byteAt_177 s hG z75 (by first | exact x_rbe e_z75 g_z75 rfl rfl | exact x_rb g_z75 rfl rfl | exact ⟨by omega, by omega⟩)) ?_)
      rintro s77 v ⟨h_s77, z76, rfl, g_z76⟩
      rw [h_s77]
      show xe none 53 46 [(0, .ref 177), (1, .ref 2017), (2, vi x2)] [vi z76] s 0 0 _
      refine x_A k53_46 (fun _ => rfl) ?_
      refine x_A k53_47 (fun _ => rfl) ?_
      obtain ⟨z78, g_z78, x_z78⟩ := tx_chE_16 x2 ⟨by omega, by omega⟩
      refine x_callX k53_48 (y := 223) (as := [.ref 2017, vi x2]) (rest := [vi z76]) (fun _ => rfl) rfl rfl x_z78 ?_
      have hb_ : z76 = s0 178 (s0 177 3 + x2).toNat := by rw [← f.nil, show s 177 3 + x2 = z75 by omega]; omega
      refine x_ic_eq k53_51 (t := 56) rfl (by first | exact x_rbe e_z76 g_z76 rfl rfl | exact x_rb g_z76 rfl rfl | exact ⟨by omega, by omega⟩) (by first | exact x_rbe e_z78 g_z78 rfl rfl | exact x_rb g_z78 rfl rfl | exact ⟨by omega, by omega⟩) (fun c79 => ?_) (fun c79 => ?_)
      · skip
        refine x_iinc k53_56 (ls' := [(2, vi (x2 + 1)), (0, .ref 177), (1, .ref 2017)]) rfl (by decide) rfl ?_
        refine x_goto k53_59 (t := 28) rfl ?_
        refine x_ls (l := [(0, .ref 177), (1, .ref 2017), (2, vi (x2 + 1))]) (show ([0, 1, 2] : List Nat).Nodup from by decide +kernel) ⟨rfl, rfl, rfl, trivial⟩ ?_
        exact ih s (x2 + 1) hG f ⟨by omega, by omega⟩ w_0 w_1 (fun i hi => (Decidable.em ((i : Int) = x2)).elim (fun e => by rw [e, show i = x2.toNat by omega]; omega) (fun e => w_2 i (by omega))) (by omega)  (by omega)
      · skip
        have nch : s0 178 (s0 177 3 + x2).toNat ≠ ([115, 112, 101, 101, 107] : List Int).getD (5 - 1 - x2.toNat) 0 := by omega
        refine x_A k53_54 (fun _ => rfl) ?_
        exact x_zret k53_55 rfl ⟨by omega, by omega⟩ ⟨hG, f, 0, rfl, ⟨by decide, by decide⟩, Or.inr ⟨rfl, wv_nc wl_16 x2.toNat (show x2.toNat < 5 by omega) (by rw [show s0 177 3 + ((x2.toNat : Nat) : Int) = s0 177 3 + x2 by omega]; exact nch)⟩⟩
set_option maxHeartbeats 8000000 in
theorem E_X6_isWord_177_2017 (s0 : xS) (hG0 : GI s0) (i0_TK : TKs s0) : xe none 53 0 (lv_args 0 [.ref 177, .ref 2017]) [] s0 0 0 (fun s' v => GI s' ∧ FL [] s0 s' ∧ ∃ z, v = some (vi z) ∧ (0 ≤ z ∧ z ≤ 1) ∧ ((z = 1 ∧ wv (s0 178) (s0 177 1) (s0 177 3) = 5948362) ∨ (z = 0 ∧ wv (s0 178) (s0 177 1) (s0 177 3) ≠ 5948362))) := by
  have f0 : FL [] s0 s0 := FL.rf
  show xe none 53 0 [(0, .ref 177), (1, .ref 2017)] [] s0 0 0 _
  have tk := i0_TK
  unfold TKs TK at tk
  have tl := te_le (T := s0 178) (n := s0 177 1) (p := s0 177 3)
  refine x_A k53_0 (fun _ => rfl) ?_
  refine x_getI k53_1 (f := 2) rfl (q := 177) (n := 7) (kd := 7) ⟨by decide, rfl⟩ (by decide) rfl ?_
  refine x_top (fun z80 e_z80 => ?_)
  have g_z80 : (0 : Int) ≤ s0 177 2 ∧ s0 177 2 ≤ 3 := hG0 177 2
  refine x_A k53_4 (fun _ => rfl) ?_
  refine x_ic_ne k53_5 (t := 24) rfl (by first | exact x_rbe e_z80 g_z80 rfl rfl | exact x_rb g_z80 rfl rfl | exact ⟨by omega, by omega⟩) ⟨by decide, by decide⟩ (fun c81 => ?_) (fun c81 => ?_)
  · skip
    refine x_A k53_24 (fun _ => rfl) ?_
    exact x_zret k53_25 rfl ⟨by omega, by omega⟩ ⟨hG0, f0, 0, rfl, ⟨by decide, by decide⟩, Or.inr ⟨rfl, by rw [wv_0 (by omega)]; decide⟩⟩
  · skip
    refine x_A k53_8 (fun _ => rfl) ?_
    refine x_getI k53_9 (f := 4) rfl (q := 177) (n := 7) (kd := 7) ⟨by decide, rfl⟩ (by decide) rfl ?_
    refine x_top (fun z82 e_z82 => ?_)
    have g_z82 : (0 : Int) ≤ s0 177 4 ∧ s0 177 4 ≤ 160 := hG0 177 4
    refine x_A k53_12 (fun _ => rfl) ?_
    refine x_getI k53_13 (f := 3) rfl (q := 177) (n := 7) (kd := 7) ⟨by decide, rfl⟩ (by decide) rfl ?_
    refine x_top (fun z83 e_z83 => ?_)
    have g_z83 : (0 : Int) ≤ s0 177 3 ∧ s0 177 3 ≤ 160 := hG0 177 3
    refine x_isub k53_16 ?_
    refine x_top (fun z84 e_z84 => ?_)
    refine x_A k53_17 (fun _ => rfl) ?_
    refine x_callX k53_18 (y := 222) (as := [.ref 2017]) (rest := [vi z84]) (fun _ => rfl) rfl rfl tx_len_16 ?_
    refine x_ic_eq k53_21 (t := 26) rfl (by first | exact x_rbe e_z84 g_z84 rfl rfl | exact x_rb g_z84 rfl rfl | exact ⟨by omega, by omega⟩) ⟨by decide, by decide⟩ (fun c85 => ?_) (fun c85 => ?_)
    · skip
      refine x_A k53_26 (fun _ => rfl) ?_
      refine x_istore_n k53_27 (ls' := [(2, vi 0), (0, .ref 177), (1, .ref 2017)]) (by decide) rfl ?_
      refine x_ls (l := [(0, .ref 177), (1, .ref 2017), (2, vi 0)]) (show ([0, 1, 2] : List Nat).Nodup from by decide +kernel) ⟨rfl, rfl, rfl, trivial⟩ ?_
      exact L_E_X6_isWord_177_2017_28 s0   (((5 - 0) + 1 : Int)).toNat s0 0 hG0 f0 ⟨by decide, by decide⟩ (by omega) (by omega) (fun i hi => by omega) (by omega)  (by omega)
    · skip
      refine x_A k53_24 (fun _ => rfl) ?_
      exact x_zret k53_25 rfl ⟨by omega, by omega⟩ ⟨hG0, f0, 0, rfl, ⟨by decide, by decide⟩, Or.inr ⟨rfl, wv_nl wl_16 (by omega) (show te (s0 178) (s0 177 1) (s0 177 3) - s0 177 3 ≠ (5 : Int) by omega)⟩⟩
set_option maxHeartbeats 8000000 in
theorem L_E_X6_isWord_177_2018_28 (s0 : xS)   : ∀ (n : Nat) (s : xS) (x2 : Int) (hG : GI s) (f : FL [] s0 s) (b_x2 : 0 ≤ x2 ∧ x2 ≤ 5) (w_0 : kd (s0 178) (s0 177 1) (s0 177 3) = 1) (w_1 : te (s0 178) (s0 177 1) (s0 177 3) - s0 177 3 = 5) (w_2 : ∀ i : Nat, (i : Int) < x2 → s0 178 (s0 177 3 + (i : Int)).toNat = ([115, 110, 114, 117, 116] : List Int).getD (5 - 1 - i) 0) (w_3 : 0 ≤ s0 177 3 ∧ s0 177 3 + 5 ≤ s0 177 1)  (hm : (5 - x2) < (n : Int)), xe none 53 28 [(0, .ref 177), (1, .ref 2018), (2, vi x2)] [] s 0 0 (fun s' v => GI s' ∧ FL [] s0 s' ∧ ∃ z, v = some (vi z) ∧ (0 ≤ z ∧ z ≤ 1) ∧ ((z = 1 ∧ wv (s0 178) (s0 177 1) (s0 177 3) = 11055682) ∨ (z = 0 ∧ wv (s0 178) (s0 177 1) (s0 177 3) ≠ 11055682))) := by
  intro n
  induction n with
  | zero => intro s x2 hG f b_x2 w_0 w_1 w_2 w_3  hm; exfalso; omega
  | succ n ih =>
    intro s x2 hG f b_x2 w_0 w_1 w_2 w_3  hm
    refine x_A k53_28 (fun _ => rfl) ?_
    refine x_A k53_29 (fun _ => rfl) ?_
    refine x_callX k53_30 (y := 222) (as := [.ref 2018]) (rest := [vi x2]) (fun _ => rfl) rfl rfl tx_len_17 ?_
    refine x_ic_ge k53_33 (t := 62) rfl (by first | exact x_rb b_x2 rfl rfl | exact ⟨by omega, by omega⟩) ⟨by decide, by decide⟩ (fun c73 => ?_) (fun c73 => ?_)
    · skip
      refine x_A k53_62 (fun _ => rfl) ?_
      exact x_zret k53_63 rfl ⟨by omega, by omega⟩ ⟨hG, f, 1, rfl, ⟨by decide, by decide⟩, Or.inl ⟨rfl, wv_yes wl_17 w_0 w_1 (fun i hi => w_2 i (by have hi : i < 5 := hi; omega))⟩⟩
    · skip
      refine x_A k53_36 (fun _ => rfl) ?_
      refine x_A k53_37 (fun _ => rfl) ?_
      refine x_getI k53_38 (f := 3) rfl (q := 177) (n := 7) (kd := 7) ⟨by decide, rfl⟩ (by decide) rfl ?_
      refine x_top (fun z74 e_z74 => ?_)
      have g_z74 : (0 : Int) ≤ s 177 3 ∧ s 177 3 ≤ 160 := hG 177 3
      refine x_A k53_41 (fun _ => rfl) ?_
      refine x_iadd k53_42 ?_
      refine x_top (fun z75 e_z75 => ?_)
      have f1 : s 177 1 = s0 177 1 := by rw [f.nil]
      have f3 : s 177 3 = s0 177 3 := by rw [f.nil]
      refine x_callV k53_43 (y := 49) (n := 1) (w0 := 0) (w1 := 1) (as := [vi z75]) (rest := []) (by decide +kernel) (q := 177) (nq := 7) (kq := 7) ⟨by decide, rfl⟩ rfl rfl rfl rfl (xe_mono (E_X6_byteAt_177 s hG z75 (by first | exact x_rbe e_z75 g_z75 rfl rfl | exact x_rb g_z75 rfl rfl | exact ⟨by omega, by omega⟩)) ?_)
      rintro s77 v ⟨h_s77, z76, rfl, g_z76⟩
      rw [h_s77]
      show xe none 53 46 [(0, .ref 177), (1, .ref 2018), (2, vi x2)] [vi z76] s 0 0 _
      refine x_A k53_46 (fun _ => rfl) ?_
      refine x_A k53_47 (fun _ => rfl) ?_
      obtain ⟨z78, g_z78, x_z78⟩ := tx_chE_17 x2 ⟨by omega, by omega⟩
      refine x_callX k53_48 (y := 223) (as := [.ref 2018, vi x2]) (rest := [vi z76]) (fun _ => rfl) rfl rfl x_z78 ?_
      have hb_ : z76 = s0 178 (s0 177 3 + x2).toNat := by rw [← f.nil, show s 177 3 + x2 = z75 by omega]; omega
      refine x_ic_eq k53_51 (t := 56) rfl (by first | exact x_rbe e_z76 g_z76 rfl rfl | exact x_rb g_z76 rfl rfl | exact ⟨by omega, by omega⟩) (by first | exact x_rbe e_z78 g_z78 rfl rfl | exact x_rb g_z78 rfl rfl | exact ⟨by omega, by omega⟩) (fun c79 => ?_) (fun c79 => ?_)
      · skip
        refine x_iinc k53_56 (ls' := [(2, vi (x2 + 1)), (0, .ref 177), (1, .ref 2018)]) rfl (by decide) rfl ?_
        refine x_goto k53_59 (t := 28) rfl ?_
        refine x_ls (l := [(0, .ref 177), (1, .ref 2018), (2, vi (x2 + 1))]) (show ([0, 1, 2] : List Nat).Nodup from by decide +kernel) ⟨rfl, rfl, rfl, trivial⟩ ?_
        exact ih s (x2 + 1) hG f ⟨by omega, by omega⟩ w_0 w_1 (fun i hi => (Decidable.em ((i : Int) = x2)).elim (fun e => by rw [e, show i = x2.toNat by omega]; omega) (fun e => w_2 i (by omega))) (by omega)  (by omega)
      · skip
        have nch : s0 178 (s0 177 3 + x2).toNat ≠ ([115, 110, 114, 117, 116] : List Int).getD (5 - 1 - x2.toNat) 0 := by omega
        refine x_A k53_54 (fun _ => rfl) ?_
        exact x_zret k53_55 rfl ⟨by omega, by omega⟩ ⟨hG, f, 0, rfl, ⟨by decide, by decide⟩, Or.inr ⟨rfl, wv_nc wl_17 x2.toNat (show x2.toNat < 5 by omega) (by rw [show s0 177 3 + ((x2.toNat : Nat) : Int) = s0 177 3 + x2 by omega]; exact nch)⟩⟩
set_option maxHeartbeats 8000000 in
theorem E_X6_isWord_177_2018 (s0 : xS) (hG0 : GI s0) (i0_TK : TKs s0) : xe none 53 0 (lv_args 0 [.ref 177, .ref 2018]) [] s0 0 0 (fun s' v => GI s' ∧ FL [] s0 s' ∧ ∃ z, v = some (vi z) ∧ (0 ≤ z ∧ z ≤ 1) ∧ ((z = 1 ∧ wv (s0 178) (s0 177 1) (s0 177 3) = 11055682) ∨ (z = 0 ∧ wv (s0 178) (s0 177 1) (s0 177 3) ≠ 11055682))) := by
  have f0 : FL [] s0 s0 := FL.rf
  show xe none 53 0 [(0, .ref 177), (1, .ref 2018)] [] s0 0 0 _
  have tk := i0_TK
  unfold TKs TK at tk
  have tl := te_le (T := s0 178) (n := s0 177 1) (p := s0 177 3)
  refine x_A k53_0 (fun _ => rfl) ?_
  refine x_getI k53_1 (f := 2) rfl (q := 177) (n := 7) (kd := 7) ⟨by decide, rfl⟩ (by decide) rfl ?_
  refine x_top (fun z80 e_z80 => ?_)
  have g_z80 : (0 : Int) ≤ s0 177 2 ∧ s0 177 2 ≤ 3 := hG0 177 2
  refine x_A k53_4 (fun _ => rfl) ?_
  refine x_ic_ne k53_5 (t := 24) rfl (by first | exact x_rbe e_z80 g_z80 rfl rfl | exact x_rb g_z80 rfl rfl | exact ⟨by omega, by omega⟩) ⟨by decide, by decide⟩ (fun c81 => ?_) (fun c81 => ?_)
  · skip
    refine x_A k53_24 (fun _ => rfl) ?_
    exact x_zret k53_25 rfl ⟨by omega, by omega⟩ ⟨hG0, f0, 0, rfl, ⟨by decide, by decide⟩, Or.inr ⟨rfl, by rw [wv_0 (by omega)]; decide⟩⟩
  · skip
    refine x_A k53_8 (fun _ => rfl) ?_
    refine x_getI k53_9 (f := 4) rfl (q := 177) (n := 7) (kd := 7) ⟨by decide, rfl⟩ (by decide) rfl ?_
    refine x_top (fun z82 e_z82 => ?_)
    have g_z82 : (0 : Int) ≤ s0 177 4 ∧ s0 177 4 ≤ 160 := hG0 177 4
    refine x_A k53_12 (fun _ => rfl) ?_
    refine x_getI k53_13 (f := 3) rfl (q := 177) (n := 7) (kd := 7) ⟨by decide, rfl⟩ (by decide) rfl ?_
    refine x_top (fun z83 e_z83 => ?_)
    have g_z83 : (0 : Int) ≤ s0 177 3 ∧ s0 177 3 ≤ 160 := hG0 177 3
    refine x_isub k53_16 ?_
    refine x_top (fun z84 e_z84 => ?_)
    refine x_A k53_17 (fun _ => rfl) ?_
    refine x_callX k53_18 (y := 222) (as := [.ref 2018]) (rest := [vi z84]) (fun _ => rfl) rfl rfl tx_len_17 ?_
    refine x_ic_eq k53_21 (t := 26) rfl (by first | exact x_rbe e_z84 g_z84 rfl rfl | exact x_rb g_z84 rfl rfl | exact ⟨by omega, by omega⟩) ⟨by decide, by decide⟩ (fun c85 => ?_) (fun c85 => ?_)
    · skip
      refine x_A k53_26 (fun _ => rfl) ?_
      refine x_istore_n k53_27 (ls' := [(2, vi 0), (0, .ref 177), (1, .ref 2018)]) (by decide) rfl ?_
      refine x_ls (l := [(0, .ref 177), (1, .ref 2018), (2, vi 0)]) (show ([0, 1, 2] : List Nat).Nodup from by decide +kernel) ⟨rfl, rfl, rfl, trivial⟩ ?_
      exact L_E_X6_isWord_177_2018_28 s0   (((5 - 0) + 1 : Int)).toNat s0 0 hG0 f0 ⟨by decide, by decide⟩ (by omega) (by omega) (fun i hi => by omega) (by omega)  (by omega)
    · skip
      refine x_A k53_24 (fun _ => rfl) ?_
      exact x_zret k53_25 rfl ⟨by omega, by omega⟩ ⟨hG0, f0, 0, rfl, ⟨by decide, by decide⟩, Or.inr ⟨rfl, wv_nl wl_17 (by omega) (show te (s0 178) (s0 177 1) (s0 177 3) - s0 177 3 ≠ (5 : Int) by omega)⟩⟩
set_option maxHeartbeats 8000000 in
theorem L_E_X6_isWord_177_2019_28 (s0 : xS)   : ∀ (n : Nat) (s : xS) (x2 : Int) (hG : GI s) (f : FL [] s0 s) (b_x2 : 0 ≤ x2 ∧ x2 ≤ 6) (w_0 : kd (s0 178) (s0 177 1) (s0 177 3) = 1) (w_1 : te (s0 178) (s0 177 1) (s0 177 3) - s0 177 3 = 6) (w_2 : ∀ i : Nat, (i : Int) < x2 → s0 178 (s0 177 3 + (i : Int)).toNat = ([115, 101, 115, 105, 97, 114] : List Int).getD (6 - 1 - i) 0) (w_3 : 0 ≤ s0 177 3 ∧ s0 177 3 + 6 ≤ s0 177 1)  (hm : (6 - x2) < (n : Int)), xe none 53 28 [(0, .ref 177), (1, .ref 2019), (2, vi x2)] [] s 0 0 (fun s' v => GI s' ∧ FL [] s0 s' ∧ ∃ z, v = some (vi z) ∧ (0 ≤ z ∧ z ≤ 1) ∧ ((z = 1 ∧ wv (s0 178) (s0 177 1) (s0 177 3) = 259002919) ∨ (z = 0 ∧ wv (s0 178) (s0 177 1) (s0 177 3) ≠ 259002919))) := by
  intro n
  induction n with
  | zero => intro s x2 hG f b_x2 w_0 w_1 w_2 w_3  hm; exfalso; omega
  | succ n ih =>
    intro s x2 hG f b_x2 w_0 w_1 w_2 w_3  hm
    refine x_A k53_28 (fun _ => rfl) ?_
    refine x_A k53_29 (fun _ => rfl) ?_
    refine x_callX k53_30 (y := 222) (as := [.ref 2019]) (rest := [vi x2]) (fun _ => rfl) rfl rfl tx_len_18 ?_
    refine x_ic_ge k53_33 (t := 62) rfl (by first | exact x_rb b_x2 rfl rfl | exact ⟨by omega, by omega⟩) ⟨by decide, by decide⟩ (fun c86 => ?_) (fun c86 => ?_)
    · skip
      refine x_A k53_62 (fun _ => rfl) ?_
      exact x_zret k53_63 rfl ⟨by omega, by omega⟩ ⟨hG, f, 1, rfl, ⟨by decide, by decide⟩, Or.inl ⟨rfl, wv_yes wl_18 w_0 w_1 (fun i hi => w_2 i (by have hi : i < 6 := hi; omega))⟩⟩
    · skip
      refine x_A k53_36 (fun _ => rfl) ?_
      refine x_A k53_37 (fun _ => rfl) ?_
      refine x_getI k53_38 (f := 3) rfl (q := 177) (n := 7) (kd := 7) ⟨by decide, rfl⟩ (by decide) rfl ?_
      refine x_top (fun z87 e_z87 => ?_)
      have g_z87 : (0 : Int) ≤ s 177 3 ∧ s 177 3 ≤ 160 := hG 177 3
      refine x_A k53_41 (fun _ => rfl) ?_
      refine x_iadd k53_42 ?_
      refine x_top (fun z88 e_z88 => ?_)
      have f1 : s 177 1 = s0 177 1 := by rw [f.nil]
      have f3 : s 177 3 = s0 177 3 := by rw [f.nil]
      refine x_callV k53_43 (y := 49) (n := 1) (w0 := 0) (w1 := 1) (as := [vi z88]) (rest := []) (by decide +kernel) (q := 177) (nq := 7) (kq := 7) ⟨by decide, rfl⟩ rfl rfl rfl rfl (xe_mono (E_X6_byteAt_177 s hG z88 (by first | exact x_rbe e_z88 g_z88 rfl rfl | exact x_rb g_z88 rfl rfl | exact ⟨by omega, by omega⟩)) ?_)
      rintro s90 v ⟨h_s90, z89, rfl, g_z89⟩
      rw [h_s90]
      show xe none 53 46 [(0, .ref 177), (1, .ref 2019), (2, vi x2)] [vi z89] s 0 0 _
      refine x_A k53_46 (fun _ => rfl) ?_
      refine x_A k53_47 (fun _ => rfl) ?_
      obtain ⟨z91, g_z91, x_z91⟩ := tx_chE_18 x2 ⟨by omega, by omega⟩
      refine x_callX k53_48 (y := 223) (as := [.ref 2019, vi x2]) (rest := [vi z89]) (fun _ => rfl) rfl rfl x_z91 ?_
      have hb_ : z89 = s0 178 (s0 177 3 + x2).toNat := by rw [← f.nil, show s 177 3 + x2 = z88 by omega]; omega
      refine x_ic_eq k53_51 (t := 56) rfl (by first | exact x_rbe e_z89 g_z89 rfl rfl | exact x_rb g_z89 rfl rfl | exact ⟨by omega, by omega⟩) (by first | exact x_rbe e_z91 g_z91 rfl rfl | exact x_rb g_z91 rfl rfl | exact ⟨by omega, by omega⟩) (fun c92 => ?_) (fun c92 => ?_)
      · skip
        refine x_iinc k53_56 (ls' := [(2, vi (x2 + 1)), (0, .ref 177), (1, .ref 2019)]) rfl (by decide) rfl ?_
        refine x_goto k53_59 (t := 28) rfl ?_
        refine x_ls (l := [(0, .ref 177), (1, .ref 2019), (2, vi (x2 + 1))]) (show ([0, 1, 2] : List Nat).Nodup from by decide +kernel) ⟨rfl, rfl, rfl, trivial⟩ ?_
        exact ih s (x2 + 1) hG f ⟨by omega, by omega⟩ w_0 w_1 (fun i hi => (Decidable.em ((i : Int) = x2)).elim (fun e => by rw [e, show i = x2.toNat by omega]; omega) (fun e => w_2 i (by omega))) (by omega)  (by omega)
      · skip
        have nch : s0 178 (s0 177 3 + x2).toNat ≠ ([115, 101, 115, 105, 97, 114] : List Int).getD (6 - 1 - x2.toNat) 0 := by omega
        refine x_A k53_54 (fun _ => rfl) ?_
        exact x_zret k53_55 rfl ⟨by omega, by omega⟩ ⟨hG, f, 0, rfl, ⟨by decide, by decide⟩, Or.inr ⟨rfl, wv_nc wl_18 x2.toNat (show x2.toNat < 6 by omega) (by rw [show s0 177 3 + ((x2.toNat : Nat) : Int) = s0 177 3 + x2 by omega]; exact nch)⟩⟩
set_option maxHeartbeats 8000000 in
theorem E_X6_isWord_177_2019 (s0 : xS) (hG0 : GI s0) (i0_TK : TKs s0) : xe none 53 0 (lv_args 0 [.ref 177, .ref 2019]) [] s0 0 0 (fun s' v => GI s' ∧ FL [] s0 s' ∧ ∃ z, v = some (vi z) ∧ (0 ≤ z ∧ z ≤ 1) ∧ ((z = 1 ∧ wv (s0 178) (s0 177 1) (s0 177 3) = 259002919) ∨ (z = 0 ∧ wv (s0 178) (s0 177 1) (s0 177 3) ≠ 259002919))) := by
  have f0 : FL [] s0 s0 := FL.rf
  show xe none 53 0 [(0, .ref 177), (1, .ref 2019)] [] s0 0 0 _
  have tk := i0_TK
  unfold TKs TK at tk
  have tl := te_le (T := s0 178) (n := s0 177 1) (p := s0 177 3)
  refine x_A k53_0 (fun _ => rfl) ?_
  refine x_getI k53_1 (f := 2) rfl (q := 177) (n := 7) (kd := 7) ⟨by decide, rfl⟩ (by decide) rfl ?_
  refine x_top (fun z93 e_z93 => ?_)
  have g_z93 : (0 : Int) ≤ s0 177 2 ∧ s0 177 2 ≤ 3 := hG0 177 2
  refine x_A k53_4 (fun _ => rfl) ?_
  refine x_ic_ne k53_5 (t := 24) rfl (by first | exact x_rbe e_z93 g_z93 rfl rfl | exact x_rb g_z93 rfl rfl | exact ⟨by omega, by omega⟩) ⟨by decide, by decide⟩ (fun c94 => ?_) (fun c94 => ?_)
  · skip
    refine x_A k53_24 (fun _ => rfl) ?_
    exact x_zret k53_25 rfl ⟨by omega, by omega⟩ ⟨hG0, f0, 0, rfl, ⟨by decide, by decide⟩, Or.inr ⟨rfl, by rw [wv_0 (by omega)]; decide⟩⟩
  · skip
    refine x_A k53_8 (fun _ => rfl) ?_
    refine x_getI k53_9 (f := 4) rfl (q := 177) (n := 7) (kd := 7) ⟨by decide, rfl⟩ (by decide) rfl ?_
    refine x_top (fun z95 e_z95 => ?_)
    have g_z95 : (0 : Int) ≤ s0 177 4 ∧ s0 177 4 ≤ 160 := hG0 177 4
    refine x_A k53_12 (fun _ => rfl) ?_
    refine x_getI k53_13 (f := 3) rfl (q := 177) (n := 7) (kd := 7) ⟨by decide, rfl⟩ (by decide) rfl ?_
    refine x_top (fun z96 e_z96 => ?_)
    have g_z96 : (0 : Int) ≤ s0 177 3 ∧ s0 177 3 ≤ 160 := hG0 177 3
    refine x_isub k53_16 ?_
    refine x_top (fun z97 e_z97 => ?_)
    refine x_A k53_17 (fun _ => rfl) ?_
    refine x_callX k53_18 (y := 222) (as := [.ref 2019]) (rest := [vi z97]) (fun _ => rfl) rfl rfl tx_len_18 ?_
    refine x_ic_eq k53_21 (t := 26) rfl (by first | exact x_rbe e_z97 g_z97 rfl rfl | exact x_rb g_z97 rfl rfl | exact ⟨by omega, by omega⟩) ⟨by decide, by decide⟩ (fun c98 => ?_) (fun c98 => ?_)
    · skip
      refine x_A k53_26 (fun _ => rfl) ?_
      refine x_istore_n k53_27 (ls' := [(2, vi 0), (0, .ref 177), (1, .ref 2019)]) (by decide) rfl ?_
      refine x_ls (l := [(0, .ref 177), (1, .ref 2019), (2, vi 0)]) (show ([0, 1, 2] : List Nat).Nodup from by decide +kernel) ⟨rfl, rfl, rfl, trivial⟩ ?_
      exact L_E_X6_isWord_177_2019_28 s0   (((6 - 0) + 1 : Int)).toNat s0 0 hG0 f0 ⟨by decide, by decide⟩ (by omega) (by omega) (fun i hi => by omega) (by omega)  (by omega)
    · skip
      refine x_A k53_24 (fun _ => rfl) ?_
      exact x_zret k53_25 rfl ⟨by omega, by omega⟩ ⟨hG0, f0, 0, rfl, ⟨by decide, by decide⟩, Or.inr ⟨rfl, wv_nl wl_18 (by omega) (show te (s0 178) (s0 177 1) (s0 177 3) - s0 177 3 ≠ (6 : Int) by omega)⟩⟩
set_option maxHeartbeats 8000000 in
theorem E_X6_isSign_177 (s0 : xS) (hG0 : GI s0) (a : Int) (b_a : 40 ≤ a ∧ a ≤ 59) (pa : a < 48 ∨ 57 < a) (i0_TK : TKs s0) : xe none 54 0 (lv_args 0 [.ref 177, vi a]) [] s0 0 0 (fun s' v => GI s' ∧ FL [] s0 s' ∧ ∃ z, v = some (vi z) ∧ (0 ≤ z ∧ z ≤ 1) ∧ ((z = 1 ∧ ch (s0 178) (s0 177 1) (s0 177 3) = a) ∨ (z = 0 ∧ ch (s0 178) (s0 177 1) (s0 177 3) ≠ a))) := by
  have f0 : FL [] s0 s0 := FL.rf
  show xe none 54 0 [(0, .ref 177), (1, vi a)] [] s0 0 0 _
  have tk := i0_TK
  unfold TKs TK at tk
  have tl := te_le (T := s0 178) (n := s0 177 1) (p := s0 177 3)
  have kc := kd_cs (T := s0 178) (n := s0 177 1) (p := s0 177 3)
  refine x_A k54_0 (fun _ => rfl) ?_
  refine x_getI k54_1 (f := 2) rfl (q := 177) (n := 7) (kd := 7) ⟨by decide, rfl⟩ (by decide) rfl ?_
  refine x_top (fun z1 e_z1 => ?_)
  have g_z1 : (0 : Int) ≤ s0 177 2 ∧ s0 177 2 ≤ 3 := hG0 177 2
  refine x_A k54_4 (fun _ => rfl) ?_
  refine x_ic_ne k54_5 (t := 24) rfl (by first | exact x_rbe e_z1 g_z1 rfl rfl | exact x_rb g_z1 rfl rfl | exact ⟨by omega, by omega⟩) ⟨by decide, by decide⟩ (fun c2 => ?_) (fun c2 => ?_)
  · skip
    refine x_A k54_24 (fun _ => rfl) ?_
    exact x_zret k54_25 rfl ⟨by omega, by omega⟩ ⟨hG0, f0, 0, rfl, ⟨by decide, by decide⟩, Or.inr ⟨rfl, fun w => by have kc := kd_cs (T := s0 178) (n := s0 177 1) (p := s0 177 3); unfold ch at w; split at w <;> omega⟩⟩
  · skip
    refine x_A k54_8 (fun _ => rfl) ?_
    refine x_A k54_9 (fun _ => rfl) ?_
    refine x_getI k54_10 (f := 3) rfl (q := 177) (n := 7) (kd := 7) ⟨by decide, rfl⟩ (by decide) rfl ?_
    refine x_top (fun z3 e_z3 => ?_)
    have g_z3 : (0 : Int) ≤ s0 177 3 ∧ s0 177 3 ≤ 160 := hG0 177 3
    refine x_callV k54_13 (y := 49) (n := 1) (w0 := 0) (w1 := 1) (as := [vi z3]) (rest := []) (by decide +kernel) (q := 177) (nq := 7) (kq := 7) ⟨by decide, rfl⟩ rfl rfl rfl rfl (xe_mono (E_X6_byteAt_177 s0 hG0 z3 (by first | exact x_rbe e_z3 g_z3 rfl rfl | exact x_rb g_z3 rfl rfl | exact ⟨by omega, by omega⟩)) ?_)
    rintro s5 v ⟨h_s5, z4, rfl, g_z4⟩
    rw [h_s5]
    show xe none 54 16 [(0, .ref 177), (1, vi a)] [vi z4] s0 0 0 _
    have hc : z4 = ch (s0 178) (s0 177 1) (s0 177 3) := by unfold ch; rw [if_pos (by omega), ← show z3 = s0 177 3 by omega]; omega
    refine x_A k54_16 (fun _ => rfl) ?_
    refine x_ic_ne k54_17 (t := 24) rfl (by first | exact x_rbe e_z4 g_z4 rfl rfl | exact x_rb g_z4 rfl rfl | exact ⟨by omega, by omega⟩) (by first | exact x_rb b_a rfl rfl | exact ⟨by omega, by omega⟩) (fun c6 => ?_) (fun c6 => ?_)
    · skip
      refine x_A k54_24 (fun _ => rfl) ?_
      exact x_zret k54_25 rfl ⟨by omega, by omega⟩ ⟨hG0, f0, 0, rfl, ⟨by decide, by decide⟩, Or.inr ⟨rfl, by omega⟩⟩
    · skip
      refine x_A k54_20 (fun _ => rfl) ?_
      refine x_goto k54_21 (t := 25) rfl ?_
      exact x_zret k54_25 rfl ⟨by omega, by omega⟩ ⟨hG0, f0, 1, rfl, ⟨by decide, by decide⟩, Or.inl ⟨rfl, by omega⟩⟩
set_option maxHeartbeats 8000000 in
theorem E_X6_takeWord_177_2015 (s0 : xS) (hG0 : GI s0) (i0_TK : TKs s0) : xe none 55 0 (lv_args 0 [.ref 177, .ref 2015]) [] s0 0 0 (fun s' v => GI s' ∧ FL [1219, 1220, 1221, 1222, 1223] s0 s' ∧ v = none ∧ (TwC s0 s' (wv (s0 178) (s0 177 1) (s0 177 3) = 11438892) ∧ (s' 177 5 = 0 → s0 177 5 = 0)) ∧ TKs s') := by
  have f0 : FL [1219, 1220, 1221, 1222, 1223] s0 s0 := FL.rf
  show xe none 55 0 [(0, .ref 177), (1, .ref 2015)] [] s0 0 0 _
  have tk := i0_TK
  unfold TKs TK at tk
  have tl := te_le (T := s0 178) (n := s0 177 1) (p := s0 177 3)
  obtain ⟨z1, e_z1⟩ : ∃ z, z = s0 177 3 := ⟨_, rfl⟩
  have g_z1 : (0 : Int) ≤ s0 177 3 ∧ s0 177 3 ≤ 160 := hG0 177 3
  obtain ⟨z2, e_z2⟩ : ∃ z, z = s0 177 5 := ⟨_, rfl⟩
  have g_z2 : (0 : Int) ≤ s0 177 5 ∧ s0 177 5 ≤ 5 := hG0 177 5
  obtain ⟨z3, e_z3⟩ : ∃ z, z = s0 177 6 := ⟨_, rfl⟩
  have g_z3 : (-2147483648) ≤ s0 177 6 ∧ s0 177 6 ≤ 2147483647 := hG0 177 6
  refine x_A k55_0 (fun _ => rfl) ?_
  refine x_A k55_1 (fun _ => rfl) ?_
  refine x_callV k55_2 (y := 53) (n := 1) (w0 := 0) (w1 := 1) (as := [.ref 2015]) (rest := []) (by decide +kernel) (q := 177) (nq := 7) (kq := 7) ⟨by decide, rfl⟩ rfl rfl rfl rfl (xe_mono (E_X6_isWord_177_2015 s0 hG0 i0_TK) ?_)
  rintro s5 v ⟨-, t_s5, z4, rfl, g_z4, xp_z4⟩
  rw [t_s5.nil]
  try rw [t_s5.nil] at xp_z4
  show xe none 55 5 [(0, .ref 177), (1, .ref 2015)] [vi z4] s0 0 0 _
  refine x_if_ne k55_5 (t := 17) rfl (by first | exact x_rbe e_z4 g_z4 rfl rfl | exact x_rb g_z4 rfl rfl | exact ⟨by omega, by omega⟩) (fun c6 => ?_) (fun c6 => ?_)
  · skip
    refine x_A k55_17 (fun _ => rfl) ?_
    refine x_getI k55_18 (f := 5) rfl (q := 177) (n := 7) (kd := 7) ⟨by decide, rfl⟩ (by decide) rfl ?_
    refine x_rw (e_z2.symm) ?_
    refine x_if_ne k55_21 (t := 28) rfl (by first | exact x_rbe e_z2 g_z2 rfl rfl | exact x_rb g_z2 rfl rfl | exact ⟨by omega, by omega⟩) (fun c7 => ?_) (fun c7 => ?_)
    · skip
      exact x_vret k55_28 rfl ⟨hG0, f0, rfl, ⟨(by unfold TwC nx; omega), by omega⟩, i0_TK⟩
    · skip
      refine x_A k55_24 (fun _ => rfl) ?_
      obtain ⟨z8, e_z8⟩ : ∃ z, z = s0 177 1 := ⟨_, rfl⟩
      have g_z8 : (0 : Int) ≤ s0 177 1 ∧ s0 177 1 ≤ 160 := hG0 177 1
      obtain ⟨z9, e_z9⟩ : ∃ z, z = s0 177 4 := ⟨_, rfl⟩
      have g_z9 : (0 : Int) ≤ s0 177 4 ∧ s0 177 4 ≤ 160 := hG0 177 4
      refine x_callV k55_25 (y := 51) (n := 0) (w0 := 0) (w1 := 0) (as := []) (rest := []) (by decide +kernel) (q := 177) (nq := 7) (kq := 7) ⟨by decide, rfl⟩ rfl rfl rfl rfl (xe_mono (E_X6_advance_177 s0 hG0 (by omega)) ?_)
      rintro s11 v ⟨hG_s11, t_s11, rfl, xp_z10⟩
      have f_s11 : FL [1219, 1220, 1221, 1222, 1223] s0 s11 := f0.tr t_s11 (by decide +kernel)
      have q12 : s11 177 5 = z2 := (t_s11 177 5 (show 1222 ∉ [1219, 1220, 1221] from by decide +kernel)).trans e_z2.symm
      have q13 : s11 177 6 = z3 := (t_s11 177 6 (show 1223 ∉ [1219, 1220, 1221] from by decide +kernel)).trans e_z3.symm
      have q14 : s11 177 1 = z8 := (t_s11 177 1 (show 1218 ∉ [1219, 1220, 1221] from by decide +kernel)).trans e_z8.symm
      show xe none 55 28 [(0, .ref 177), (1, .ref 2015)] [] s11 0 0 _
      have tq15 := xp_z10
      rw [show s0 177 4 = te (s0 178) (s0 177 1) (s0 177 3) by omega] at tq15
      have TK_s11 : TKs s11 := TK.s tq15 (show s11 178 = s0 178 from funext fun i => f_s11 178 i (show 1280 ∉ [1219, 1220, 1221, 1222, 1223] from by decide +kernel)) (by omega)
      unfold TK at tq15
      obtain ⟨z16, e_z16⟩ : ∃ z, z = s11 177 3 := ⟨_, rfl⟩
      have g_z16 : (0 : Int) ≤ s11 177 3 ∧ s11 177 3 ≤ 160 := hG_s11 177 3
      exact x_vret k55_28 rfl ⟨hG_s11, f_s11, rfl, ⟨(by unfold TwC nx; omega), by omega⟩, TK_s11⟩
  · skip
    refine x_A k55_8 (fun _ => rfl) ?_
    refine x_A k55_9 (fun _ => rfl) ?_
    refine x_A k55_10 (fun _ => rfl) ?_
    refine x_getI k55_11 (f := 3) rfl (q := 177) (n := 7) (kd := 7) ⟨by decide, rfl⟩ (by decide) rfl ?_
    refine x_rw (e_z1.symm) ?_
    refine x_callV k55_14 (y := 52) (n := 2) (w0 := 0) (w1 := 2) (as := [vi 1, vi z1]) (rest := []) (by decide +kernel) (q := 177) (nq := 7) (kq := 7) ⟨by decide, rfl⟩ rfl rfl rfl rfl (xe_mono (E_X6_fail_177 s0 hG0 1 ⟨by decide, by decide⟩ z1 (by first | exact x_rbe e_z1 g_z1 rfl rfl | exact x_rb g_z1 rfl rfl | exact ⟨by omega, by omega⟩)) ?_)
    rintro s18 v ⟨hG_s18, t_s18, rfl, xp_z17⟩
    have f_s18 : FL [1219, 1220, 1221, 1222, 1223] s0 s18 := f0.tr t_s18 (by decide +kernel)
    have q19 : s18 177 3 = z1 := (t_s18 177 3 (show 1220 ∉ [1222, 1223] from by decide +kernel)).trans e_z1.symm
    have TK_s18 : TKs s18 := TKs.fl i0_TK t_s18 (by decide +kernel)
    obtain ⟨z20, e_z20⟩ : ∃ z, z = s18 177 5 := ⟨_, rfl⟩
    have g_z20 : (0 : Int) ≤ s18 177 5 ∧ s18 177 5 ≤ 5 := hG_s18 177 5
    obtain ⟨z21, e_z21⟩ : ∃ z, z = s18 177 6 := ⟨_, rfl⟩
    have g_z21 : (-2147483648) ≤ s18 177 6 ∧ s18 177 6 ≤ 2147483647 := hG_s18 177 6
    show xe none 55 17 [(0, .ref 177), (1, .ref 2015)] [] s18 0 0 _
    refine x_A k55_17 (fun _ => rfl) ?_
    refine x_getI k55_18 (f := 5) rfl (q := 177) (n := 7) (kd := 7) ⟨by decide, rfl⟩ (by decide) rfl ?_
    refine x_rw (e_z20.symm) ?_
    refine x_if_ne k55_21 (t := 28) rfl (by first | exact x_rbe e_z20 g_z20 rfl rfl | exact x_rb g_z20 rfl rfl | exact ⟨by omega, by omega⟩) (fun c22 => ?_) (fun c22 => by exfalso; omega)
    exact x_vret k55_28 rfl ⟨hG_s18, f_s18, rfl, ⟨(by unfold TwC nx; omega), by omega⟩, TK_s18⟩
set_option maxHeartbeats 8000000 in
theorem E_X6_takeWord_177_2016 (s0 : xS) (hG0 : GI s0) (i0_TK : TKs s0) : xe none 55 0 (lv_args 0 [.ref 177, .ref 2016]) [] s0 0 0 (fun s' v => GI s' ∧ FL [1219, 1220, 1221, 1222, 1223] s0 s' ∧ v = none ∧ (TwC s0 s' (wv (s0 178) (s0 177 1) (s0 177 3) = 459818) ∧ (s' 177 5 = 0 → s0 177 5 = 0)) ∧ TKs s') := by
  have f0 : FL [1219, 1220, 1221, 1222, 1223] s0 s0 := FL.rf
  show xe none 55 0 [(0, .ref 177), (1, .ref 2016)] [] s0 0 0 _
  have tk := i0_TK
  unfold TKs TK at tk
  have tl := te_le (T := s0 178) (n := s0 177 1) (p := s0 177 3)
  obtain ⟨z1, e_z1⟩ : ∃ z, z = s0 177 3 := ⟨_, rfl⟩
  have g_z1 : (0 : Int) ≤ s0 177 3 ∧ s0 177 3 ≤ 160 := hG0 177 3
  obtain ⟨z2, e_z2⟩ : ∃ z, z = s0 177 5 := ⟨_, rfl⟩
  have g_z2 : (0 : Int) ≤ s0 177 5 ∧ s0 177 5 ≤ 5 := hG0 177 5
  obtain ⟨z3, e_z3⟩ : ∃ z, z = s0 177 6 := ⟨_, rfl⟩
  have g_z3 : (-2147483648) ≤ s0 177 6 ∧ s0 177 6 ≤ 2147483647 := hG0 177 6
  refine x_A k55_0 (fun _ => rfl) ?_
  refine x_A k55_1 (fun _ => rfl) ?_
  refine x_callV k55_2 (y := 53) (n := 1) (w0 := 0) (w1 := 1) (as := [.ref 2016]) (rest := []) (by decide +kernel) (q := 177) (nq := 7) (kq := 7) ⟨by decide, rfl⟩ rfl rfl rfl rfl (xe_mono (E_X6_isWord_177_2016 s0 hG0 i0_TK) ?_)
  rintro s5 v ⟨-, t_s5, z4, rfl, g_z4, xp_z4⟩
  rw [t_s5.nil]
  try rw [t_s5.nil] at xp_z4
  show xe none 55 5 [(0, .ref 177), (1, .ref 2016)] [vi z4] s0 0 0 _
  refine x_if_ne k55_5 (t := 17) rfl (by first | exact x_rbe e_z4 g_z4 rfl rfl | exact x_rb g_z4 rfl rfl | exact ⟨by omega, by omega⟩) (fun c6 => ?_) (fun c6 => ?_)
  · skip
    refine x_A k55_17 (fun _ => rfl) ?_
    refine x_getI k55_18 (f := 5) rfl (q := 177) (n := 7) (kd := 7) ⟨by decide, rfl⟩ (by decide) rfl ?_
    refine x_rw (e_z2.symm) ?_
    refine x_if_ne k55_21 (t := 28) rfl (by first | exact x_rbe e_z2 g_z2 rfl rfl | exact x_rb g_z2 rfl rfl | exact ⟨by omega, by omega⟩) (fun c7 => ?_) (fun c7 => ?_)
    · skip
      exact x_vret k55_28 rfl ⟨hG0, f0, rfl, ⟨(by unfold TwC nx; omega), by omega⟩, i0_TK⟩
    · skip
      refine x_A k55_24 (fun _ => rfl) ?_
      obtain ⟨z8, e_z8⟩ : ∃ z, z = s0 177 1 := ⟨_, rfl⟩
      have g_z8 : (0 : Int) ≤ s0 177 1 ∧ s0 177 1 ≤ 160 := hG0 177 1
      obtain ⟨z9, e_z9⟩ : ∃ z, z = s0 177 4 := ⟨_, rfl⟩
      have g_z9 : (0 : Int) ≤ s0 177 4 ∧ s0 177 4 ≤ 160 := hG0 177 4
      refine x_callV k55_25 (y := 51) (n := 0) (w0 := 0) (w1 := 0) (as := []) (rest := []) (by decide +kernel) (q := 177) (nq := 7) (kq := 7) ⟨by decide, rfl⟩ rfl rfl rfl rfl (xe_mono (E_X6_advance_177 s0 hG0 (by omega)) ?_)
      rintro s11 v ⟨hG_s11, t_s11, rfl, xp_z10⟩
      have f_s11 : FL [1219, 1220, 1221, 1222, 1223] s0 s11 := f0.tr t_s11 (by decide +kernel)
      have q12 : s11 177 5 = z2 := (t_s11 177 5 (show 1222 ∉ [1219, 1220, 1221] from by decide +kernel)).trans e_z2.symm
      have q13 : s11 177 6 = z3 := (t_s11 177 6 (show 1223 ∉ [1219, 1220, 1221] from by decide +kernel)).trans e_z3.symm
      have q14 : s11 177 1 = z8 := (t_s11 177 1 (show 1218 ∉ [1219, 1220, 1221] from by decide +kernel)).trans e_z8.symm
      show xe none 55 28 [(0, .ref 177), (1, .ref 2016)] [] s11 0 0 _
      have tq15 := xp_z10
      rw [show s0 177 4 = te (s0 178) (s0 177 1) (s0 177 3) by omega] at tq15
      have TK_s11 : TKs s11 := TK.s tq15 (show s11 178 = s0 178 from funext fun i => f_s11 178 i (show 1280 ∉ [1219, 1220, 1221, 1222, 1223] from by decide +kernel)) (by omega)
      unfold TK at tq15
      obtain ⟨z16, e_z16⟩ : ∃ z, z = s11 177 3 := ⟨_, rfl⟩
      have g_z16 : (0 : Int) ≤ s11 177 3 ∧ s11 177 3 ≤ 160 := hG_s11 177 3
      exact x_vret k55_28 rfl ⟨hG_s11, f_s11, rfl, ⟨(by unfold TwC nx; omega), by omega⟩, TK_s11⟩
  · skip
    refine x_A k55_8 (fun _ => rfl) ?_
    refine x_A k55_9 (fun _ => rfl) ?_
    refine x_A k55_10 (fun _ => rfl) ?_
    refine x_getI k55_11 (f := 3) rfl (q := 177) (n := 7) (kd := 7) ⟨by decide, rfl⟩ (by decide) rfl ?_
    refine x_rw (e_z1.symm) ?_
    refine x_callV k55_14 (y := 52) (n := 2) (w0 := 0) (w1 := 2) (as := [vi 1, vi z1]) (rest := []) (by decide +kernel) (q := 177) (nq := 7) (kq := 7) ⟨by decide, rfl⟩ rfl rfl rfl rfl (xe_mono (E_X6_fail_177 s0 hG0 1 ⟨by decide, by decide⟩ z1 (by first | exact x_rbe e_z1 g_z1 rfl rfl | exact x_rb g_z1 rfl rfl | exact ⟨by omega, by omega⟩)) ?_)
    rintro s18 v ⟨hG_s18, t_s18, rfl, xp_z17⟩
    have f_s18 : FL [1219, 1220, 1221, 1222, 1223] s0 s18 := f0.tr t_s18 (by decide +kernel)
    have q19 : s18 177 3 = z1 := (t_s18 177 3 (show 1220 ∉ [1222, 1223] from by decide +kernel)).trans e_z1.symm
    have TK_s18 : TKs s18 := TKs.fl i0_TK t_s18 (by decide +kernel)
    obtain ⟨z20, e_z20⟩ : ∃ z, z = s18 177 5 := ⟨_, rfl⟩
    have g_z20 : (0 : Int) ≤ s18 177 5 ∧ s18 177 5 ≤ 5 := hG_s18 177 5
    obtain ⟨z21, e_z21⟩ : ∃ z, z = s18 177 6 := ⟨_, rfl⟩
    have g_z21 : (-2147483648) ≤ s18 177 6 ∧ s18 177 6 ≤ 2147483647 := hG_s18 177 6
    show xe none 55 17 [(0, .ref 177), (1, .ref 2016)] [] s18 0 0 _
    refine x_A k55_17 (fun _ => rfl) ?_
    refine x_getI k55_18 (f := 5) rfl (q := 177) (n := 7) (kd := 7) ⟨by decide, rfl⟩ (by decide) rfl ?_
    refine x_rw (e_z20.symm) ?_
    refine x_if_ne k55_21 (t := 28) rfl (by first | exact x_rbe e_z20 g_z20 rfl rfl | exact x_rb g_z20 rfl rfl | exact ⟨by omega, by omega⟩) (fun c22 => ?_) (fun c22 => by exfalso; omega)
    exact x_vret k55_28 rfl ⟨hG_s18, f_s18, rfl, ⟨(by unfold TwC nx; omega), by omega⟩, TK_s18⟩
