set_option maxHeartbeats 8000000 in
theorem L_E_X6_isWord_177_2010_28 (s0 : xS)   : ∀ (n : Nat) (s : xS) (x2 : Int) (hG : GI s) (f : FL [] s0 s) (b_x2 : 0 ≤ x2 ∧ x2 ≤ 5) (w_0 : kd (s0 178) (s0 177 1) (s0 177 3) = 1) (w_1 : te (s0 178) (s0 177 1) (s0 177 3) - s0 177 3 = 5) (w_2 : ∀ i : Nat, (i : Int) < x2 → s0 178 (s0 177 3 + (i : Int)).toNat = ([119, 111, 108, 108, 97] : List Int).getD (5 - 1 - i) 0) (w_3 : 0 ≤ s0 177 3 ∧ s0 177 3 + 5 ≤ s0 177 1)  (hm : (5 - x2) < (n : Int)), xe none 53 28 [(0, .ref 177), (1, .ref 2010), (2, vi x2)] [] s 0 0 (fun s' v => GI s' ∧ FL [] s0 s' ∧ ∃ z, v = some (vi z) ∧ (0 ≤ z ∧ z ≤ 1) ∧ ((z = 1 ∧ wv (s0 178) (s0 177 1) (s0 177 3) = 776813) ∨ (z = 0 ∧ wv (s0 178) (s0 177 1) (s0 177 3) ≠ 776813))) := by
  intro n
  induction n with
  | zero => intro s x2 hG f b_x2 w_0 w_1 w_2 w_3  hm; exfalso; omega
  | succ n ih =>
    intro s x2 hG f b_x2 w_0 w_1 w_2 w_3  hm
    refine x_A k53_28 (fun _ => rfl) ?_
    refine x_A k53_29 (fun _ => rfl) ?_
    refine x_callX k53_30 (y := 222) (as := [.ref 2010]) (rest := [vi x2]) (fun _ => rfl) rfl rfl tx_len_9 ?_
    refine x_ic_ge k53_33 (t := 62) rfl (by first | exact x_rb b_x2 rfl rfl | exact ⟨by omega, by omega⟩) ⟨by decide, by decide⟩ (fun c73 => ?_) (fun c73 => ?_)
    · skip
      refine x_A k53_62 (fun _ => rfl) ?_
      exact x_zret k53_63 rfl ⟨by omega, by omega⟩ ⟨hG, f, 1, rfl, ⟨by decide, by decide⟩, Or.inl ⟨rfl, wv_yes wl_9 w_0 w_1 (fun i hi => w_2 i (by have hi : i < 5 := hi; omega))⟩⟩
    · skip
      refine x_A k53_36 (fun _ => rfl) ?_
      refine x_A k53_37 (fun _ => rfl) ?_
      refine x_getI k53_38 (f := 3) rfl (q := 177) (n := 7) (kd := 7) ⟨by decide, rfl⟩ (by decide) rfl ?_
      refine x_top (fun z74 e_z74 => ?_)
      have g_z74 : (0 : Int) ≤ s 177 3 ∧ s 177 3 ≤ 160 := hG 177 3
      refine x_A k53_41 (fun _ => rfl) ?_
      refine x_iadd k53_42 ?_
      refine x_top (fun z75 e_z75 => ?_)
      have f1 : s 177 1 = s0 177 1 := by rw [f.nil]
      have f3 : s 177 3 = s0 177 3 := by rw [f.nil]
      refine x_callV k53_43 (y := 49) (n := 1) (w0 := 0) (w1 := 1) (as := [vi z75]) (rest := []) (by decide +kernel) (q := 177) (nq := 7) (kq := 7) ⟨by decide, rfl⟩ rfl rfl rfl rfl (xe_mono (E_X6_byteAt_177 s hG z75 (by first | exact x_rbe e_z75 g_z75 rfl rfl | exact x_rb g_z75 rfl rfl | exact ⟨by omega, by omega⟩)) ?_)
      rintro s77 v ⟨h_s77, z76, rfl, g_z76⟩
      rw [h_s77]
      show xe none 53 46 [(0, .ref 177), (1, .ref 2010), (2, vi x2)] [vi z76] s 0 0 _
      refine x_A k53_46 (fun _ => rfl) ?_
      refine x_A k53_47 (fun _ => rfl) ?_
      obtain ⟨z78, g_z78, x_z78⟩ := tx_chE_9 x2 ⟨by omega, by omega⟩
      refine x_callX k53_48 (y := 223) (as := [.ref 2010, vi x2]) (rest := [vi z76]) (fun _ => rfl) rfl rfl x_z78 ?_
      have hb_ : z76 = s0 178 (s0 177 3 + x2).toNat := by rw [← f.nil, show s 177 3 + x2 = z75 by omega]; omega
      refine x_ic_eq k53_51 (t := 56) rfl (by first | exact x_rbe e_z76 g_z76 rfl rfl | exact x_rb g_z76 rfl rfl | exact ⟨by omega, by omega⟩) (by first | exact x_rbe e_z78 g_z78 rfl rfl | exact x_rb g_z78 rfl rfl | exact ⟨by omega, by omega⟩) (fun c79 => ?_) (fun c79 => ?_)
      · skip
        refine x_iinc k53_56 (ls' := [(2, vi (x2 + 1)), (0, .ref 177), (1, .ref 2010)]) rfl (by decide) rfl ?_
        refine x_goto k53_59 (t := 28) rfl ?_
        refine x_ls (l := [(0, .ref 177), (1, .ref 2010), (2, vi (x2 + 1))]) (show ([0, 1, 2] : List Nat).Nodup from by decide +kernel) ⟨rfl, rfl, rfl, trivial⟩ ?_
        exact ih s (x2 + 1) hG f ⟨by omega, by omega⟩ w_0 w_1 (fun i hi => (Decidable.em ((i : Int) = x2)).elim (fun e => by rw [e, show i = x2.toNat by omega]; omega) (fun e => w_2 i (by omega))) (by omega)  (by omega)
      · skip
        have nch : s0 178 (s0 177 3 + x2).toNat ≠ ([119, 111, 108, 108, 97] : List Int).getD (5 - 1 - x2.toNat) 0 := by omega
        refine x_A k53_54 (fun _ => rfl) ?_
        exact x_zret k53_55 rfl ⟨by omega, by omega⟩ ⟨hG, f, 0, rfl, ⟨by decide, by decide⟩, Or.inr ⟨rfl, wv_nc wl_9 x2.toNat (show x2.toNat < 5 by omega) (by rw [show s0 177 3 + ((x2.toNat : Nat) : Int) = s0 177 3 + x2 by omega]; exact nch)⟩⟩
set_option maxHeartbeats 8000000 in
theorem E_X6_isWord_177_2010 (s0 : xS) (hG0 : GI s0) (i0_TK : TKs s0) : xe none 53 0 (lv_args 0 [.ref 177, .ref 2010]) [] s0 0 0 (fun s' v => GI s' ∧ FL [] s0 s' ∧ ∃ z, v = some (vi z) ∧ (0 ≤ z ∧ z ≤ 1) ∧ ((z = 1 ∧ wv (s0 178) (s0 177 1) (s0 177 3) = 776813) ∨ (z = 0 ∧ wv (s0 178) (s0 177 1) (s0 177 3) ≠ 776813))) := by
  have f0 : FL [] s0 s0 := FL.rf
  show xe none 53 0 [(0, .ref 177), (1, .ref 2010)] [] s0 0 0 _
  have tk := i0_TK
  unfold TKs TK at tk
  have tl := te_le (T := s0 178) (n := s0 177 1) (p := s0 177 3)
  refine x_A k53_0 (fun _ => rfl) ?_
  refine x_getI k53_1 (f := 2) rfl (q := 177) (n := 7) (kd := 7) ⟨by decide, rfl⟩ (by decide) rfl ?_
  refine x_top (fun z80 e_z80 => ?_)
  have g_z80 : (0 : Int) ≤ s0 177 2 ∧ s0 177 2 ≤ 3 := hG0 177 2
  refine x_A k53_4 (fun _ => rfl) ?_
  refine x_ic_ne k53_5 (t := 24) rfl (by first | exact x_rbe e_z80 g_z80 rfl rfl | exact x_rb g_z80 rfl rfl | exact ⟨by omega, by omega⟩) ⟨by decide, by decide⟩ (fun c81 => ?_) (fun c81 => ?_)
  · skip
    refine x_A k53_24 (fun _ => rfl) ?_
    exact x_zret k53_25 rfl ⟨by omega, by omega⟩ ⟨hG0, f0, 0, rfl, ⟨by decide, by decide⟩, Or.inr ⟨rfl, by rw [wv_0 (by omega)]; decide⟩⟩
  · skip
    refine x_A k53_8 (fun _ => rfl) ?_
    refine x_getI k53_9 (f := 4) rfl (q := 177) (n := 7) (kd := 7) ⟨by decide, rfl⟩ (by decide) rfl ?_
    refine x_top (fun z82 e_z82 => ?_)
    have g_z82 : (0 : Int) ≤ s0 177 4 ∧ s0 177 4 ≤ 160 := hG0 177 4
    refine x_A k53_12 (fun _ => rfl) ?_
    refine x_getI k53_13 (f := 3) rfl (q := 177) (n := 7) (kd := 7) ⟨by decide, rfl⟩ (by decide) rfl ?_
    refine x_top (fun z83 e_z83 => ?_)
    have g_z83 : (0 : Int) ≤ s0 177 3 ∧ s0 177 3 ≤ 160 := hG0 177 3
    refine x_isub k53_16 ?_
    refine x_top (fun z84 e_z84 => ?_)
    refine x_A k53_17 (fun _ => rfl) ?_
    refine x_callX k53_18 (y := 222) (as := [.ref 2010]) (rest := [vi z84]) (fun _ => rfl) rfl rfl tx_len_9 ?_
    refine x_ic_eq k53_21 (t := 26) rfl (by first | exact x_rbe e_z84 g_z84 rfl rfl | exact x_rb g_z84 rfl rfl | exact ⟨by omega, by omega⟩) ⟨by decide, by decide⟩ (fun c85 => ?_) (fun c85 => ?_)
    · skip
      refine x_A k53_26 (fun _ => rfl) ?_
      refine x_istore_n k53_27 (ls' := [(2, vi 0), (0, .ref 177), (1, .ref 2010)]) (by decide) rfl ?_
      refine x_ls (l := [(0, .ref 177), (1, .ref 2010), (2, vi 0)]) (show ([0, 1, 2] : List Nat).Nodup from by decide +kernel) ⟨rfl, rfl, rfl, trivial⟩ ?_
      exact L_E_X6_isWord_177_2010_28 s0   (((5 - 0) + 1 : Int)).toNat s0 0 hG0 f0 ⟨by decide, by decide⟩ (by omega) (by omega) (fun i hi => by omega) (by omega)  (by omega)
    · skip
      refine x_A k53_24 (fun _ => rfl) ?_
      exact x_zret k53_25 rfl ⟨by omega, by omega⟩ ⟨hG0, f0, 0, rfl, ⟨by decide, by decide⟩, Or.inr ⟨rfl, wv_nl wl_9 (by omega) (show te (s0 178) (s0 177 1) (s0 177 3) - s0 177 3 ≠ (5 : Int) by omega)⟩⟩
set_option maxHeartbeats 8000000 in
theorem L_E_X6_isWord_177_2011_28 (s0 : xS)   : ∀ (n : Nat) (s : xS) (x2 : Int) (hG : GI s) (f : FL [] s0 s) (b_x2 : 0 ≤ x2 ∧ x2 ≤ 3) (w_0 : kd (s0 178) (s0 177 1) (s0 177 3) = 1) (w_1 : te (s0 178) (s0 177 1) (s0 177 3) - s0 177 3 = 3) (w_2 : ∀ i : Nat, (i : Int) < x2 → s0 178 (s0 177 3 + (i : Int)).toNat = ([114, 97, 98] : List Int).getD (3 - 1 - i) 0) (w_3 : 0 ≤ s0 177 3 ∧ s0 177 3 + 3 ≤ s0 177 1)  (hm : (3 - x2) < (n : Int)), xe none 53 28 [(0, .ref 177), (1, .ref 2011), (2, vi x2)] [] s 0 0 (fun s' v => GI s' ∧ FL [] s0 s' ∧ ∃ z, v = some (vi z) ∧ (0 ≤ z ∧ z ≤ 1) ∧ ((z = 1 ∧ wv (s0 178) (s0 177 1) (s0 177 3) = 1503) ∨ (z = 0 ∧ wv (s0 178) (s0 177 1) (s0 177 3) ≠ 1503))) := by
  intro n
  induction n with
  | zero => intro s x2 hG f b_x2 w_0 w_1 w_2 w_3  hm; exfalso; omega
  | succ n ih =>
    intro s x2 hG f b_x2 w_0 w_1 w_2 w_3  hm
    refine x_A k53_28 (fun _ => rfl) ?_
    refine x_A k53_29 (fun _ => rfl) ?_
    refine x_callX k53_30 (y := 222) (as := [.ref 2011]) (rest := [vi x2]) (fun _ => rfl) rfl rfl tx_len_10 ?_
    refine x_ic_ge k53_33 (t := 62) rfl (by first | exact x_rb b_x2 rfl rfl | exact ⟨by omega, by omega⟩) ⟨by decide, by decide⟩ (fun c60 => ?_) (fun c60 => ?_)
    · skip
      refine x_A k53_62 (fun _ => rfl) ?_
      exact x_zret k53_63 rfl ⟨by omega, by omega⟩ ⟨hG, f, 1, rfl, ⟨by decide, by decide⟩, Or.inl ⟨rfl, wv_yes wl_10 w_0 w_1 (fun i hi => w_2 i (by have hi : i < 3 := hi; omega))⟩⟩
    · skip
      refine x_A k53_36 (fun _ => rfl) ?_
      refine x_A k53_37 (fun _ => rfl) ?_
      refine x_getI k53_38 (f := 3) rfl (q := 177) (n := 7) (kd := 7) ⟨by decide, rfl⟩ (by decide) rfl ?_
      refine x_top (fun z61 e_z61 => ?_)
      have g_z61 : (0 : Int) ≤ s 177 3 ∧ s 177 3 ≤ 160 := hG 177 3
      refine x_A k53_41 (fun _ => rfl) ?_
      refine x_iadd k53_42 ?_
      refine x_top (fun z62 e_z62 => ?_)
      have f1 : s 177 1 = s0 177 1 := by rw [f.nil]
      have f3 : s 177 3 = s0 177 3 := by rw [f.nil]
      refine x_callV k53_43 (y := 49) (n := 1) (w0 := 0) (w1 := 1) (as := [vi z62]) (rest := []) (by decide +kernel) (q := 177) (nq := 7) (kq := 7) ⟨by decide, rfl⟩ rfl rfl rfl rfl (xe_mono (E_X6_byteAt_177 s hG z62 (by first | exact x_rbe e_z62 g_z62 rfl rfl | exact x_rb g_z62 rfl rfl | exact ⟨by omega, by omega⟩)) ?_)
      rintro s64 v ⟨h_s64, z63, rfl, g_z63⟩
      rw [h_s64]
      show xe none 53 46 [(0, .ref 177), (1, .ref 2011), (2, vi x2)] [vi z63] s 0 0 _
      refine x_A k53_46 (fun _ => rfl) ?_
      refine x_A k53_47 (fun _ => rfl) ?_
      obtain ⟨z65, g_z65, x_z65⟩ := tx_chE_10 x2 ⟨by omega, by omega⟩
      refine x_callX k53_48 (y := 223) (as := [.ref 2011, vi x2]) (rest := [vi z63]) (fun _ => rfl) rfl rfl x_z65 ?_
      have hb_ : z63 = s0 178 (s0 177 3 + x2).toNat := by rw [← f.nil, show s 177 3 + x2 = z62 by omega]; omega
      refine x_ic_eq k53_51 (t := 56) rfl (by first | exact x_rbe e_z63 g_z63 rfl rfl | exact x_rb g_z63 rfl rfl | exact ⟨by omega, by omega⟩) (by first | exact x_rbe e_z65 g_z65 rfl rfl | exact x_rb g_z65 rfl rfl | exact ⟨by omega, by omega⟩) (fun c66 => ?_) (fun c66 => ?_)
      · skip
        refine x_iinc k53_56 (ls' := [(2, vi (x2 + 1)), (0, .ref 177), (1, .ref 2011)]) rfl (by decide) rfl ?_
        refine x_goto k53_59 (t := 28) rfl ?_
        refine x_ls (l := [(0, .ref 177), (1, .ref 2011), (2, vi (x2 + 1))]) (show ([0, 1, 2] : List Nat).Nodup from by decide +kernel) ⟨rfl, rfl, rfl, trivial⟩ ?_
        exact ih s (x2 + 1) hG f ⟨by omega, by omega⟩ w_0 w_1 (fun i hi => (Decidable.em ((i : Int) = x2)).elim (fun e => by rw [e, show i = x2.toNat by omega]; omega) (fun e => w_2 i (by omega))) (by omega)  (by omega)
      · skip
        have nch : s0 178 (s0 177 3 + x2).toNat ≠ ([114, 97, 98] : List Int).getD (3 - 1 - x2.toNat) 0 := by omega
        refine x_A k53_54 (fun _ => rfl) ?_
        exact x_zret k53_55 rfl ⟨by omega, by omega⟩ ⟨hG, f, 0, rfl, ⟨by decide, by decide⟩, Or.inr ⟨rfl, wv_nc wl_10 x2.toNat (show x2.toNat < 3 by omega) (by rw [show s0 177 3 + ((x2.toNat : Nat) : Int) = s0 177 3 + x2 by omega]; exact nch)⟩⟩
set_option maxHeartbeats 8000000 in
theorem E_X6_isWord_177_2011 (s0 : xS) (hG0 : GI s0) (i0_TK : TKs s0) : xe none 53 0 (lv_args 0 [.ref 177, .ref 2011]) [] s0 0 0 (fun s' v => GI s' ∧ FL [] s0 s' ∧ ∃ z, v = some (vi z) ∧ (0 ≤ z ∧ z ≤ 1) ∧ ((z = 1 ∧ wv (s0 178) (s0 177 1) (s0 177 3) = 1503) ∨ (z = 0 ∧ wv (s0 178) (s0 177 1) (s0 177 3) ≠ 1503))) := by
  have f0 : FL [] s0 s0 := FL.rf
  show xe none 53 0 [(0, .ref 177), (1, .ref 2011)] [] s0 0 0 _
  have tk := i0_TK
  unfold TKs TK at tk
  have tl := te_le (T := s0 178) (n := s0 177 1) (p := s0 177 3)
  refine x_A k53_0 (fun _ => rfl) ?_
  refine x_getI k53_1 (f := 2) rfl (q := 177) (n := 7) (kd := 7) ⟨by decide, rfl⟩ (by decide) rfl ?_
  refine x_top (fun z67 e_z67 => ?_)
  have g_z67 : (0 : Int) ≤ s0 177 2 ∧ s0 177 2 ≤ 3 := hG0 177 2
  refine x_A k53_4 (fun _ => rfl) ?_
  refine x_ic_ne k53_5 (t := 24) rfl (by first | exact x_rbe e_z67 g_z67 rfl rfl | exact x_rb g_z67 rfl rfl | exact ⟨by omega, by omega⟩) ⟨by decide, by decide⟩ (fun c68 => ?_) (fun c68 => ?_)
  · skip
    refine x_A k53_24 (fun _ => rfl) ?_
    exact x_zret k53_25 rfl ⟨by omega, by omega⟩ ⟨hG0, f0, 0, rfl, ⟨by decide, by decide⟩, Or.inr ⟨rfl, by rw [wv_0 (by omega)]; decide⟩⟩
  · skip
    refine x_A k53_8 (fun _ => rfl) ?_
    refine x_getI k53_9 (f := 4) rfl (q := 177) (n := 7) (kd := 7) ⟨by decide, rfl⟩ (by decide) rfl ?_
    refine x_top (fun z69 e_z69 => ?_)
    have g_z69 : (0 : Int) ≤ s0 177 4 ∧ s0 177 4 ≤ 160 := hG0 177 4
    refine x_A k53_12 (fun _ => rfl) ?_
    refine x_getI k53_13 (f := 3) rfl (q := 177) (n := 7) (kd := 7) ⟨by decide, rfl⟩ (by decide) rfl ?_
    refine x_top (fun z70 e_z70 => ?_)
    have g_z70 : (0 : Int) ≤ s0 177 3 ∧ s0 177 3 ≤ 160 := hG0 177 3
    refine x_isub k53_16 ?_
    refine x_top (fun z71 e_z71 => ?_)
    refine x_A k53_17 (fun _ => rfl) ?_
    refine x_callX k53_18 (y := 222) (as := [.ref 2011]) (rest := [vi z71]) (fun _ => rfl) rfl rfl tx_len_10 ?_
    refine x_ic_eq k53_21 (t := 26) rfl (by first | exact x_rbe e_z71 g_z71 rfl rfl | exact x_rb g_z71 rfl rfl | exact ⟨by omega, by omega⟩) ⟨by decide, by decide⟩ (fun c72 => ?_) (fun c72 => ?_)
    · skip
      refine x_A k53_26 (fun _ => rfl) ?_
      refine x_istore_n k53_27 (ls' := [(2, vi 0), (0, .ref 177), (1, .ref 2011)]) (by decide) rfl ?_
      refine x_ls (l := [(0, .ref 177), (1, .ref 2011), (2, vi 0)]) (show ([0, 1, 2] : List Nat).Nodup from by decide +kernel) ⟨rfl, rfl, rfl, trivial⟩ ?_
      exact L_E_X6_isWord_177_2011_28 s0   (((3 - 0) + 1 : Int)).toNat s0 0 hG0 f0 ⟨by decide, by decide⟩ (by omega) (by omega) (fun i hi => by omega) (by omega)  (by omega)
    · skip
      refine x_A k53_24 (fun _ => rfl) ?_
      exact x_zret k53_25 rfl ⟨by omega, by omega⟩ ⟨hG0, f0, 0, rfl, ⟨by decide, by decide⟩, Or.inr ⟨rfl, wv_nl wl_10 (by omega) (show te (s0 178) (s0 177 1) (s0 177 3) - s0 177 3 ≠ (3 : Int) by omega)⟩⟩
set_option maxHeartbeats 8000000 in
theorem L_E_X6_isWord_177_2012_28 (s0 : xS)   : ∀ (n : Nat) (s : xS) (x2 : Int) (hG : GI s) (f : FL [] s0 s) (b_x2 : 0 ≤ x2 ∧ x2 ≤ 5) (w_0 : kd (s0 178) (s0 177 1) (s0 177 3) = 1) (w_1 : te (s0 178) (s0 177 1) (s0 177 3) - s0 177 3 = 4) (w_2 : ∀ i : Nat, (i : Int) < x2 → s0 178 (s0 177 3 + (i : Int)).toNat = ([100, 101, 101, 110] : List Int).getD (4 - 1 - i) 0) (w_3 : 0 ≤ s0 177 3 ∧ s0 177 3 + 4 ≤ s0 177 1)  (hm : (5 - x2) < (n : Int)), xe none 53 28 [(0, .ref 177), (1, .ref 2012), (2, vi x2)] [] s 0 0 (fun s' v => GI s' ∧ FL [] s0 s' ∧ ∃ z, v = some (vi z) ∧ (0 ≤ z ∧ z ≤ 1) ∧ ((z = 1 ∧ wv (s0 178) (s0 177 1) (s0 177 3) = 279346) ∨ (z = 0 ∧ wv (s0 178) (s0 177 1) (s0 177 3) ≠ 279346))) := by
  intro n
  induction n with
  | zero => intro s x2 hG f b_x2 w_0 w_1 w_2 w_3  hm; exfalso; omega
  | succ n ih =>
    intro s x2 hG f b_x2 w_0 w_1 w_2 w_3  hm
    refine x_A k53_28 (fun _ => rfl) ?_
    refine x_A k53_29 (fun _ => rfl) ?_
    refine x_callX k53_30 (y := 222) (as := [.ref 2012]) (rest := [vi x2]) (fun _ => rfl) rfl rfl tx_len_11 ?_
    refine x_ic_ge k53_33 (t := 62) rfl (by first | exact x_rb b_x2 rfl rfl | exact ⟨by omega, by omega⟩) ⟨by decide, by decide⟩ (fun c73 => ?_) (fun c73 => ?_)
    · skip
      refine x_A k53_62 (fun _ => rfl) ?_
      exact x_zret k53_63 rfl ⟨by omega, by omega⟩ ⟨hG, f, 1, rfl, ⟨by decide, by decide⟩, Or.inl ⟨rfl, wv_yes wl_11 w_0 w_1 (fun i hi => w_2 i (by have hi : i < 4 := hi; omega))⟩⟩
    · skip
      refine x_A k53_36 (fun _ => rfl) ?_
      refine x_A k53_37 (fun _ => rfl) ?_
      refine x_getI k53_38 (f := 3) rfl (q := 177) (n := 7) (kd := 7) ⟨by decide, rfl⟩ (by decide) rfl ?_
      refine x_top (fun z74 e_z74 => ?_)
      have g_z74 : (0 : Int) ≤ s 177 3 ∧ s 177 3 ≤ 160 := hG 177 3
      refine x_A k53_41 (fun _ => rfl) ?_
      refine x_iadd k53_42 ?_
      refine x_top (fun z75 e_z75 => ?_)
      have f1 : s 177 1 = s0 177 1 := by rw [f.nil]
      have f3 : s 177 3 = s0 177 3 := by rw [f.nil]
      refine x_callV k53_43 (y := 49) (n := 1) (w0 := 0) (w1 := 1) (as := [vi z75]) (rest := []) (by decide +kernel) (q := 177) (nq := 7) (kq := 7) ⟨by decide, rfl⟩ rfl rfl rfl rfl (xe_mono (E_X6_byteAt_177 s hG z75 (by first | exact x_rbe e_z75 g_z75 rfl rfl | exact x_rb g_z75 rfl rfl | exact ⟨by omega, by omega⟩)) ?_)
      rintro s77 v ⟨h_s77, z76, rfl, g_z76⟩
      rw [h_s77]
      show xe none 53 46 [(0, .ref 177), (1, .ref 2012), (2, vi x2)] [vi z76] s 0 0 _
      refine x_A k53_46 (fun _ => rfl) ?_
      refine x_A k53_47 (fun _ => rfl) ?_
      obtain ⟨z78, g_z78, x_z78⟩ := tx_chE_11 x2 ⟨by omega, by omega⟩
      refine x_callX k53_48 (y := 223) (as := [.ref 2012, vi x2]) (rest := [vi z76]) (fun _ => rfl) rfl rfl x_z78 ?_
      have hb_ : z76 = s0 178 (s0 177 3 + x2).toNat := by rw [← f.nil, show s 177 3 + x2 = z75 by omega]; omega
      refine x_ic_eq k53_51 (t := 56) rfl (by first | exact x_rbe e_z76 g_z76 rfl rfl | exact x_rb g_z76 rfl rfl | exact ⟨by omega, by omega⟩) (by first | exact x_rbe e_z78 g_z78 rfl rfl | exact x_rb g_z78 rfl rfl | exact ⟨by omega, by omega⟩) (fun c79 => ?_) (fun c79 => ?_)
      · skip
        refine x_iinc k53_56 (ls' := [(2, vi (x2 + 1)), (0, .ref 177), (1, .ref 2012)]) rfl (by decide) rfl ?_
        refine x_goto k53_59 (t := 28) rfl ?_
        refine x_ls (l := [(0, .ref 177), (1, .ref 2012), (2, vi (x2 + 1))]) (show ([0, 1, 2] : List Nat).Nodup from by decide +kernel) ⟨rfl, rfl, rfl, trivial⟩ ?_
        exact ih s (x2 + 1) hG f ⟨by omega, by omega⟩ w_0 w_1 (fun i hi => (Decidable.em ((i : Int) = x2)).elim (fun e => by rw [e, show i = x2.toNat by omega]; omega) (fun e => w_2 i (by omega))) (by omega)  (by omega)
      · skip
        have nch : s0 178 (s0 177 3 + x2).toNat ≠ ([100, 101, 101, 110] : List Int).getD (4 - 1 - x2.toNat) 0 := by omega
        refine x_A k53_54 (fun _ => rfl) ?_
        exact x_zret k53_55 rfl ⟨by omega, by omega⟩ ⟨hG, f, 0, rfl, ⟨by decide, by decide⟩, Or.inr ⟨rfl, wv_nc wl_11 x2.toNat (show x2.toNat < 4 by omega) (by rw [show s0 177 3 + ((x2.toNat : Nat) : Int) = s0 177 3 + x2 by omega]; exact nch)⟩⟩
set_option maxHeartbeats 8000000 in
theorem E_X6_isWord_177_2012 (s0 : xS) (hG0 : GI s0) (i0_TK : TKs s0) : xe none 53 0 (lv_args 0 [.ref 177, .ref 2012]) [] s0 0 0 (fun s' v => GI s' ∧ FL [] s0 s' ∧ ∃ z, v = some (vi z) ∧ (0 ≤ z ∧ z ≤ 1) ∧ ((z = 1 ∧ wv (s0 178) (s0 177 1) (s0 177 3) = 279346) ∨ (z = 0 ∧ wv (s0 178) (s0 177 1) (s0 177 3) ≠ 279346))) := by
  have f0 : FL [] s0 s0 := FL.rf
  show xe none 53 0 [(0, .ref 177), (1, .ref 2012)] [] s0 0 0 _
  have tk := i0_TK
  unfold TKs TK at tk
  have tl := te_le (T := s0 178) (n := s0 177 1) (p := s0 177 3)
  refine x_A k53_0 (fun _ => rfl) ?_
  refine x_getI k53_1 (f := 2) rfl (q := 177) (n := 7) (kd := 7) ⟨by decide, rfl⟩ (by decide) rfl ?_
  refine x_top (fun z80 e_z80 => ?_)
  have g_z80 : (0 : Int) ≤ s0 177 2 ∧ s0 177 2 ≤ 3 := hG0 177 2
  refine x_A k53_4 (fun _ => rfl) ?_
  refine x_ic_ne k53_5 (t := 24) rfl (by first | exact x_rbe e_z80 g_z80 rfl rfl | exact x_rb g_z80 rfl rfl | exact ⟨by omega, by omega⟩) ⟨by decide, by decide⟩ (fun c81 => ?_) (fun c81 => ?_)
  · skip
    refine x_A k53_24 (fun _ => rfl) ?_
    exact x_zret k53_25 rfl ⟨by omega, by omega⟩ ⟨hG0, f0, 0, rfl, ⟨by decide, by decide⟩, Or.inr ⟨rfl, by rw [wv_0 (by omega)]; decide⟩⟩
  · skip
    refine x_A k53_8 (fun _ => rfl) ?_
    refine x_getI k53_9 (f := 4) rfl (q := 177) (n := 7) (kd := 7) ⟨by decide, rfl⟩ (by decide) rfl ?_
    refine x_top (fun z82 e_z82 => ?_)
    have g_z82 : (0 : Int) ≤ s0 177 4 ∧ s0 177 4 ≤ 160 := hG0 177 4
    refine x_A k53_12 (fun _ => rfl) ?_
    refine x_getI k53_13 (f := 3) rfl (q := 177) (n := 7) (kd := 7) ⟨by decide, rfl⟩ (by decide) rfl ?_
    refine x_top (fun z83 e_z83 => ?_)
    have g_z83 : (0 : Int) ≤ s0 177 3 ∧ s0 177 3 ≤ 160 := hG0 177 3
    refine x_isub k53_16 ?_
    refine x_top (fun z84 e_z84 => ?_)
    refine x_A k53_17 (fun _ => rfl) ?_
    refine x_callX k53_18 (y := 222) (as := [.ref 2012]) (rest := [vi z84]) (fun _ => rfl) rfl rfl tx_len_11 ?_
    refine x_ic_eq k53_21 (t := 26) rfl (by first | exact x_rbe e_z84 g_z84 rfl rfl | exact x_rb g_z84 rfl rfl | exact ⟨by omega, by omega⟩) ⟨by decide, by decide⟩ (fun c85 => ?_) (fun c85 => ?_)
    · skip
      refine x_A k53_26 (fun _ => rfl) ?_
      refine x_istore_n k53_27 (ls' := [(2, vi 0), (0, .ref 177), (1, .ref 2012)]) (by decide) rfl ?_
      refine x_ls (l := [(0, .ref 177), (1, .ref 2012), (2, vi 0)]) (show ([0, 1, 2] : List Nat).Nodup from by decide +kernel) ⟨rfl, rfl, rfl, trivial⟩ ?_
      exact L_E_X6_isWord_177_2012_28 s0   (((5 - 0) + 1 : Int)).toNat s0 0 hG0 f0 ⟨by decide, by decide⟩ (by omega) (by omega) (fun i hi => by omega) (by omega)  (by omega)
    · skip
      refine x_A k53_24 (fun _ => rfl) ?_
      exact x_zret k53_25 rfl ⟨by omega, by omega⟩ ⟨hG0, f0, 0, rfl, ⟨by decide, by decide⟩, Or.inr ⟨rfl, wv_nl wl_11 (by omega) (show te (s0 178) (s0 177 1) (s0 177 3) - s0 177 3 ≠ (4 : Int) by omega)⟩⟩
set_option maxHeartbeats 8000000 in
theorem L_E_X6_isWord_177_2013_28 (s0 : xS)   : ∀ (n : Nat) (s : xS) (x2 : Int) (hG : GI s) (f : FL [] s0 s) (b_x2 : 0 ≤ x2 ∧ x2 ≤ 5) (w_0 : kd (s0 178) (s0 177 1) (s0 177 3) = 1) (w_1 : te (s0 178) (s0 177 1) (s0 177 3) - s0 177 3 = 4) (w_2 : ∀ i : Nat, (i : Int) < x2 → s0 178 (s0 177 3 + (i : Int)).toNat = ([116, 115, 111, 109] : List Int).getD (4 - 1 - i) 0) (w_3 : 0 ≤ s0 177 3 ∧ s0 177 3 + 4 ≤ s0 177 1)  (hm : (5 - x2) < (n : Int)), xe none 53 28 [(0, .ref 177), (1, .ref 2013), (2, vi x2)] [] s 0 0 (fun s' v => GI s' ∧ FL [] s0 s' ∧ ∃ z, v = some (vi z) ∧ (0 ≤ z ∧ z ≤ 1) ∧ ((z = 1 ∧ wv (s0 178) (s0 177 1) (s0 177 3) = 267347) ∨ (z = 0 ∧ wv (s0 178) (s0 177 1) (s0 177 3) ≠ 267347))) := by
  intro n
  induction n with
  | zero => intro s x2 hG f b_x2 w_0 w_1 w_2 w_3  hm; exfalso; omega
  | succ n ih =>
    intro s x2 hG f b_x2 w_0 w_1 w_2 w_3  hm
    refine x_A k53_28 (fun _ => rfl) ?_
    refine x_A k53_29 (fun _ => rfl) ?_
    refine x_callX k53_30 (y := 222) (as := [.ref 2013]) (rest := [vi x2]) (fun _ => rfl) rfl rfl tx_len_12 ?_
    refine x_ic_ge k53_33 (t := 62) rfl (by first | exact x_rb b_x2 rfl rfl | exact ⟨by omega, by omega⟩) ⟨by decide, by decide⟩ (fun c73 => ?_) (fun c73 => ?_)
    · skip
      refine x_A k53_62 (fun _ => rfl) ?_
      exact x_zret k53_63 rfl ⟨by omega, by omega⟩ ⟨hG, f, 1, rfl, ⟨by decide, by decide⟩, Or.inl ⟨rfl, wv_yes wl_12 w_0 w_1 (fun i hi => w_2 i (by have hi : i < 4 := hi; omega))⟩⟩
    · skip
      refine x_A k53_36 (fun _ => rfl) ?_
      refine x_A k53_37 (fun _ => rfl) ?_
      refine x_getI k53_38 (f := 3) rfl (q := 177) (n := 7) (kd := 7) ⟨by decide, rfl⟩ (by decide) rfl ?_
      refine x_top (fun z74 e_z74 => ?_)
      have g_z74 : (0 : Int) ≤ s 177 3 ∧ s 177 3 ≤ 160 := hG 177 3
      refine x_A k53_41 (fun _ => rfl) ?_
      refine x_iadd k53_42 ?_
      refine x_top (fun z75 e_z75 => ?_)
      have f1 : s 177 1 = s0 177 1 := by rw [f.nil]
      have f3 : s 177 3 = s0 177 3 := by rw [f.nil]
      refine x_callV k53_43 (y := 49) (n := 1) (w0 := 0) (w1 := 1) (as := [vi z75]) (rest := []) (by decide +kernel) (q := 177) (nq := 7) (kq := 7) ⟨by decide, rfl⟩ rfl rfl rfl rfl (xe_mono (E_X6_byteAt_177 s hG z75 (by first | exact x_rbe e_z75 g_z75 rfl rfl | exact x_rb g_z75 rfl rfl | exact ⟨by omega, by omega⟩)) ?_)
      rintro s77 v ⟨h_s77, z76, rfl, g_z76⟩
      rw [h_s77]
      show xe none 53 46 [(0, .ref 177), (1, .ref 2013), (2, vi x2)] [vi z76] s 0 0 _
      refine x_A k53_46 (fun _ => rfl) ?_
      refine x_A k53_47 (fun _ => rfl) ?_
      obtain ⟨z78, g_z78, x_z78⟩ := tx_chE_12 x2 ⟨by omega, by omega⟩
      refine x_callX k53_48 (y := 223) (as := [.ref 2013, vi x2]) (rest := [vi z76]) (fun _ => rfl) rfl rfl x_z78 ?_
      have hb_ : z76 = s0 178 (s0 177 3 + x2).toNat := by rw [← f.nil, show s 177 3 + x2 = z75 by omega]; omega
      refine x_ic_eq k53_51 (t := 56) rfl (by first | exact x_rbe e_z76 g_z76 rfl rfl | exact x_rb g_z76 rfl rfl | exact ⟨by omega, by omega⟩) (by first | exact x_rbe e_z78 g_z78 rfl rfl | exact x_rb g_z78 rfl rfl | exact ⟨by omega, by omega⟩) (fun c79 => ?_) (fun c79 => ?_)
      · skip
        refine x_iinc k53_56 (ls' := [(2, vi (x2 + 1)), (0, .ref 177), (1, .ref 2013)]) rfl (by decide) rfl ?_
        refine x_goto k53_59 (t := 28) rfl ?_
        refine x_ls (l := [(0, .ref 177), (1, .ref 2013), (2, vi (x2 + 1))]) (show ([0, 1, 2] : List Nat).Nodup from by decide +kernel) ⟨rfl, rfl, rfl, trivial⟩ ?_
        exact ih s (x2 + 1) hG f ⟨by omega, by omega⟩ w_0 w_1 (fun i hi => (Decidable.em ((i : Int) = x2)).elim (fun e => by rw [e, show i = x2.toNat by omega]; omega) (fun e => w_2 i (by omega))) (by omega)  (by omega)
      · skip
        have nch : s0 178 (s0 177 3 + x2).toNat ≠ ([116, 115, 111, 109] : List Int).getD (4 - 1 - x2.toNat) 0 := by omega
        refine x_A k53_54 (fun _ => rfl) ?_
        exact x_zret k53_55 rfl ⟨by omega, by omega⟩ ⟨hG, f, 0, rfl, ⟨by decide, by decide⟩, Or.inr ⟨rfl, wv_nc wl_12 x2.toNat (show x2.toNat < 4 by omega) (by rw [show s0 177 3 + ((x2.toNat : Nat) : Int) = s0 177 3 + x2 by omega]; exact nch)⟩⟩
set_option maxHeartbeats 8000000 in
theorem E_X6_isWord_177_2013 (s0 : xS) (hG0 : GI s0) (i0_TK : TKs s0) : xe none 53 0 (lv_args 0 [.ref 177, .ref 2013]) [] s0 0 0 (fun s' v => GI s' ∧ FL [] s0 s' ∧ ∃ z, v = some (vi z) ∧ (0 ≤ z ∧ z ≤ 1) ∧ ((z = 1 ∧ wv (s0 178) (s0 177 1) (s0 177 3) = 267347) ∨ (z = 0 ∧ wv (s0 178) (s0 177 1) (s0 177 3) ≠ 267347))) := by
  have f0 : FL [] s0 s0 := FL.rf
  show xe none 53 0 [(0, .ref 177), (1, .ref 2013)] [] s0 0 0 _
  have tk := i0_TK
  unfold TKs TK at tk
  have tl := te_le (T := s0 178) (n := s0 177 1) (p := s0 177 3)
  refine x_A k53_0 (fun _ => rfl) ?_
  refine x_getI k53_1 (f := 2) rfl (q := 177) (n := 7) (kd := 7) ⟨by decide, rfl⟩ (by decide) rfl ?_
  refine x_top (fun z80 e_z80 => ?_)
  have g_z80 : (0 : Int) ≤ s0 177 2 ∧ s0 177 2 ≤ 3 := hG0 177 2
  refine x_A k53_4 (fun _ => rfl) ?_
  refine x_ic_ne k53_5 (t := 24) rfl (by first | exact x_rbe e_z80 g_z80 rfl rfl | exact x_rb g_z80 rfl rfl | exact ⟨by omega, by omega⟩) ⟨by decide, by decide⟩ (fun c81 => ?_) (fun c81 => ?_)
  · skip
    refine x_A k53_24 (fun _ => rfl) ?_
    exact x_zret k53_25 rfl ⟨by omega, by omega⟩ ⟨hG0, f0, 0, rfl, ⟨by decide, by decide⟩, Or.inr ⟨rfl, by rw [wv_0 (by omega)]; decide⟩⟩
  · skip
    refine x_A k53_8 (fun _ => rfl) ?_
    refine x_getI k53_9 (f := 4) rfl (q := 177) (n := 7) (kd := 7) ⟨by decide, rfl⟩ (by decide) rfl ?_
    refine x_top (fun z82 e_z82 => ?_)
    have g_z82 : (0 : Int) ≤ s0 177 4 ∧ s0 177 4 ≤ 160 := hG0 177 4
    refine x_A k53_12 (fun _ => rfl) ?_
    refine x_getI k53_13 (f := 3) rfl (q := 177) (n := 7) (kd := 7) ⟨by decide, rfl⟩ (by decide) rfl ?_
    refine x_top (fun z83 e_z83 => ?_)
    have g_z83 : (0 : Int) ≤ s0 177 3 ∧ s0 177 3 ≤ 160 := hG0 177 3
    refine x_isub k53_16 ?_
    refine x_top (fun z84 e_z84 => ?_)
    refine x_A k53_17 (fun _ => rfl) ?_
    refine x_callX k53_18 (y := 222) (as := [.ref 2013]) (rest := [vi z84]) (fun _ => rfl) rfl rfl tx_len_12 ?_
    refine x_ic_eq k53_21 (t := 26) rfl (by first | exact x_rbe e_z84 g_z84 rfl rfl | exact x_rb g_z84 rfl rfl | exact ⟨by omega, by omega⟩) ⟨by decide, by decide⟩ (fun c85 => ?_) (fun c85 => ?_)
    · skip
      refine x_A k53_26 (fun _ => rfl) ?_
      refine x_istore_n k53_27 (ls' := [(2, vi 0), (0, .ref 177), (1, .ref 2013)]) (by decide) rfl ?_
      refine x_ls (l := [(0, .ref 177), (1, .ref 2013), (2, vi 0)]) (show ([0, 1, 2] : List Nat).Nodup from by decide +kernel) ⟨rfl, rfl, rfl, trivial⟩ ?_
      exact L_E_X6_isWord_177_2013_28 s0   (((5 - 0) + 1 : Int)).toNat s0 0 hG0 f0 ⟨by decide, by decide⟩ (by omega) (by omega) (fun i hi => by omega) (by omega)  (by omega)
    · skip
      refine x_A k53_24 (fun _ => rfl) ?_
      exact x_zret k53_25 rfl ⟨by omega, by omega⟩ ⟨hG0, f0, 0, rfl, ⟨by decide, by decide⟩, Or.inr ⟨rfl, wv_nl wl_12 (by omega) (show te (s0 178) (s0 177 1) (s0 177 3) - s0 177 3 ≠ (4 : Int) by omega)⟩⟩
set_option maxHeartbeats 8000000 in
theorem L_E_X6_isWord_177_2014_28 (s0 : xS)   : ∀ (n : Nat) (s : xS) (x2 : Int) (hG : GI s) (f : FL [] s0 s) (b_x2 : 0 ≤ x2 ∧ x2 ≤ 6) (w_0 : kd (s0 178) (s0 177 1) (s0 177 3) = 1) (w_1 : te (s0 178) (s0 177 1) (s0 177 3) - s0 177 3 = 6) (w_2 : ∀ i : Nat, (i : Int) < x2 → s0 178 (s0 177 3 + (i : Int)).toNat = ([101, 107, 105, 114, 116, 115] : List Int).getD (6 - 1 - i) 0) (w_3 : 0 ≤ s0 177 3 ∧ s0 177 3 + 6 ≤ s0 177 1)  (hm : (6 - x2) < (n : Int)), xe none 53 28 [(0, .ref 177), (1, .ref 2014), (2, vi x2)] [] s 0 0 (fun s' v => GI s' ∧ FL [] s0 s' ∧ ∃ z, v = some (vi z) ∧ (0 ≤ z ∧ z ≤ 1) ∧ ((z = 1 ∧ wv (s0 178) (s0 177 1) (s0 177 3) = 283619210) ∨ (z = 0 ∧ wv (s0 178) (s0 177 1) (s0 177 3) ≠ 283619210))) := by
  intro n
  induction n with
  | zero => intro s x2 hG f b_x2 w_0 w_1 w_2 w_3  hm; exfalso; omega
  | succ n ih =>
    intro s x2 hG f b_x2 w_0 w_1 w_2 w_3  hm
    refine x_A k53_28 (fun _ => rfl) ?_
    refine x_A k53_29 (fun _ => rfl) ?_
    refine x_callX k53_30 (y := 222) (as := [.ref 2014]) (rest := [vi x2]) (fun _ => rfl) rfl rfl tx_len_13 ?_
    refine x_ic_ge k53_33 (t := 62) rfl (by first | exact x_rb b_x2 rfl rfl | exact ⟨by omega, by omega⟩) ⟨by decide, by decide⟩ (fun c86 => ?_) (fun c86 => ?_)
    · skip
      refine x_A k53_62 (fun _ => rfl) ?_
      exact x_zret k53_63 rfl ⟨by omega, by omega⟩ ⟨hG, f, 1, rfl, ⟨by decide, by decide⟩, Or.inl ⟨rfl, wv_yes wl_13 w_0 w_1 (fun i hi => w_2 i (by have hi : i < 6 := hi; omega))⟩⟩
    · skip
      refine x_A k53_36 (fun _ => rfl) ?_
      refine x_A k53_37 (fun _ => rfl) ?_
      refine x_getI k53_38 (f := 3) rfl (q := 177) (n := 7) (kd := 7) ⟨by decide, rfl⟩ (by decide) rfl ?_
      refine x_top (fun z87 e_z87 => ?_)
      have g_z87 : (0 : Int) ≤ s 177 3 ∧ s 177 3 ≤ 160 := hG 177 3
      refine x_A k53_41 (fun _ => rfl) ?_
      refine x_iadd k53_42 ?_
      refine x_top (fun z88 e_z88 => ?_)
      have f1 : s 177 1 = s0 177 1 := by rw [f.nil]
      have f3 : s 177 3 = s0 177 3 := by rw [f.nil]
      refine x_callV k53_43 (y := 49) (n := 1) (w0 := 0) (w1 := 1) (as := [vi z88]) (rest := []) (by decide +kernel) (q := 177) (nq := 7) (kq := 7) ⟨by decide, rfl⟩ rfl rfl rfl rfl (xe_mono (E_X6_byteAt_177 s hG z88 (by first | exact x_rbe e_z88 g_z88 rfl rfl | exact x_rb g_z88 rfl rfl | exact ⟨by omega, by omega⟩)) ?_)
      rintro s90 v ⟨h_s90, z89, rfl, g_z89⟩
      rw [h_s90]
      show xe none 53 46 [(0, .ref 177), (1, .ref 2014), (2, vi x2)] [vi z89] s 0 0 _
      refine x_A k53_46 (fun _ => rfl) ?_
      refine x_A k53_47 (fun _ => rfl) ?_
      obtain ⟨z91, g_z91, x_z91⟩ := tx_chE_13 x2 ⟨by omega, by omega⟩
      refine x_callX k53_48 (y := 223) (as := [.ref 2014, vi x2]) (rest := [vi z89]) (fun _ => rfl) rfl rfl x_z91 ?_
      have hb_ : z89 = s0 178 (s0 177 3 + x2).toNat := by rw [← f.nil, show s 177 3 + x2 = z88 by omega]; omega
      refine x_ic_eq k53_51 (t := 56) rfl (by first | exact x_rbe e_z89 g_z89 rfl rfl | exact x_rb g_z89 rfl rfl | exact ⟨by omega, by omega⟩) (by first | exact x_rbe e_z91 g_z91 rfl rfl | exact x_rb g_z91 rfl rfl | exact ⟨by omega, by omega⟩) (fun c92 => ?_) (fun c92 => ?_)
      · skip
        refine x_iinc k53_56 (ls' := [(2, vi (x2 + 1)), (0, .ref 177), (1, .ref 2014)]) rfl (by decide) rfl ?_
        refine x_goto k53_59 (t := 28) rfl ?_
        refine x_ls (l := [(0, .ref 177), (1, .ref 2014), (2, vi (x2 + 1))]) (show ([0, 1, 2] : List Nat).Nodup from by decide +kernel) ⟨rfl, rfl, rfl, trivial⟩ ?_
        exact ih s (x2 + 1) hG f ⟨by omega, by omega⟩ w_0 w_1 (fun i hi => (Decidable.em ((i : Int) = x2)).elim (fun e => by rw [e, show i = x2.toNat by omega]; omega) (fun e => w_2 i (by omega))) (by omega)  (by omega)
      · skip
        have nch : s0 178 (s0 177 3 + x2).toNat ≠ ([101, 107, 105, 114, 116, 115] : List Int).getD (6 - 1 - x2.toNat) 0 := by omega
        refine x_A k53_54 (fun _ => rfl) ?_
        exact x_zret k53_55 rfl ⟨by omega, by omega⟩ ⟨hG, f, 0, rfl, ⟨by decide, by decide⟩, Or.inr ⟨rfl, wv_nc wl_13 x2.toNat (show x2.toNat < 6 by omega) (by rw [show s0 177 3 + ((x2.toNat : Nat) : Int) = s0 177 3 + x2 by omega]; exact nch)⟩⟩
set_option maxHeartbeats 8000000 in
theorem E_X6_isWord_177_2014 (s0 : xS) (hG0 : GI s0) (i0_TK : TKs s0) : xe none 53 0 (lv_args 0 [.ref 177, .ref 2014]) [] s0 0 0 (fun s' v => GI s' ∧ FL [] s0 s' ∧ ∃ z, v = some (vi z) ∧ (0 ≤ z ∧ z ≤ 1) ∧ ((z = 1 ∧ wv (s0 178) (s0 177 1) (s0 177 3) = 283619210) ∨ (z = 0 ∧ wv (s0 178) (s0 177 1) (s0 177 3) ≠ 283619210))) := by
  have f0 : FL [] s0 s0 := FL.rf
  show xe none 53 0 [(0, .ref 177), (1, .ref 2014)] [] s0 0 0 _
  have tk := i0_TK
  unfold TKs TK at tk
  have tl := te_le (T := s0 178) (n := s0 177 1) (p := s0 177 3)
  refine x_A k53_0 (fun _ => rfl) ?_
  refine x_getI k53_1 (f := 2) rfl (q := 177) (n := 7) (kd := 7) ⟨by decide, rfl⟩ (by decide) rfl ?_
  refine x_top (fun z93 e_z93 => ?_)
  have g_z93 : (0 : Int) ≤ s0 177 2 ∧ s0 177 2 ≤ 3 := hG0 177 2
  refine x_A k53_4 (fun _ => rfl) ?_
  refine x_ic_ne k53_5 (t := 24) rfl (by first | exact x_rbe e_z93 g_z93 rfl rfl | exact x_rb g_z93 rfl rfl | exact ⟨by omega, by omega⟩) ⟨by decide, by decide⟩ (fun c94 => ?_) (fun c94 => ?_)
  · skip
    refine x_A k53_24 (fun _ => rfl) ?_
    exact x_zret k53_25 rfl ⟨by omega, by omega⟩ ⟨hG0, f0, 0, rfl, ⟨by decide, by decide⟩, Or.inr ⟨rfl, by rw [wv_0 (by omega)]; decide⟩⟩
  · skip
    refine x_A k53_8 (fun _ => rfl) ?_
    refine x_getI k53_9 (f := 4) rfl (q := 177) (n := 7) (kd := 7) ⟨by decide, rfl⟩ (by decide) rfl ?_
    refine x_top (fun z95 e_z95 => ?_)
    have g_z95 : (0 : Int) ≤ s0 177 4 ∧ s0 177 4 ≤ 160 := hG0 177 4
    refine x_A k53_12 (fun _ => rfl) ?_
    refine x_getI k53_13 (f := 3) rfl (q := 177) (n := 7) (kd := 7) ⟨by decide, rfl⟩ (by decide) rfl ?_
    refine x_top (fun z96 e_z96 => ?_)
    have g_z96 : (0 : Int) ≤ s0 177 3 ∧ s0 177 3 ≤ 160 := hG0 177 3
    refine x_isub k53_16 ?_
    refine x_top (fun z97 e_z97 => ?_)
    refine x_A k53_17 (fun _ => rfl) ?_
    refine x_callX k53_18 (y := 222) (as := [.ref 2014]) (rest := [vi z97]) (fun _ => rfl) rfl rfl tx_len_13 ?_
    refine x_ic_eq k53_21 (t := 26) rfl (by first | exact x_rbe e_z97 g_z97 rfl rfl | exact x_rb g_z97 rfl rfl | exact ⟨by omega, by omega⟩) ⟨by decide, by decide⟩ (fun c98 => ?_) (fun c98 => ?_)
    · skip
      refine x_A k53_26 (fun _ => rfl) ?_
      refine x_istore_n k53_27 (ls' := [(2, vi 0), (0, .ref 177), (1, .ref 2014)]) (by decide) rfl ?_
      refine x_ls (l := [(0, .ref 177), (1, .ref 2014), (2, vi 0)]) (show ([0, 1, 2] : List Nat).Nodup from by decide +kernel) ⟨rfl, rfl, rfl, trivial⟩ ?_
      exact L_E_X6_isWord_177_2014_28 s0   (((6 - 0) + 1 : Int)).toNat s0 0 hG0 f0 ⟨by decide, by decide⟩ (by omega) (by omega) (fun i hi => by omega) (by omega)  (by omega)
    · skip
      refine x_A k53_24 (fun _ => rfl) ?_
      exact x_zret k53_25 rfl ⟨by omega, by omega⟩ ⟨hG0, f0, 0, rfl, ⟨by decide, by decide⟩, Or.inr ⟨rfl, wv_nl wl_13 (by omega) (show te (s0 178) (s0 177 1) (s0 177 3) - s0 177 3 ≠ (6 : Int) by omega)⟩⟩
set_option maxHeartbeats 8000000 in
theorem L_E_X6_isWord_177_2015_28 (s0 : xS)   : ∀ (n : Nat) (s : xS) (x2 : Int) (hG : GI s) (f : FL [] s0 s) (b_x2 : 0 ≤ x2 ∧ x2 ≤ 5) (w_0 : kd (s0 178) (s0 177 1) (s0 177 3) = 1) (w_1 : te (s0 178) (s0 177 1) (s0 177 3) - s0 177 3 = 5) (w_2 : ∀ i : Nat, (i : Int) < x2 → s0 178 (s0 177 3 + (i : Int)).toNat = ([114, 101, 100, 110, 117] : List Int).getD (5 - 1 - i) 0) (w_3 : 0 ≤ s0 177 3 ∧ s0 177 3 + 5 ≤ s0 177 1)  (hm : (5 - x2) < (n : Int)), xe none 53 28 [(0, .ref 177), (1, .ref 2015), (2, vi x2)] [] s 0 0 (fun s' v => GI s' ∧ FL [] s0 s' ∧ ∃ z, v = some (vi z) ∧ (0 ≤ z ∧ z ≤ 1) ∧ ((z = 1 ∧ wv (s0 178) (s0 177 1) (s0 177 3) = 11438892) ∨ (z = 0 ∧ wv (s0 178) (s0 177 1) (s0 177 3) ≠ 11438892))) := by
  intro n
  induction n with
  | zero => intro s x2 hG f b_x2 w_0 w_1 w_2 w_3  hm; exfalso; omega
  | succ n ih =>
    intro s x2 hG f b_x2 w_0 w_1 w_2 w_3  hm
    refine x_A k53_28 (fun _ => rfl) ?_
    refine x_A k53_29 (fun _ => rfl) ?_
    refine x_callX k53_30 (y := 222) (as := [.ref 2015]) (rest := [vi x2]) (fun _ => rfl) rfl rfl tx_len_14 ?_
    refine x_ic_ge k53_33 (t := 62) rfl (by first | exact x_rb b_x2 rfl rfl | exact ⟨by omega, by omega⟩) ⟨by decide, by decide⟩ (fun c73 => ?_) (fun c73 => ?_)
    · skip
      refine x_A k53_62 (fun _ => rfl) ?_
      exact x_zret k53_63 rfl ⟨by omega, by omega⟩ ⟨hG, f, 1, rfl, ⟨by decide, by decide⟩, Or.inl ⟨rfl, wv_yes wl_14 w_0 w_1 (fun i hi => w_2 i (by have hi : i < 5 := hi; omega))⟩⟩
    · skip
      refine x_A k53_36 (fun _ => rfl) ?_
      refine x_A k53_37 (fun _ => rfl) ?_
      refine x_getI k53_38 (f := 3) rfl (q := 177) (n := 7) (kd := 7) ⟨by decide, rfl⟩ (by decide) rfl ?_
      refine x_top (fun z74 e_z74 => ?_)
      have g_z74 : (0 : Int) ≤ s 177 3 ∧ s 177 3 ≤ 160 := hG 177 3
      refine x_A k53_41 (fun _ => rfl) ?_
      refine x_iadd k53_42 ?_
      refine x_top (fun z75 e_z75 => ?_)
      have f1 : s 177 1 = s0 177 1 := by rw [f.nil]
      have f3 : s 177 3 = s0 177 3 := by rw [f.nil]
      refine x_callV k53_43 (y := 49) (n := 1) (w0 := 0) (w1 := 1) (as := [vi z75]) (rest := []) (by decide +kernel) (q := 177) (nq := 7) (kq := 7) ⟨by decide, rfl⟩ rfl rfl rfl rfl (xe_mono (E_X6_byteAt_177 s hG z75 (by first | exact x_rbe e_z75 g_z75 rfl rfl | exact x_rb g_z75 rfl rfl | exact ⟨by omega, by omega⟩)) ?_)
      rintro s77 v ⟨h_s77, z76, rfl, g_z76⟩
      rw [h_s77]
      show xe none 53 46 [(0, .ref 177), (1, .ref 2015), (2, vi x2)] [vi z76] s 0 0 _
      refine x_A k53_46 (fun _ => rfl) ?_
      refine x_A k53_47 (fun _ => rfl) ?_
      obtain ⟨z78, g_z78, x_z78⟩ := tx_chE_14 x2 ⟨by omega, by omega⟩
      refine x_callX k53_48 (y := 223) (as := [.ref 2015, vi x2]) (rest := [vi z76]) (fun _ => rfl) rfl rfl x_z78 ?_
      have hb_ : z76 = s0 178 (s0 177 3 + x2).toNat := by rw [← f.nil, show s 177 3 + x2 = z75 by omega]; omega
      refine x_ic_eq k53_51 (t := 56) rfl (by first | exact x_rbe e_z76 g_z76 rfl rfl | exact x_rb g_z76 rfl rfl | exact ⟨by omega, by omega⟩) (by first | exact x_rbe e_z78 g_z78 rfl rfl | exact x_rb g_z78 rfl rfl | exact ⟨by omega, by omega⟩) (fun c79 => ?_) (fun c79 => ?_)
      · skip
        refine x_iinc k53_56 (ls' := [(2, vi (x2 + 1)), (0, .ref 177), (1, .ref 2015)]) rfl (by decide) rfl ?_
        refine x_goto k53_59 (t := 28) rfl ?_
        refine x_ls (l := [(0, .ref 177), (1, .ref 2015), (2, vi (x2 + 1))]) (show ([0, 1, 2] : List Nat).Nodup from by decide +kernel) ⟨rfl, rfl, rfl, trivial⟩ ?_
        exact ih s (x2 + 1) hG f ⟨by omega, by omega⟩ w_0 w_1 (fun i hi => (Decidable.em ((i : Int) = x2)).elim (fun e => by rw [e, show i = x2.toNat by omega]; omega) (fun e => w_2 i (by omega))) (by omega)  (by omega)
      · skip
        have nch : s0 178 (s0 177 3 + x2).toNat ≠ ([114, 101, 100, 110, 117] : List Int).getD (5 - 1 - x2.toNat) 0 := by omega
        refine x_A k53_54 (fun _ => rfl) ?_
        exact x_zret k53_55 rfl ⟨by omega, by omega⟩ ⟨hG, f, 0, rfl, ⟨by decide, by decide⟩, Or.inr ⟨rfl, wv_nc wl_14 x2.toNat (show x2.toNat < 5 by omega) (by rw [show s0 177 3 + ((x2.toNat : Nat) : Int) = s0 177 3 + x2 by omega]; exact nch)⟩⟩
set_option maxHeartbeats 8000000 in
theorem E_X6_isWord_177_2015 (s0 : xS) (hG0 : GI s0) (i0_TK : TKs s0) : xe none 53 0 (lv_args 0 [.ref 177, .ref 2015]) [] s0 0 0 (fun s' v => GI s' ∧ FL [] s0 s' ∧ ∃ z, v = some (vi z) ∧ (0 ≤ z ∧ z ≤ 1) ∧ ((z = 1 ∧ wv (s0 178) (s0 177 1) (s0 177 3) = 11438892) ∨ (z = 0 ∧ wv (s0 178) (s0 177 1) (s0 177 3) ≠ 11438892))) := by
  have f0 : FL [] s0 s0 := FL.rf
  show xe none 53 0 [(0, .ref 177), (1, .ref 2015)] [] s0 0 0 _
  have tk := i0_TK
  unfold TKs TK at tk
  have tl := te_le (T := s0 178) (n := s0 177 1) (p := s0 177 3)
  refine x_A k53_0 (fun _ => rfl) ?_
  refine x_getI k53_1 (f := 2) rfl (q := 177) (n := 7) (kd := 7) ⟨by decide, rfl⟩ (by decide) rfl ?_
  refine x_top (fun z80 e_z80 => ?_)
  have g_z80 : (0 : Int) ≤ s0 177 2 ∧ s0 177 2 ≤ 3 := hG0 177 2
  refine x_A k53_4 (fun _ => rfl) ?_
  refine x_ic_ne k53_5 (t := 24) rfl (by first | exact x_rbe e_z80 g_z80 rfl rfl | exact x_rb g_z80 rfl rfl | exact ⟨by omega, by omega⟩) ⟨by decide, by decide⟩ (fun c81 => ?_) (fun c81 => ?_)
  · skip
    refine x_A k53_24 (fun _ => rfl) ?_
    exact x_zret k53_25 rfl ⟨by omega, by omega⟩ ⟨hG0, f0, 0, rfl, ⟨by decide, by decide⟩, Or.inr ⟨rfl, by rw [wv_0 (by omega)]; decide⟩⟩
  · skip
    refine x_A k53_8 (fun _ => rfl) ?_
    refine x_getI k53_9 (f := 4) rfl (q := 177) (n := 7) (kd := 7) ⟨by decide, rfl⟩ (by decide) rfl ?_
    refine x_top (fun z82 e_z82 => ?_)
    have g_z82 : (0 : Int) ≤ s0 177 4 ∧ s0 177 4 ≤ 160 := hG0 177 4
    refine x_A k53_12 (fun _ => rfl) ?_
    refine x_getI k53_13 (f := 3) rfl (q := 177) (n := 7) (kd := 7) ⟨by decide, rfl⟩ (by decide) rfl ?_
    refine x_top (fun z83 e_z83 => ?_)
    have g_z83 : (0 : Int) ≤ s0 177 3 ∧ s0 177 3 ≤ 160 := hG0 177 3
    refine x_isub k53_16 ?_
    refine x_top (fun z84 e_z84 => ?_)
    refine x_A k53_17 (fun _ => rfl) ?_
    refine x_callX k53_18 (y := 222) (as := [.ref 2015]) (rest := [vi z84]) (fun _ => rfl) rfl rfl tx_len_14 ?_
    refine x_ic_eq k53_21 (t := 26) rfl (by first | exact x_rbe e_z84 g_z84 rfl rfl | exact x_rb g_z84 rfl rfl | exact ⟨by omega, by omega⟩) ⟨by decide, by decide⟩ (fun c85 => ?_) (fun c85 => ?_)
    · skip
      refine x_A k53_26 (fun _ => rfl) ?_
      refine x_istore_n k53_27 (ls' := [(2, vi 0), (0, .ref 177), (1, .ref 2015)]) (by decide) rfl ?_
      refine x_ls (l := [(0, .ref 177), (1, .ref 2015), (2, vi 0)]) (show ([0, 1, 2] : List Nat).Nodup from by decide +kernel) ⟨rfl, rfl, rfl, trivial⟩ ?_
      exact L_E_X6_isWord_177_2015_28 s0   (((5 - 0) + 1 : Int)).toNat s0 0 hG0 f0 ⟨by decide, by decide⟩ (by omega) (by omega) (fun i hi => by omega) (by omega)  (by omega)
    · skip
      refine x_A k53_24 (fun _ => rfl) ?_
      exact x_zret k53_25 rfl ⟨by omega, by omega⟩ ⟨hG0, f0, 0, rfl, ⟨by decide, by decide⟩, Or.inr ⟨rfl, wv_nl wl_14 (by omega) (show te (s0 178) (s0 177 1) (s0 177 3) - s0 177 3 ≠ (5 : Int) by omega)⟩⟩
