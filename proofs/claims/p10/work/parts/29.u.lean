theorem L_C_X6_isWord_177_2001_28 (s0 : xS)   : ∀ (n : Nat) (s : xS) (x2 : Int) (hG : GI s) (f : FL [] s0 s) (b_x2 : 0 ≤ x2 ∧ x2 ≤ 3)  (hm : (3 - x2) < (n : Int)), xe none 53 28 [(0, .ref 177), (1, .ref 2001), (2, vi x2)] [] s 0 0 (fun s' v => GI s' ∧ FL [] s0 s' ∧ ∃ z, v = some (vi z) ∧ (0 ≤ z ∧ z ≤ 1)) := by
  intro n
  induction n with
  | zero => intro s x2 hG f b_x2  hm; exfalso; omega
  | succ n ih =>
    intro s x2 hG f b_x2  hm
    refine x_A k53_28 (fun _ => rfl) ?_
    refine x_A k53_29 (fun _ => rfl) ?_
    refine x_callX k53_30 (y := 222) (as := [.ref 2001]) (rest := [vi x2]) (fun _ => rfl) rfl rfl tx_len_0 ?_
    refine x_ic_ge k53_33 (t := 62) rfl (by first | exact x_rb b_x2 rfl rfl | exact ⟨by omega, by omega⟩) ⟨by decide, by decide⟩ (fun c60 => ?_) (fun c60 => ?_)
    · skip
      refine x_A k53_62 (fun _ => rfl) ?_
      exact x_zret k53_63 rfl ⟨by omega, by omega⟩ ⟨hG, f, 1, rfl, ⟨by decide, by decide⟩⟩
    · skip
      refine x_A k53_36 (fun _ => rfl) ?_
      refine x_A k53_37 (fun _ => rfl) ?_
      refine x_getI k53_38 (f := 3) rfl (q := 177) (n := 7) (kd := 7) ⟨by decide, rfl⟩ (by decide) rfl ?_
      refine x_top (fun z61 e_z61 => ?_)
      have g_z61 : (0 : Int) ≤ s 177 3 ∧ s 177 3 ≤ 160 := hG 177 3
      refine x_A k53_41 (fun _ => rfl) ?_
      refine x_iadd k53_42 ?_
      refine x_top (fun z62 e_z62 => ?_)
      refine x_callV k53_43 (y := 49) (n := 1) (w0 := 0) (w1 := 1) (as := [vi z62]) (rest := []) (by decide +kernel) (q := 177) (nq := 7) (kq := 7) ⟨by decide, rfl⟩ rfl rfl rfl rfl (xe_mono (C_X6_byteAt_177 s hG z62 (by first | exact x_rbe e_z62 g_z62 rfl rfl | exact x_rb g_z62 rfl rfl | exact ⟨by omega, by omega⟩)) ?_)
      rintro s64 v ⟨h_s64, z63, rfl, g_z63⟩
      rw [h_s64]
      show xe none 53 46 [(0, .ref 177), (1, .ref 2001), (2, vi x2)] [vi z63] s 0 0 _
      refine x_A k53_46 (fun _ => rfl) ?_
      refine x_A k53_47 (fun _ => rfl) ?_
      obtain ⟨z65, g_z65, x_z65⟩ := tx_char_0 x2 ⟨by omega, by omega⟩
      refine x_callX k53_48 (y := 223) (as := [.ref 2001, vi x2]) (rest := [vi z63]) (fun _ => rfl) rfl rfl x_z65 ?_
      refine x_ic_eq k53_51 (t := 56) rfl (by first | exact x_rbe e_z63 g_z63 rfl rfl | exact x_rb g_z63 rfl rfl | exact ⟨by omega, by omega⟩) (by first | exact x_rbe e_z65 g_z65 rfl rfl | exact x_rb g_z65 rfl rfl | exact ⟨by omega, by omega⟩) (fun c66 => ?_) (fun c66 => ?_)
      · skip
        refine x_iinc k53_56 (ls' := [(2, vi (x2 + 1)), (0, .ref 177), (1, .ref 2001)]) rfl (by decide) rfl ?_
        refine x_goto k53_59 (t := 28) rfl ?_
        refine x_ls (l := [(0, .ref 177), (1, .ref 2001), (2, vi (x2 + 1))]) (show ([0, 1, 2] : List Nat).Nodup from by decide +kernel) ⟨rfl, rfl, rfl, trivial⟩ ?_
        exact ih s (x2 + 1) hG f ⟨by omega, by omega⟩  (by omega)
      · skip
        refine x_A k53_54 (fun _ => rfl) ?_
        exact x_zret k53_55 rfl ⟨by omega, by omega⟩ ⟨hG, f, 0, rfl, ⟨by decide, by decide⟩⟩
theorem C_X6_isWord_177_2001 (s0 : xS) (hG0 : GI s0)  : xe none 53 0 (lv_args 0 [.ref 177, .ref 2001]) [] s0 0 0 (fun s' v => GI s' ∧ FL [] s0 s' ∧ ∃ z, v = some (vi z) ∧ (0 ≤ z ∧ z ≤ 1)) := by
  have f0 : FL [] s0 s0 := FL.rf
  show xe none 53 0 [(0, .ref 177), (1, .ref 2001)] [] s0 0 0 _
  refine x_A k53_0 (fun _ => rfl) ?_
  refine x_getI k53_1 (f := 2) rfl (q := 177) (n := 7) (kd := 7) ⟨by decide, rfl⟩ (by decide) rfl ?_
  refine x_top (fun z67 e_z67 => ?_)
  have g_z67 : (0 : Int) ≤ s0 177 2 ∧ s0 177 2 ≤ 3 := hG0 177 2
  refine x_A k53_4 (fun _ => rfl) ?_
  refine x_ic_ne k53_5 (t := 24) rfl (by first | exact x_rbe e_z67 g_z67 rfl rfl | exact x_rb g_z67 rfl rfl | exact ⟨by omega, by omega⟩) ⟨by decide, by decide⟩ (fun c68 => ?_) (fun c68 => ?_)
  · skip
    refine x_A k53_24 (fun _ => rfl) ?_
    exact x_zret k53_25 rfl ⟨by omega, by omega⟩ ⟨hG0, f0, 0, rfl, ⟨by decide, by decide⟩⟩
  · skip
    refine x_A k53_8 (fun _ => rfl) ?_
    refine x_getI k53_9 (f := 4) rfl (q := 177) (n := 7) (kd := 7) ⟨by decide, rfl⟩ (by decide) rfl ?_
    refine x_top (fun z69 e_z69 => ?_)
    have g_z69 : (0 : Int) ≤ s0 177 4 ∧ s0 177 4 ≤ 160 := hG0 177 4
    refine x_A k53_12 (fun _ => rfl) ?_
    refine x_getI k53_13 (f := 3) rfl (q := 177) (n := 7) (kd := 7) ⟨by decide, rfl⟩ (by decide) rfl ?_
    refine x_top (fun z70 e_z70 => ?_)
    have g_z70 : (0 : Int) ≤ s0 177 3 ∧ s0 177 3 ≤ 160 := hG0 177 3
    refine x_isub k53_16 ?_
    refine x_top (fun z71 e_z71 => ?_)
    refine x_A k53_17 (fun _ => rfl) ?_
    refine x_callX k53_18 (y := 222) (as := [.ref 2001]) (rest := [vi z71]) (fun _ => rfl) rfl rfl tx_len_0 ?_
    refine x_ic_eq k53_21 (t := 26) rfl (by first | exact x_rbe e_z71 g_z71 rfl rfl | exact x_rb g_z71 rfl rfl | exact ⟨by omega, by omega⟩) ⟨by decide, by decide⟩ (fun c72 => ?_) (fun c72 => ?_)
    · skip
      refine x_A k53_26 (fun _ => rfl) ?_
      refine x_istore_n k53_27 (ls' := [(2, vi 0), (0, .ref 177), (1, .ref 2001)]) (by decide) rfl ?_
      refine x_ls (l := [(0, .ref 177), (1, .ref 2001), (2, vi 0)]) (show ([0, 1, 2] : List Nat).Nodup from by decide +kernel) ⟨rfl, rfl, rfl, trivial⟩ ?_
      exact L_C_X6_isWord_177_2001_28 s0   (((3 - 0) + 1 : Int)).toNat s0 0 hG0 f0 ⟨by decide, by decide⟩  (by omega)
    · skip
      refine x_A k53_24 (fun _ => rfl) ?_
      exact x_zret k53_25 rfl ⟨by omega, by omega⟩ ⟨hG0, f0, 0, rfl, ⟨by decide, by decide⟩⟩
theorem L_C_X6_isWord_177_2002_28 (s0 : xS)   : ∀ (n : Nat) (s : xS) (x2 : Int) (hG : GI s) (f : FL [] s0 s) (b_x2 : 0 ≤ x2 ∧ x2 ≤ 5)  (hm : (5 - x2) < (n : Int)), xe none 53 28 [(0, .ref 177), (1, .ref 2002), (2, vi x2)] [] s 0 0 (fun s' v => GI s' ∧ FL [] s0 s' ∧ ∃ z, v = some (vi z) ∧ (0 ≤ z ∧ z ≤ 1)) := by
  intro n
  induction n with
  | zero => intro s x2 hG f b_x2  hm; exfalso; omega
  | succ n ih =>
    intro s x2 hG f b_x2  hm
    refine x_A k53_28 (fun _ => rfl) ?_
    refine x_A k53_29 (fun _ => rfl) ?_
    refine x_callX k53_30 (y := 222) (as := [.ref 2002]) (rest := [vi x2]) (fun _ => rfl) rfl rfl tx_len_1 ?_
    refine x_ic_ge k53_33 (t := 62) rfl (by first | exact x_rb b_x2 rfl rfl | exact ⟨by omega, by omega⟩) ⟨by decide, by decide⟩ (fun c73 => ?_) (fun c73 => ?_)
    · skip
      refine x_A k53_62 (fun _ => rfl) ?_
      exact x_zret k53_63 rfl ⟨by omega, by omega⟩ ⟨hG, f, 1, rfl, ⟨by decide, by decide⟩⟩
    · skip
      refine x_A k53_36 (fun _ => rfl) ?_
      refine x_A k53_37 (fun _ => rfl) ?_
      refine x_getI k53_38 (f := 3) rfl (q := 177) (n := 7) (kd := 7) ⟨by decide, rfl⟩ (by decide) rfl ?_
      refine x_top (fun z74 e_z74 => ?_)
      have g_z74 : (0 : Int) ≤ s 177 3 ∧ s 177 3 ≤ 160 := hG 177 3
      refine x_A k53_41 (fun _ => rfl) ?_
      refine x_iadd k53_42 ?_
      refine x_top (fun z75 e_z75 => ?_)
      refine x_callV k53_43 (y := 49) (n := 1) (w0 := 0) (w1 := 1) (as := [vi z75]) (rest := []) (by decide +kernel) (q := 177) (nq := 7) (kq := 7) ⟨by decide, rfl⟩ rfl rfl rfl rfl (xe_mono (C_X6_byteAt_177 s hG z75 (by first | exact x_rbe e_z75 g_z75 rfl rfl | exact x_rb g_z75 rfl rfl | exact ⟨by omega, by omega⟩)) ?_)
      rintro s77 v ⟨h_s77, z76, rfl, g_z76⟩
      rw [h_s77]
      show xe none 53 46 [(0, .ref 177), (1, .ref 2002), (2, vi x2)] [vi z76] s 0 0 _
      refine x_A k53_46 (fun _ => rfl) ?_
      refine x_A k53_47 (fun _ => rfl) ?_
      obtain ⟨z78, g_z78, x_z78⟩ := tx_char_1 x2 ⟨by omega, by omega⟩
      refine x_callX k53_48 (y := 223) (as := [.ref 2002, vi x2]) (rest := [vi z76]) (fun _ => rfl) rfl rfl x_z78 ?_
      refine x_ic_eq k53_51 (t := 56) rfl (by first | exact x_rbe e_z76 g_z76 rfl rfl | exact x_rb g_z76 rfl rfl | exact ⟨by omega, by omega⟩) (by first | exact x_rbe e_z78 g_z78 rfl rfl | exact x_rb g_z78 rfl rfl | exact ⟨by omega, by omega⟩) (fun c79 => ?_) (fun c79 => ?_)
      · skip
        refine x_iinc k53_56 (ls' := [(2, vi (x2 + 1)), (0, .ref 177), (1, .ref 2002)]) rfl (by decide) rfl ?_
        refine x_goto k53_59 (t := 28) rfl ?_
        refine x_ls (l := [(0, .ref 177), (1, .ref 2002), (2, vi (x2 + 1))]) (show ([0, 1, 2] : List Nat).Nodup from by decide +kernel) ⟨rfl, rfl, rfl, trivial⟩ ?_
        exact ih s (x2 + 1) hG f ⟨by omega, by omega⟩  (by omega)
      · skip
        refine x_A k53_54 (fun _ => rfl) ?_
        exact x_zret k53_55 rfl ⟨by omega, by omega⟩ ⟨hG, f, 0, rfl, ⟨by decide, by decide⟩⟩
theorem C_X6_isWord_177_2002 (s0 : xS) (hG0 : GI s0)  : xe none 53 0 (lv_args 0 [.ref 177, .ref 2002]) [] s0 0 0 (fun s' v => GI s' ∧ FL [] s0 s' ∧ ∃ z, v = some (vi z) ∧ (0 ≤ z ∧ z ≤ 1)) := by
  have f0 : FL [] s0 s0 := FL.rf
  show xe none 53 0 [(0, .ref 177), (1, .ref 2002)] [] s0 0 0 _
  refine x_A k53_0 (fun _ => rfl) ?_
  refine x_getI k53_1 (f := 2) rfl (q := 177) (n := 7) (kd := 7) ⟨by decide, rfl⟩ (by decide) rfl ?_
  refine x_top (fun z80 e_z80 => ?_)
  have g_z80 : (0 : Int) ≤ s0 177 2 ∧ s0 177 2 ≤ 3 := hG0 177 2
  refine x_A k53_4 (fun _ => rfl) ?_
  refine x_ic_ne k53_5 (t := 24) rfl (by first | exact x_rbe e_z80 g_z80 rfl rfl | exact x_rb g_z80 rfl rfl | exact ⟨by omega, by omega⟩) ⟨by decide, by decide⟩ (fun c81 => ?_) (fun c81 => ?_)
  · skip
    refine x_A k53_24 (fun _ => rfl) ?_
    exact x_zret k53_25 rfl ⟨by omega, by omega⟩ ⟨hG0, f0, 0, rfl, ⟨by decide, by decide⟩⟩
  · skip
    refine x_A k53_8 (fun _ => rfl) ?_
    refine x_getI k53_9 (f := 4) rfl (q := 177) (n := 7) (kd := 7) ⟨by decide, rfl⟩ (by decide) rfl ?_
    refine x_top (fun z82 e_z82 => ?_)
    have g_z82 : (0 : Int) ≤ s0 177 4 ∧ s0 177 4 ≤ 160 := hG0 177 4
    refine x_A k53_12 (fun _ => rfl) ?_
    refine x_getI k53_13 (f := 3) rfl (q := 177) (n := 7) (kd := 7) ⟨by decide, rfl⟩ (by decide) rfl ?_
    refine x_top (fun z83 e_z83 => ?_)
    have g_z83 : (0 : Int) ≤ s0 177 3 ∧ s0 177 3 ≤ 160 := hG0 177 3
    refine x_isub k53_16 ?_
    refine x_top (fun z84 e_z84 => ?_)
    refine x_A k53_17 (fun _ => rfl) ?_
    refine x_callX k53_18 (y := 222) (as := [.ref 2002]) (rest := [vi z84]) (fun _ => rfl) rfl rfl tx_len_1 ?_
    refine x_ic_eq k53_21 (t := 26) rfl (by first | exact x_rbe e_z84 g_z84 rfl rfl | exact x_rb g_z84 rfl rfl | exact ⟨by omega, by omega⟩) ⟨by decide, by decide⟩ (fun c85 => ?_) (fun c85 => ?_)
    · skip
      refine x_A k53_26 (fun _ => rfl) ?_
      refine x_istore_n k53_27 (ls' := [(2, vi 0), (0, .ref 177), (1, .ref 2002)]) (by decide) rfl ?_
      refine x_ls (l := [(0, .ref 177), (1, .ref 2002), (2, vi 0)]) (show ([0, 1, 2] : List Nat).Nodup from by decide +kernel) ⟨rfl, rfl, rfl, trivial⟩ ?_
      exact L_C_X6_isWord_177_2002_28 s0   (((5 - 0) + 1 : Int)).toNat s0 0 hG0 f0 ⟨by decide, by decide⟩  (by omega)
    · skip
      refine x_A k53_24 (fun _ => rfl) ?_
      exact x_zret k53_25 rfl ⟨by omega, by omega⟩ ⟨hG0, f0, 0, rfl, ⟨by decide, by decide⟩⟩
theorem L_C_X6_isWord_177_2003_28 (s0 : xS)   : ∀ (n : Nat) (s : xS) (x2 : Int) (hG : GI s) (f : FL [] s0 s) (b_x2 : 0 ≤ x2 ∧ x2 ≤ 5)  (hm : (5 - x2) < (n : Int)), xe none 53 28 [(0, .ref 177), (1, .ref 2003), (2, vi x2)] [] s 0 0 (fun s' v => GI s' ∧ FL [] s0 s' ∧ ∃ z, v = some (vi z) ∧ (0 ≤ z ∧ z ≤ 1)) := by
  intro n
  induction n with
  | zero => intro s x2 hG f b_x2  hm; exfalso; omega
  | succ n ih =>
    intro s x2 hG f b_x2  hm
    refine x_A k53_28 (fun _ => rfl) ?_
    refine x_A k53_29 (fun _ => rfl) ?_
    refine x_callX k53_30 (y := 222) (as := [.ref 2003]) (rest := [vi x2]) (fun _ => rfl) rfl rfl tx_len_2 ?_
    refine x_ic_ge k53_33 (t := 62) rfl (by first | exact x_rb b_x2 rfl rfl | exact ⟨by omega, by omega⟩) ⟨by decide, by decide⟩ (fun c73 => ?_) (fun c73 => ?_)
    · skip
      refine x_A k53_62 (fun _ => rfl) ?_
      exact x_zret k53_63 rfl ⟨by omega, by omega⟩ ⟨hG, f, 1, rfl, ⟨by decide, by decide⟩⟩
    · skip
      refine x_A k53_36 (fun _ => rfl) ?_
      refine x_A k53_37 (fun _ => rfl) ?_
      refine x_getI k53_38 (f := 3) rfl (q := 177) (n := 7) (kd := 7) ⟨by decide, rfl⟩ (by decide) rfl ?_
      refine x_top (fun z74 e_z74 => ?_)
      have g_z74 : (0 : Int) ≤ s 177 3 ∧ s 177 3 ≤ 160 := hG 177 3
      refine x_A k53_41 (fun _ => rfl) ?_
      refine x_iadd k53_42 ?_
      refine x_top (fun z75 e_z75 => ?_)
      refine x_callV k53_43 (y := 49) (n := 1) (w0 := 0) (w1 := 1) (as := [vi z75]) (rest := []) (by decide +kernel) (q := 177) (nq := 7) (kq := 7) ⟨by decide, rfl⟩ rfl rfl rfl rfl (xe_mono (C_X6_byteAt_177 s hG z75 (by first | exact x_rbe e_z75 g_z75 rfl rfl | exact x_rb g_z75 rfl rfl | exact ⟨by omega, by omega⟩)) ?_)
      rintro s77 v ⟨h_s77, z76, rfl, g_z76⟩
      rw [h_s77]
      show xe none 53 46 [(0, .ref 177), (1, .ref 2003), (2, vi x2)] [vi z76] s 0 0 _
      refine x_A k53_46 (fun _ => rfl) ?_
      refine x_A k53_47 (fun _ => rfl) ?_
      obtain ⟨z78, g_z78, x_z78⟩ := tx_char_2 x2 ⟨by omega, by omega⟩
      refine x_callX k53_48 (y := 223) (as := [.ref 2003, vi x2]) (rest := [vi z76]) (fun _ => rfl) rfl rfl x_z78 ?_
      refine x_ic_eq k53_51 (t := 56) rfl (by first | exact x_rbe e_z76 g_z76 rfl rfl | exact x_rb g_z76 rfl rfl | exact ⟨by omega, by omega⟩) (by first | exact x_rbe e_z78 g_z78 rfl rfl | exact x_rb g_z78 rfl rfl | exact ⟨by omega, by omega⟩) (fun c79 => ?_) (fun c79 => ?_)
      · skip
        refine x_iinc k53_56 (ls' := [(2, vi (x2 + 1)), (0, .ref 177), (1, .ref 2003)]) rfl (by decide) rfl ?_
        refine x_goto k53_59 (t := 28) rfl ?_
        refine x_ls (l := [(0, .ref 177), (1, .ref 2003), (2, vi (x2 + 1))]) (show ([0, 1, 2] : List Nat).Nodup from by decide +kernel) ⟨rfl, rfl, rfl, trivial⟩ ?_
        exact ih s (x2 + 1) hG f ⟨by omega, by omega⟩  (by omega)
      · skip
        refine x_A k53_54 (fun _ => rfl) ?_
        exact x_zret k53_55 rfl ⟨by omega, by omega⟩ ⟨hG, f, 0, rfl, ⟨by decide, by decide⟩⟩
theorem C_X6_isWord_177_2003 (s0 : xS) (hG0 : GI s0)  : xe none 53 0 (lv_args 0 [.ref 177, .ref 2003]) [] s0 0 0 (fun s' v => GI s' ∧ FL [] s0 s' ∧ ∃ z, v = some (vi z) ∧ (0 ≤ z ∧ z ≤ 1)) := by
  have f0 : FL [] s0 s0 := FL.rf
  show xe none 53 0 [(0, .ref 177), (1, .ref 2003)] [] s0 0 0 _
  refine x_A k53_0 (fun _ => rfl) ?_
  refine x_getI k53_1 (f := 2) rfl (q := 177) (n := 7) (kd := 7) ⟨by decide, rfl⟩ (by decide) rfl ?_
  refine x_top (fun z80 e_z80 => ?_)
  have g_z80 : (0 : Int) ≤ s0 177 2 ∧ s0 177 2 ≤ 3 := hG0 177 2
  refine x_A k53_4 (fun _ => rfl) ?_
  refine x_ic_ne k53_5 (t := 24) rfl (by first | exact x_rbe e_z80 g_z80 rfl rfl | exact x_rb g_z80 rfl rfl | exact ⟨by omega, by omega⟩) ⟨by decide, by decide⟩ (fun c81 => ?_) (fun c81 => ?_)
  · skip
    refine x_A k53_24 (fun _ => rfl) ?_
    exact x_zret k53_25 rfl ⟨by omega, by omega⟩ ⟨hG0, f0, 0, rfl, ⟨by decide, by decide⟩⟩
  · skip
    refine x_A k53_8 (fun _ => rfl) ?_
    refine x_getI k53_9 (f := 4) rfl (q := 177) (n := 7) (kd := 7) ⟨by decide, rfl⟩ (by decide) rfl ?_
    refine x_top (fun z82 e_z82 => ?_)
    have g_z82 : (0 : Int) ≤ s0 177 4 ∧ s0 177 4 ≤ 160 := hG0 177 4
    refine x_A k53_12 (fun _ => rfl) ?_
    refine x_getI k53_13 (f := 3) rfl (q := 177) (n := 7) (kd := 7) ⟨by decide, rfl⟩ (by decide) rfl ?_
    refine x_top (fun z83 e_z83 => ?_)
    have g_z83 : (0 : Int) ≤ s0 177 3 ∧ s0 177 3 ≤ 160 := hG0 177 3
    refine x_isub k53_16 ?_
    refine x_top (fun z84 e_z84 => ?_)
    refine x_A k53_17 (fun _ => rfl) ?_
    refine x_callX k53_18 (y := 222) (as := [.ref 2003]) (rest := [vi z84]) (fun _ => rfl) rfl rfl tx_len_2 ?_
    refine x_ic_eq k53_21 (t := 26) rfl (by first | exact x_rbe e_z84 g_z84 rfl rfl | exact x_rb g_z84 rfl rfl | exact ⟨by omega, by omega⟩) ⟨by decide, by decide⟩ (fun c85 => ?_) (fun c85 => ?_)
    · skip
      refine x_A k53_26 (fun _ => rfl) ?_
      refine x_istore_n k53_27 (ls' := [(2, vi 0), (0, .ref 177), (1, .ref 2003)]) (by decide) rfl ?_
      refine x_ls (l := [(0, .ref 177), (1, .ref 2003), (2, vi 0)]) (show ([0, 1, 2] : List Nat).Nodup from by decide +kernel) ⟨rfl, rfl, rfl, trivial⟩ ?_
      exact L_C_X6_isWord_177_2003_28 s0   (((5 - 0) + 1 : Int)).toNat s0 0 hG0 f0 ⟨by decide, by decide⟩  (by omega)
    · skip
      refine x_A k53_24 (fun _ => rfl) ?_
      exact x_zret k53_25 rfl ⟨by omega, by omega⟩ ⟨hG0, f0, 0, rfl, ⟨by decide, by decide⟩⟩
theorem L_C_X6_isWord_177_2004_28 (s0 : xS)   : ∀ (n : Nat) (s : xS) (x2 : Int) (hG : GI s) (f : FL [] s0 s) (b_x2 : 0 ≤ x2 ∧ x2 ≤ 5)  (hm : (5 - x2) < (n : Int)), xe none 53 28 [(0, .ref 177), (1, .ref 2004), (2, vi x2)] [] s 0 0 (fun s' v => GI s' ∧ FL [] s0 s' ∧ ∃ z, v = some (vi z) ∧ (0 ≤ z ∧ z ≤ 1)) := by
  intro n
  induction n with
  | zero => intro s x2 hG f b_x2  hm; exfalso; omega
  | succ n ih =>
    intro s x2 hG f b_x2  hm
    refine x_A k53_28 (fun _ => rfl) ?_
    refine x_A k53_29 (fun _ => rfl) ?_
    refine x_callX k53_30 (y := 222) (as := [.ref 2004]) (rest := [vi x2]) (fun _ => rfl) rfl rfl tx_len_3 ?_
    refine x_ic_ge k53_33 (t := 62) rfl (by first | exact x_rb b_x2 rfl rfl | exact ⟨by omega, by omega⟩) ⟨by decide, by decide⟩ (fun c73 => ?_) (fun c73 => ?_)
    · skip
      refine x_A k53_62 (fun _ => rfl) ?_
      exact x_zret k53_63 rfl ⟨by omega, by omega⟩ ⟨hG, f, 1, rfl, ⟨by decide, by decide⟩⟩
    · skip
      refine x_A k53_36 (fun _ => rfl) ?_
      refine x_A k53_37 (fun _ => rfl) ?_
      refine x_getI k53_38 (f := 3) rfl (q := 177) (n := 7) (kd := 7) ⟨by decide, rfl⟩ (by decide) rfl ?_
      refine x_top (fun z74 e_z74 => ?_)
      have g_z74 : (0 : Int) ≤ s 177 3 ∧ s 177 3 ≤ 160 := hG 177 3
      refine x_A k53_41 (fun _ => rfl) ?_
      refine x_iadd k53_42 ?_
      refine x_top (fun z75 e_z75 => ?_)
      refine x_callV k53_43 (y := 49) (n := 1) (w0 := 0) (w1 := 1) (as := [vi z75]) (rest := []) (by decide +kernel) (q := 177) (nq := 7) (kq := 7) ⟨by decide, rfl⟩ rfl rfl rfl rfl (xe_mono (C_X6_byteAt_177 s hG z75 (by first | exact x_rbe e_z75 g_z75 rfl rfl | exact x_rb g_z75 rfl rfl | exact ⟨by omega, by omega⟩)) ?_)
      rintro s77 v ⟨h_s77, z76, rfl, g_z76⟩
      rw [h_s77]
      show xe none 53 46 [(0, .ref 177), (1, .ref 2004), (2, vi x2)] [vi z76] s 0 0 _
      refine x_A k53_46 (fun _ => rfl) ?_
      refine x_A k53_47 (fun _ => rfl) ?_
      obtain ⟨z78, g_z78, x_z78⟩ := tx_char_3 x2 ⟨by omega, by omega⟩
      refine x_callX k53_48 (y := 223) (as := [.ref 2004, vi x2]) (rest := [vi z76]) (fun _ => rfl) rfl rfl x_z78 ?_
      refine x_ic_eq k53_51 (t := 56) rfl (by first | exact x_rbe e_z76 g_z76 rfl rfl | exact x_rb g_z76 rfl rfl | exact ⟨by omega, by omega⟩) (by first | exact x_rbe e_z78 g_z78 rfl rfl | exact x_rb g_z78 rfl rfl | exact ⟨by omega, by omega⟩) (fun c79 => ?_) (fun c79 => ?_)
      · skip
        refine x_iinc k53_56 (ls' := [(2, vi (x2 + 1)), (0, .ref 177), (1, .ref 2004)]) rfl (by decide) rfl ?_
        refine x_goto k53_59 (t := 28) rfl ?_
        refine x_ls (l := [(0, .ref 177), (1, .ref 2004), (2, vi (x2 + 1))]) (show ([0, 1, 2] : List Nat).Nodup from by decide +kernel) ⟨rfl, rfl, rfl, trivial⟩ ?_
        exact ih s (x2 + 1) hG f ⟨by omega, by omega⟩  (by omega)
      · skip
        refine x_A k53_54 (fun _ => rfl) ?_
        exact x_zret k53_55 rfl ⟨by omega, by omega⟩ ⟨hG, f, 0, rfl, ⟨by decide, by decide⟩⟩
theorem C_X6_isWord_177_2004 (s0 : xS) (hG0 : GI s0)  : xe none 53 0 (lv_args 0 [.ref 177, .ref 2004]) [] s0 0 0 (fun s' v => GI s' ∧ FL [] s0 s' ∧ ∃ z, v = some (vi z) ∧ (0 ≤ z ∧ z ≤ 1)) := by
  have f0 : FL [] s0 s0 := FL.rf
  show xe none 53 0 [(0, .ref 177), (1, .ref 2004)] [] s0 0 0 _
  refine x_A k53_0 (fun _ => rfl) ?_
  refine x_getI k53_1 (f := 2) rfl (q := 177) (n := 7) (kd := 7) ⟨by decide, rfl⟩ (by decide) rfl ?_
  refine x_top (fun z80 e_z80 => ?_)
  have g_z80 : (0 : Int) ≤ s0 177 2 ∧ s0 177 2 ≤ 3 := hG0 177 2
  refine x_A k53_4 (fun _ => rfl) ?_
  refine x_ic_ne k53_5 (t := 24) rfl (by first | exact x_rbe e_z80 g_z80 rfl rfl | exact x_rb g_z80 rfl rfl | exact ⟨by omega, by omega⟩) ⟨by decide, by decide⟩ (fun c81 => ?_) (fun c81 => ?_)
  · skip
    refine x_A k53_24 (fun _ => rfl) ?_
    exact x_zret k53_25 rfl ⟨by omega, by omega⟩ ⟨hG0, f0, 0, rfl, ⟨by decide, by decide⟩⟩
  · skip
    refine x_A k53_8 (fun _ => rfl) ?_
    refine x_getI k53_9 (f := 4) rfl (q := 177) (n := 7) (kd := 7) ⟨by decide, rfl⟩ (by decide) rfl ?_
    refine x_top (fun z82 e_z82 => ?_)
    have g_z82 : (0 : Int) ≤ s0 177 4 ∧ s0 177 4 ≤ 160 := hG0 177 4
    refine x_A k53_12 (fun _ => rfl) ?_
    refine x_getI k53_13 (f := 3) rfl (q := 177) (n := 7) (kd := 7) ⟨by decide, rfl⟩ (by decide) rfl ?_
    refine x_top (fun z83 e_z83 => ?_)
    have g_z83 : (0 : Int) ≤ s0 177 3 ∧ s0 177 3 ≤ 160 := hG0 177 3
    refine x_isub k53_16 ?_
    refine x_top (fun z84 e_z84 => ?_)
    refine x_A k53_17 (fun _ => rfl) ?_
    refine x_callX k53_18 (y := 222) (as := [.ref 2004]) (rest := [vi z84]) (fun _ => rfl) rfl rfl tx_len_3 ?_
    refine x_ic_eq k53_21 (t := 26) rfl (by first | exact x_rbe e_z84 g_z84 rfl rfl | exact x_rb g_z84 rfl rfl | exact ⟨by omega, by omega⟩) ⟨by decide, by decide⟩ (fun c85 => ?_) (fun c85 => ?_)
    · skip
      refine x_A k53_26 (fun _ => rfl) ?_
      refine x_istore_n k53_27 (ls' := [(2, vi 0), (0, .ref 177), (1, .ref 2004)]) (by decide) rfl ?_
      refine x_ls (l := [(0, .ref 177), (1, .ref 2004), (2, vi 0)]) (show ([0, 1, 2] : List Nat).Nodup from by decide +kernel) ⟨rfl, rfl, rfl, trivial⟩ ?_
      exact L_C_X6_isWord_177_2004_28 s0   (((5 - 0) + 1 : Int)).toNat s0 0 hG0 f0 ⟨by decide, by decide⟩  (by omega)
    · skip
      refine x_A k53_24 (fun _ => rfl) ?_
      exact x_zret k53_25 rfl ⟨by omega, by omega⟩ ⟨hG0, f0, 0, rfl, ⟨by decide, by decide⟩⟩
theorem L_C_X6_isWord_177_2005_28 (s0 : xS)   : ∀ (n : Nat) (s : xS) (x2 : Int) (hG : GI s) (f : FL [] s0 s) (b_x2 : 0 ≤ x2 ∧ x2 ≤ 6)  (hm : (6 - x2) < (n : Int)), xe none 53 28 [(0, .ref 177), (1, .ref 2005), (2, vi x2)] [] s 0 0 (fun s' v => GI s' ∧ FL [] s0 s' ∧ ∃ z, v = some (vi z) ∧ (0 ≤ z ∧ z ≤ 1)) := by
  intro n
  induction n with
  | zero => intro s x2 hG f b_x2  hm; exfalso; omega
  | succ n ih =>
    intro s x2 hG f b_x2  hm
    refine x_A k53_28 (fun _ => rfl) ?_
    refine x_A k53_29 (fun _ => rfl) ?_
    refine x_callX k53_30 (y := 222) (as := [.ref 2005]) (rest := [vi x2]) (fun _ => rfl) rfl rfl tx_len_4 ?_
    refine x_ic_ge k53_33 (t := 62) rfl (by first | exact x_rb b_x2 rfl rfl | exact ⟨by omega, by omega⟩) ⟨by decide, by decide⟩ (fun c86 => ?_) (fun c86 => ?_)
    · skip
      refine x_A k53_62 (fun _ => rfl) ?_
      exact x_zret k53_63 rfl ⟨by omega, by omega⟩ ⟨hG, f, 1, rfl, ⟨by decide, by decide⟩⟩
    · skip
      refine x_A k53_36 (fun _ => rfl) ?_
      refine x_A k53_37 (fun _ => rfl) ?_
      refine x_getI k53_38 (f := 3) rfl (q := 177) (n := 7) (kd := 7) ⟨by decide, rfl⟩ (by decide) rfl ?_
      refine x_top (fun z87 e_z87 => ?_)
      have g_z87 : (0 : Int) ≤ s 177 3 ∧ s 177 3 ≤ 160 := hG 177 3
      refine x_A k53_41 (fun _ => rfl) ?_
      refine x_iadd k53_42 ?_
      refine x_top (fun z88 e_z88 => ?_)
      refine x_callV k53_43 (y := 49) (n := 1) (w0 := 0) (w1 := 1) (as := [vi z88]) (rest := []) (by decide +kernel) (q := 177) (nq := 7) (kq := 7) ⟨by decide, rfl⟩ rfl rfl rfl rfl (xe_mono (C_X6_byteAt_177 s hG z88 (by first | exact x_rbe e_z88 g_z88 rfl rfl | exact x_rb g_z88 rfl rfl | exact ⟨by omega, by omega⟩)) ?_)
      rintro s90 v ⟨h_s90, z89, rfl, g_z89⟩
      rw [h_s90]
      show xe none 53 46 [(0, .ref 177), (1, .ref 2005), (2, vi x2)] [vi z89] s 0 0 _
      refine x_A k53_46 (fun _ => rfl) ?_
      refine x_A k53_47 (fun _ => rfl) ?_
      obtain ⟨z91, g_z91, x_z91⟩ := tx_char_4 x2 ⟨by omega, by omega⟩
      refine x_callX k53_48 (y := 223) (as := [.ref 2005, vi x2]) (rest := [vi z89]) (fun _ => rfl) rfl rfl x_z91 ?_
      refine x_ic_eq k53_51 (t := 56) rfl (by first | exact x_rbe e_z89 g_z89 rfl rfl | exact x_rb g_z89 rfl rfl | exact ⟨by omega, by omega⟩) (by first | exact x_rbe e_z91 g_z91 rfl rfl | exact x_rb g_z91 rfl rfl | exact ⟨by omega, by omega⟩) (fun c92 => ?_) (fun c92 => ?_)
      · skip
        refine x_iinc k53_56 (ls' := [(2, vi (x2 + 1)), (0, .ref 177), (1, .ref 2005)]) rfl (by decide) rfl ?_
        refine x_goto k53_59 (t := 28) rfl ?_
        refine x_ls (l := [(0, .ref 177), (1, .ref 2005), (2, vi (x2 + 1))]) (show ([0, 1, 2] : List Nat).Nodup from by decide +kernel) ⟨rfl, rfl, rfl, trivial⟩ ?_
        exact ih s (x2 + 1) hG f ⟨by omega, by omega⟩  (by omega)
      · skip
        refine x_A k53_54 (fun _ => rfl) ?_
        exact x_zret k53_55 rfl ⟨by omega, by omega⟩ ⟨hG, f, 0, rfl, ⟨by decide, by decide⟩⟩
theorem C_X6_isWord_177_2005 (s0 : xS) (hG0 : GI s0)  : xe none 53 0 (lv_args 0 [.ref 177, .ref 2005]) [] s0 0 0 (fun s' v => GI s' ∧ FL [] s0 s' ∧ ∃ z, v = some (vi z) ∧ (0 ≤ z ∧ z ≤ 1)) := by
  have f0 : FL [] s0 s0 := FL.rf
  show xe none 53 0 [(0, .ref 177), (1, .ref 2005)] [] s0 0 0 _
  refine x_A k53_0 (fun _ => rfl) ?_
  refine x_getI k53_1 (f := 2) rfl (q := 177) (n := 7) (kd := 7) ⟨by decide, rfl⟩ (by decide) rfl ?_
  refine x_top (fun z93 e_z93 => ?_)
  have g_z93 : (0 : Int) ≤ s0 177 2 ∧ s0 177 2 ≤ 3 := hG0 177 2
  refine x_A k53_4 (fun _ => rfl) ?_
  refine x_ic_ne k53_5 (t := 24) rfl (by first | exact x_rbe e_z93 g_z93 rfl rfl | exact x_rb g_z93 rfl rfl | exact ⟨by omega, by omega⟩) ⟨by decide, by decide⟩ (fun c94 => ?_) (fun c94 => ?_)
  · skip
    refine x_A k53_24 (fun _ => rfl) ?_
    exact x_zret k53_25 rfl ⟨by omega, by omega⟩ ⟨hG0, f0, 0, rfl, ⟨by decide, by decide⟩⟩
  · skip
    refine x_A k53_8 (fun _ => rfl) ?_
    refine x_getI k53_9 (f := 4) rfl (q := 177) (n := 7) (kd := 7) ⟨by decide, rfl⟩ (by decide) rfl ?_
    refine x_top (fun z95 e_z95 => ?_)
    have g_z95 : (0 : Int) ≤ s0 177 4 ∧ s0 177 4 ≤ 160 := hG0 177 4
    refine x_A k53_12 (fun _ => rfl) ?_
    refine x_getI k53_13 (f := 3) rfl (q := 177) (n := 7) (kd := 7) ⟨by decide, rfl⟩ (by decide) rfl ?_
    refine x_top (fun z96 e_z96 => ?_)
    have g_z96 : (0 : Int) ≤ s0 177 3 ∧ s0 177 3 ≤ 160 := hG0 177 3
    refine x_isub k53_16 ?_
    refine x_top (fun z97 e_z97 => ?_)
    refine x_A k53_17 (fun _ => rfl) ?_
    refine x_callX k53_18 (y := 222) (as := [.ref 2005]) (rest := [vi z97]) (fun _ => rfl) rfl rfl tx_len_4 ?_
    refine x_ic_eq k53_21 (t := 26) rfl (by first | exact x_rbe e_z97 g_z97 rfl rfl | exact x_rb g_z97 rfl rfl | exact ⟨by omega, by omega⟩) ⟨by decide, by decide⟩ (fun c98 => ?_) (fun c98 => ?_)
    · skip
      refine x_A k53_26 (fun _ => rfl) ?_
      refine x_istore_n k53_27 (ls' := [(2, vi 0), (0, .ref 177), (1, .ref 2005)]) (by decide) rfl ?_
      refine x_ls (l := [(0, .ref 177), (1, .ref 2005), (2, vi 0)]) (show ([0, 1, 2] : List Nat).Nodup from by decide +kernel) ⟨rfl, rfl, rfl, trivial⟩ ?_
      exact L_C_X6_isWord_177_2005_28 s0   (((6 - 0) + 1 : Int)).toNat s0 0 hG0 f0 ⟨by decide, by decide⟩  (by omega)
    · skip
      refine x_A k53_24 (fun _ => rfl) ?_
      exact x_zret k53_25 rfl ⟨by omega, by omega⟩ ⟨hG0, f0, 0, rfl, ⟨by decide, by decide⟩⟩
theorem L_C_X6_isWord_177_2006_28 (s0 : xS)   : ∀ (n : Nat) (s : xS) (x2 : Int) (hG : GI s) (f : FL [] s0 s) (b_x2 : 0 ≤ x2 ∧ x2 ≤ 2)  (hm : (2 - x2) < (n : Int)), xe none 53 28 [(0, .ref 177), (1, .ref 2006), (2, vi x2)] [] s 0 0 (fun s' v => GI s' ∧ FL [] s0 s' ∧ ∃ z, v = some (vi z) ∧ (0 ≤ z ∧ z ≤ 1)) := by
  intro n
  induction n with
  | zero => intro s x2 hG f b_x2  hm; exfalso; omega
  | succ n ih =>
    intro s x2 hG f b_x2  hm
    refine x_A k53_28 (fun _ => rfl) ?_
    refine x_A k53_29 (fun _ => rfl) ?_
    refine x_callX k53_30 (y := 222) (as := [.ref 2006]) (rest := [vi x2]) (fun _ => rfl) rfl rfl tx_len_5 ?_
    refine x_ic_ge k53_33 (t := 62) rfl (by first | exact x_rb b_x2 rfl rfl | exact ⟨by omega, by omega⟩) ⟨by decide, by decide⟩ (fun c47 => ?_) (fun c47 => ?_)
    · skip
      refine x_A k53_62 (fun _ => rfl) ?_
      exact x_zret k53_63 rfl ⟨by omega, by omega⟩ ⟨hG, f, 1, rfl, ⟨by decide, by decide⟩⟩
    · skip
      refine x_A k53_36 (fun _ => rfl) ?_
      refine x_A k53_37 (fun _ => rfl) ?_
      refine x_getI k53_38 (f := 3) rfl (q := 177) (n := 7) (kd := 7) ⟨by decide, rfl⟩ (by decide) rfl ?_
      refine x_top (fun z48 e_z48 => ?_)
      have g_z48 : (0 : Int) ≤ s 177 3 ∧ s 177 3 ≤ 160 := hG 177 3
      refine x_A k53_41 (fun _ => rfl) ?_
      refine x_iadd k53_42 ?_
      refine x_top (fun z49 e_z49 => ?_)
      refine x_callV k53_43 (y := 49) (n := 1) (w0 := 0) (w1 := 1) (as := [vi z49]) (rest := []) (by decide +kernel) (q := 177) (nq := 7) (kq := 7) ⟨by decide, rfl⟩ rfl rfl rfl rfl (xe_mono (C_X6_byteAt_177 s hG z49 (by first | exact x_rbe e_z49 g_z49 rfl rfl | exact x_rb g_z49 rfl rfl | exact ⟨by omega, by omega⟩)) ?_)
      rintro s51 v ⟨h_s51, z50, rfl, g_z50⟩
      rw [h_s51]
      show xe none 53 46 [(0, .ref 177), (1, .ref 2006), (2, vi x2)] [vi z50] s 0 0 _
      refine x_A k53_46 (fun _ => rfl) ?_
      refine x_A k53_47 (fun _ => rfl) ?_
      obtain ⟨z52, g_z52, x_z52⟩ := tx_char_5 x2 ⟨by omega, by omega⟩
      refine x_callX k53_48 (y := 223) (as := [.ref 2006, vi x2]) (rest := [vi z50]) (fun _ => rfl) rfl rfl x_z52 ?_
      refine x_ic_eq k53_51 (t := 56) rfl (by first | exact x_rbe e_z50 g_z50 rfl rfl | exact x_rb g_z50 rfl rfl | exact ⟨by omega, by omega⟩) (by first | exact x_rbe e_z52 g_z52 rfl rfl | exact x_rb g_z52 rfl rfl | exact ⟨by omega, by omega⟩) (fun c53 => ?_) (fun c53 => ?_)
      · skip
        refine x_iinc k53_56 (ls' := [(2, vi (x2 + 1)), (0, .ref 177), (1, .ref 2006)]) rfl (by decide) rfl ?_
        refine x_goto k53_59 (t := 28) rfl ?_
        refine x_ls (l := [(0, .ref 177), (1, .ref 2006), (2, vi (x2 + 1))]) (show ([0, 1, 2] : List Nat).Nodup from by decide +kernel) ⟨rfl, rfl, rfl, trivial⟩ ?_
        exact ih s (x2 + 1) hG f ⟨by omega, by omega⟩  (by omega)
      · skip
        refine x_A k53_54 (fun _ => rfl) ?_
        exact x_zret k53_55 rfl ⟨by omega, by omega⟩ ⟨hG, f, 0, rfl, ⟨by decide, by decide⟩⟩
theorem C_X6_isWord_177_2006 (s0 : xS) (hG0 : GI s0)  : xe none 53 0 (lv_args 0 [.ref 177, .ref 2006]) [] s0 0 0 (fun s' v => GI s' ∧ FL [] s0 s' ∧ ∃ z, v = some (vi z) ∧ (0 ≤ z ∧ z ≤ 1)) := by
  have f0 : FL [] s0 s0 := FL.rf
  show xe none 53 0 [(0, .ref 177), (1, .ref 2006)] [] s0 0 0 _
  refine x_A k53_0 (fun _ => rfl) ?_
  refine x_getI k53_1 (f := 2) rfl (q := 177) (n := 7) (kd := 7) ⟨by decide, rfl⟩ (by decide) rfl ?_
  refine x_top (fun z54 e_z54 => ?_)
  have g_z54 : (0 : Int) ≤ s0 177 2 ∧ s0 177 2 ≤ 3 := hG0 177 2
  refine x_A k53_4 (fun _ => rfl) ?_
  refine x_ic_ne k53_5 (t := 24) rfl (by first | exact x_rbe e_z54 g_z54 rfl rfl | exact x_rb g_z54 rfl rfl | exact ⟨by omega, by omega⟩) ⟨by decide, by decide⟩ (fun c55 => ?_) (fun c55 => ?_)
  · skip
    refine x_A k53_24 (fun _ => rfl) ?_
    exact x_zret k53_25 rfl ⟨by omega, by omega⟩ ⟨hG0, f0, 0, rfl, ⟨by decide, by decide⟩⟩
  · skip
    refine x_A k53_8 (fun _ => rfl) ?_
    refine x_getI k53_9 (f := 4) rfl (q := 177) (n := 7) (kd := 7) ⟨by decide, rfl⟩ (by decide) rfl ?_
    refine x_top (fun z56 e_z56 => ?_)
    have g_z56 : (0 : Int) ≤ s0 177 4 ∧ s0 177 4 ≤ 160 := hG0 177 4
    refine x_A k53_12 (fun _ => rfl) ?_
    refine x_getI k53_13 (f := 3) rfl (q := 177) (n := 7) (kd := 7) ⟨by decide, rfl⟩ (by decide) rfl ?_
    refine x_top (fun z57 e_z57 => ?_)
    have g_z57 : (0 : Int) ≤ s0 177 3 ∧ s0 177 3 ≤ 160 := hG0 177 3
    refine x_isub k53_16 ?_
    refine x_top (fun z58 e_z58 => ?_)
    refine x_A k53_17 (fun _ => rfl) ?_
    refine x_callX k53_18 (y := 222) (as := [.ref 2006]) (rest := [vi z58]) (fun _ => rfl) rfl rfl tx_len_5 ?_
    refine x_ic_eq k53_21 (t := 26) rfl (by first | exact x_rbe e_z58 g_z58 rfl rfl | exact x_rb g_z58 rfl rfl | exact ⟨by omega, by omega⟩) ⟨by decide, by decide⟩ (fun c59 => ?_) (fun c59 => ?_)
    · skip
      refine x_A k53_26 (fun _ => rfl) ?_
      refine x_istore_n k53_27 (ls' := [(2, vi 0), (0, .ref 177), (1, .ref 2006)]) (by decide) rfl ?_
      refine x_ls (l := [(0, .ref 177), (1, .ref 2006), (2, vi 0)]) (show ([0, 1, 2] : List Nat).Nodup from by decide +kernel) ⟨rfl, rfl, rfl, trivial⟩ ?_
      exact L_C_X6_isWord_177_2006_28 s0   (((2 - 0) + 1 : Int)).toNat s0 0 hG0 f0 ⟨by decide, by decide⟩  (by omega)
    · skip
      refine x_A k53_24 (fun _ => rfl) ?_
      exact x_zret k53_25 rfl ⟨by omega, by omega⟩ ⟨hG0, f0, 0, rfl, ⟨by decide, by decide⟩⟩
theorem L_C_X6_isWord_177_2007_28 (s0 : xS)   : ∀ (n : Nat) (s : xS) (x2 : Int) (hG : GI s) (f : FL [] s0 s) (b_x2 : 0 ≤ x2 ∧ x2 ≤ 3)  (hm : (3 - x2) < (n : Int)), xe none 53 28 [(0, .ref 177), (1, .ref 2007), (2, vi x2)] [] s 0 0 (fun s' v => GI s' ∧ FL [] s0 s' ∧ ∃ z, v = some (vi z) ∧ (0 ≤ z ∧ z ≤ 1)) := by
  intro n
  induction n with
  | zero => intro s x2 hG f b_x2  hm; exfalso; omega
  | succ n ih =>
    intro s x2 hG f b_x2  hm
    refine x_A k53_28 (fun _ => rfl) ?_
    refine x_A k53_29 (fun _ => rfl) ?_
    refine x_callX k53_30 (y := 222) (as := [.ref 2007]) (rest := [vi x2]) (fun _ => rfl) rfl rfl tx_len_6 ?_
    refine x_ic_ge k53_33 (t := 62) rfl (by first | exact x_rb b_x2 rfl rfl | exact ⟨by omega, by omega⟩) ⟨by decide, by decide⟩ (fun c60 => ?_) (fun c60 => ?_)
    · skip
      refine x_A k53_62 (fun _ => rfl) ?_
      exact x_zret k53_63 rfl ⟨by omega, by omega⟩ ⟨hG, f, 1, rfl, ⟨by decide, by decide⟩⟩
    · skip
      refine x_A k53_36 (fun _ => rfl) ?_
      refine x_A k53_37 (fun _ => rfl) ?_
      refine x_getI k53_38 (f := 3) rfl (q := 177) (n := 7) (kd := 7) ⟨by decide, rfl⟩ (by decide) rfl ?_
      refine x_top (fun z61 e_z61 => ?_)
      have g_z61 : (0 : Int) ≤ s 177 3 ∧ s 177 3 ≤ 160 := hG 177 3
      refine x_A k53_41 (fun _ => rfl) ?_
      refine x_iadd k53_42 ?_
      refine x_top (fun z62 e_z62 => ?_)
      refine x_callV k53_43 (y := 49) (n := 1) (w0 := 0) (w1 := 1) (as := [vi z62]) (rest := []) (by decide +kernel) (q := 177) (nq := 7) (kq := 7) ⟨by decide, rfl⟩ rfl rfl rfl rfl (xe_mono (C_X6_byteAt_177 s hG z62 (by first | exact x_rbe e_z62 g_z62 rfl rfl | exact x_rb g_z62 rfl rfl | exact ⟨by omega, by omega⟩)) ?_)
      rintro s64 v ⟨h_s64, z63, rfl, g_z63⟩
      rw [h_s64]
      show xe none 53 46 [(0, .ref 177), (1, .ref 2007), (2, vi x2)] [vi z63] s 0 0 _
      refine x_A k53_46 (fun _ => rfl) ?_
      refine x_A k53_47 (fun _ => rfl) ?_
      obtain ⟨z65, g_z65, x_z65⟩ := tx_char_6 x2 ⟨by omega, by omega⟩
      refine x_callX k53_48 (y := 223) (as := [.ref 2007, vi x2]) (rest := [vi z63]) (fun _ => rfl) rfl rfl x_z65 ?_
      refine x_ic_eq k53_51 (t := 56) rfl (by first | exact x_rbe e_z63 g_z63 rfl rfl | exact x_rb g_z63 rfl rfl | exact ⟨by omega, by omega⟩) (by first | exact x_rbe e_z65 g_z65 rfl rfl | exact x_rb g_z65 rfl rfl | exact ⟨by omega, by omega⟩) (fun c66 => ?_) (fun c66 => ?_)
      · skip
        refine x_iinc k53_56 (ls' := [(2, vi (x2 + 1)), (0, .ref 177), (1, .ref 2007)]) rfl (by decide) rfl ?_
        refine x_goto k53_59 (t := 28) rfl ?_
        refine x_ls (l := [(0, .ref 177), (1, .ref 2007), (2, vi (x2 + 1))]) (show ([0, 1, 2] : List Nat).Nodup from by decide +kernel) ⟨rfl, rfl, rfl, trivial⟩ ?_
        exact ih s (x2 + 1) hG f ⟨by omega, by omega⟩  (by omega)
      · skip
        refine x_A k53_54 (fun _ => rfl) ?_
        exact x_zret k53_55 rfl ⟨by omega, by omega⟩ ⟨hG, f, 0, rfl, ⟨by decide, by decide⟩⟩
theorem C_X6_isWord_177_2007 (s0 : xS) (hG0 : GI s0)  : xe none 53 0 (lv_args 0 [.ref 177, .ref 2007]) [] s0 0 0 (fun s' v => GI s' ∧ FL [] s0 s' ∧ ∃ z, v = some (vi z) ∧ (0 ≤ z ∧ z ≤ 1)) := by
  have f0 : FL [] s0 s0 := FL.rf
  show xe none 53 0 [(0, .ref 177), (1, .ref 2007)] [] s0 0 0 _
  refine x_A k53_0 (fun _ => rfl) ?_
  refine x_getI k53_1 (f := 2) rfl (q := 177) (n := 7) (kd := 7) ⟨by decide, rfl⟩ (by decide) rfl ?_
  refine x_top (fun z67 e_z67 => ?_)
  have g_z67 : (0 : Int) ≤ s0 177 2 ∧ s0 177 2 ≤ 3 := hG0 177 2
  refine x_A k53_4 (fun _ => rfl) ?_
  refine x_ic_ne k53_5 (t := 24) rfl (by first | exact x_rbe e_z67 g_z67 rfl rfl | exact x_rb g_z67 rfl rfl | exact ⟨by omega, by omega⟩) ⟨by decide, by decide⟩ (fun c68 => ?_) (fun c68 => ?_)
  · skip
    refine x_A k53_24 (fun _ => rfl) ?_
    exact x_zret k53_25 rfl ⟨by omega, by omega⟩ ⟨hG0, f0, 0, rfl, ⟨by decide, by decide⟩⟩
  · skip
    refine x_A k53_8 (fun _ => rfl) ?_
    refine x_getI k53_9 (f := 4) rfl (q := 177) (n := 7) (kd := 7) ⟨by decide, rfl⟩ (by decide) rfl ?_
    refine x_top (fun z69 e_z69 => ?_)
    have g_z69 : (0 : Int) ≤ s0 177 4 ∧ s0 177 4 ≤ 160 := hG0 177 4
    refine x_A k53_12 (fun _ => rfl) ?_
    refine x_getI k53_13 (f := 3) rfl (q := 177) (n := 7) (kd := 7) ⟨by decide, rfl⟩ (by decide) rfl ?_
    refine x_top (fun z70 e_z70 => ?_)
    have g_z70 : (0 : Int) ≤ s0 177 3 ∧ s0 177 3 ≤ 160 := hG0 177 3
    refine x_isub k53_16 ?_
    refine x_top (fun z71 e_z71 => ?_)
    refine x_A k53_17 (fun _ => rfl) ?_
    refine x_callX k53_18 (y := 222) (as := [.ref 2007]) (rest := [vi z71]) (fun _ => rfl) rfl rfl tx_len_6 ?_
    refine x_ic_eq k53_21 (t := 26) rfl (by first | exact x_rbe e_z71 g_z71 rfl rfl | exact x_rb g_z71 rfl rfl | exact ⟨by omega, by omega⟩) ⟨by decide, by decide⟩ (fun c72 => ?_) (fun c72 => ?_)
    · skip
      refine x_A k53_26 (fun _ => rfl) ?_
      refine x_istore_n k53_27 (ls' := [(2, vi 0), (0, .ref 177), (1, .ref 2007)]) (by decide) rfl ?_
      refine x_ls (l := [(0, .ref 177), (1, .ref 2007), (2, vi 0)]) (show ([0, 1, 2] : List Nat).Nodup from by decide +kernel) ⟨rfl, rfl, rfl, trivial⟩ ?_
      exact L_C_X6_isWord_177_2007_28 s0   (((3 - 0) + 1 : Int)).toNat s0 0 hG0 f0 ⟨by decide, by decide⟩  (by omega)
    · skip
      refine x_A k53_24 (fun _ => rfl) ?_
      exact x_zret k53_25 rfl ⟨by omega, by omega⟩ ⟨hG0, f0, 0, rfl, ⟨by decide, by decide⟩⟩
theorem L_C_X6_isWord_177_2008_28 (s0 : xS)   : ∀ (n : Nat) (s : xS) (x2 : Int) (hG : GI s) (f : FL [] s0 s) (b_x2 : 0 ≤ x2 ∧ x2 ≤ 2)  (hm : (2 - x2) < (n : Int)), xe none 53 28 [(0, .ref 177), (1, .ref 2008), (2, vi x2)] [] s 0 0 (fun s' v => GI s' ∧ FL [] s0 s' ∧ ∃ z, v = some (vi z) ∧ (0 ≤ z ∧ z ≤ 1)) := by
  intro n
  induction n with
  | zero => intro s x2 hG f b_x2  hm; exfalso; omega
  | succ n ih =>
    intro s x2 hG f b_x2  hm
    refine x_A k53_28 (fun _ => rfl) ?_
    refine x_A k53_29 (fun _ => rfl) ?_
    refine x_callX k53_30 (y := 222) (as := [.ref 2008]) (rest := [vi x2]) (fun _ => rfl) rfl rfl tx_len_7 ?_
    refine x_ic_ge k53_33 (t := 62) rfl (by first | exact x_rb b_x2 rfl rfl | exact ⟨by omega, by omega⟩) ⟨by decide, by decide⟩ (fun c47 => ?_) (fun c47 => ?_)
    · skip
      refine x_A k53_62 (fun _ => rfl) ?_
      exact x_zret k53_63 rfl ⟨by omega, by omega⟩ ⟨hG, f, 1, rfl, ⟨by decide, by decide⟩⟩
    · skip
      refine x_A k53_36 (fun _ => rfl) ?_
      refine x_A k53_37 (fun _ => rfl) ?_
      refine x_getI k53_38 (f := 3) rfl (q := 177) (n := 7) (kd := 7) ⟨by decide, rfl⟩ (by decide) rfl ?_
      refine x_top (fun z48 e_z48 => ?_)
      have g_z48 : (0 : Int) ≤ s 177 3 ∧ s 177 3 ≤ 160 := hG 177 3
      refine x_A k53_41 (fun _ => rfl) ?_
      refine x_iadd k53_42 ?_
      refine x_top (fun z49 e_z49 => ?_)
      refine x_callV k53_43 (y := 49) (n := 1) (w0 := 0) (w1 := 1) (as := [vi z49]) (rest := []) (by decide +kernel) (q := 177) (nq := 7) (kq := 7) ⟨by decide, rfl⟩ rfl rfl rfl rfl (xe_mono (C_X6_byteAt_177 s hG z49 (by first | exact x_rbe e_z49 g_z49 rfl rfl | exact x_rb g_z49 rfl rfl | exact ⟨by omega, by omega⟩)) ?_)
      rintro s51 v ⟨h_s51, z50, rfl, g_z50⟩
      rw [h_s51]
      show xe none 53 46 [(0, .ref 177), (1, .ref 2008), (2, vi x2)] [vi z50] s 0 0 _
      refine x_A k53_46 (fun _ => rfl) ?_
      refine x_A k53_47 (fun _ => rfl) ?_
      obtain ⟨z52, g_z52, x_z52⟩ := tx_char_7 x2 ⟨by omega, by omega⟩
      refine x_callX k53_48 (y := 223) (as := [.ref 2008, vi x2]) (rest := [vi z50]) (fun _ => rfl) rfl rfl x_z52 ?_
      refine x_ic_eq k53_51 (t := 56) rfl (by first | exact x_rbe e_z50 g_z50 rfl rfl | exact x_rb g_z50 rfl rfl | exact ⟨by omega, by omega⟩) (by first | exact x_rbe e_z52 g_z52 rfl rfl | exact x_rb g_z52 rfl rfl | exact ⟨by omega, by omega⟩) (fun c53 => ?_) (fun c53 => ?_)
      · skip
        refine x_iinc k53_56 (ls' := [(2, vi (x2 + 1)), (0, .ref 177), (1, .ref 2008)]) rfl (by decide) rfl ?_
        refine x_goto k53_59 (t := 28) rfl ?_
        refine x_ls (l := [(0, .ref 177), (1, .ref 2008), (2, vi (x2 + 1))]) (show ([0, 1, 2] : List Nat).Nodup from by decide +kernel) ⟨rfl, rfl, rfl, trivial⟩ ?_
        exact ih s (x2 + 1) hG f ⟨by omega, by omega⟩  (by omega)
      · skip
        refine x_A k53_54 (fun _ => rfl) ?_
        exact x_zret k53_55 rfl ⟨by omega, by omega⟩ ⟨hG, f, 0, rfl, ⟨by decide, by decide⟩⟩
theorem C_X6_isWord_177_2008 (s0 : xS) (hG0 : GI s0)  : xe none 53 0 (lv_args 0 [.ref 177, .ref 2008]) [] s0 0 0 (fun s' v => GI s' ∧ FL [] s0 s' ∧ ∃ z, v = some (vi z) ∧ (0 ≤ z ∧ z ≤ 1)) := by
  have f0 : FL [] s0 s0 := FL.rf
  show xe none 53 0 [(0, .ref 177), (1, .ref 2008)] [] s0 0 0 _
  refine x_A k53_0 (fun _ => rfl) ?_
  refine x_getI k53_1 (f := 2) rfl (q := 177) (n := 7) (kd := 7) ⟨by decide, rfl⟩ (by decide) rfl ?_
  refine x_top (fun z54 e_z54 => ?_)
  have g_z54 : (0 : Int) ≤ s0 177 2 ∧ s0 177 2 ≤ 3 := hG0 177 2
  refine x_A k53_4 (fun _ => rfl) ?_
  refine x_ic_ne k53_5 (t := 24) rfl (by first | exact x_rbe e_z54 g_z54 rfl rfl | exact x_rb g_z54 rfl rfl | exact ⟨by omega, by omega⟩) ⟨by decide, by decide⟩ (fun c55 => ?_) (fun c55 => ?_)
  · skip
    refine x_A k53_24 (fun _ => rfl) ?_
    exact x_zret k53_25 rfl ⟨by omega, by omega⟩ ⟨hG0, f0, 0, rfl, ⟨by decide, by decide⟩⟩
  · skip
    refine x_A k53_8 (fun _ => rfl) ?_
    refine x_getI k53_9 (f := 4) rfl (q := 177) (n := 7) (kd := 7) ⟨by decide, rfl⟩ (by decide) rfl ?_
    refine x_top (fun z56 e_z56 => ?_)
    have g_z56 : (0 : Int) ≤ s0 177 4 ∧ s0 177 4 ≤ 160 := hG0 177 4
    refine x_A k53_12 (fun _ => rfl) ?_
    refine x_getI k53_13 (f := 3) rfl (q := 177) (n := 7) (kd := 7) ⟨by decide, rfl⟩ (by decide) rfl ?_
    refine x_top (fun z57 e_z57 => ?_)
    have g_z57 : (0 : Int) ≤ s0 177 3 ∧ s0 177 3 ≤ 160 := hG0 177 3
    refine x_isub k53_16 ?_
    refine x_top (fun z58 e_z58 => ?_)
    refine x_A k53_17 (fun _ => rfl) ?_
    refine x_callX k53_18 (y := 222) (as := [.ref 2008]) (rest := [vi z58]) (fun _ => rfl) rfl rfl tx_len_7 ?_
    refine x_ic_eq k53_21 (t := 26) rfl (by first | exact x_rbe e_z58 g_z58 rfl rfl | exact x_rb g_z58 rfl rfl | exact ⟨by omega, by omega⟩) ⟨by decide, by decide⟩ (fun c59 => ?_) (fun c59 => ?_)
    · skip
      refine x_A k53_26 (fun _ => rfl) ?_
      refine x_istore_n k53_27 (ls' := [(2, vi 0), (0, .ref 177), (1, .ref 2008)]) (by decide) rfl ?_
      refine x_ls (l := [(0, .ref 177), (1, .ref 2008), (2, vi 0)]) (show ([0, 1, 2] : List Nat).Nodup from by decide +kernel) ⟨rfl, rfl, rfl, trivial⟩ ?_
      exact L_C_X6_isWord_177_2008_28 s0   (((2 - 0) + 1 : Int)).toNat s0 0 hG0 f0 ⟨by decide, by decide⟩  (by omega)
    · skip
      refine x_A k53_24 (fun _ => rfl) ?_
      exact x_zret k53_25 rfl ⟨by omega, by omega⟩ ⟨hG0, f0, 0, rfl, ⟨by decide, by decide⟩⟩
theorem L_C_X6_isWord_177_2009_28 (s0 : xS)   : ∀ (n : Nat) (s : xS) (x2 : Int) (hG : GI s) (f : FL [] s0 s) (b_x2 : 0 ≤ x2 ∧ x2 ≤ 3)  (hm : (3 - x2) < (n : Int)), xe none 53 28 [(0, .ref 177), (1, .ref 2009), (2, vi x2)] [] s 0 0 (fun s' v => GI s' ∧ FL [] s0 s' ∧ ∃ z, v = some (vi z) ∧ (0 ≤ z ∧ z ≤ 1)) := by
  intro n
  induction n with
  | zero => intro s x2 hG f b_x2  hm; exfalso; omega
  | succ n ih =>
    intro s x2 hG f b_x2  hm
    refine x_A k53_28 (fun _ => rfl) ?_
    refine x_A k53_29 (fun _ => rfl) ?_
    refine x_callX k53_30 (y := 222) (as := [.ref 2009]) (rest := [vi x2]) (fun _ => rfl) rfl rfl tx_len_8 ?_
    refine x_ic_ge k53_33 (t := 62) rfl (by first | exact x_rb b_x2 rfl rfl | exact ⟨by omega, by omega⟩) ⟨by decide, by decide⟩ (fun c60 => ?_) (fun c60 => ?_)
    · skip
      refine x_A k53_62 (fun _ => rfl) ?_
      exact x_zret k53_63 rfl ⟨by omega, by omega⟩ ⟨hG, f, 1, rfl, ⟨by decide, by decide⟩⟩
    · skip
      refine x_A k53_36 (fun _ => rfl) ?_
      refine x_A k53_37 (fun _ => rfl) ?_
      refine x_getI k53_38 (f := 3) rfl (q := 177) (n := 7) (kd := 7) ⟨by decide, rfl⟩ (by decide) rfl ?_
      refine x_top (fun z61 e_z61 => ?_)
      have g_z61 : (0 : Int) ≤ s 177 3 ∧ s 177 3 ≤ 160 := hG 177 3
      refine x_A k53_41 (fun _ => rfl) ?_
      refine x_iadd k53_42 ?_
      refine x_top (fun z62 e_z62 => ?_)
      refine x_callV k53_43 (y := 49) (n := 1) (w0 := 0) (w1 := 1) (as := [vi z62]) (rest := []) (by decide +kernel) (q := 177) (nq := 7) (kq := 7) ⟨by decide, rfl⟩ rfl rfl rfl rfl (xe_mono (C_X6_byteAt_177 s hG z62 (by first | exact x_rbe e_z62 g_z62 rfl rfl | exact x_rb g_z62 rfl rfl | exact ⟨by omega, by omega⟩)) ?_)
      rintro s64 v ⟨h_s64, z63, rfl, g_z63⟩
      rw [h_s64]
      show xe none 53 46 [(0, .ref 177), (1, .ref 2009), (2, vi x2)] [vi z63] s 0 0 _
      refine x_A k53_46 (fun _ => rfl) ?_
      refine x_A k53_47 (fun _ => rfl) ?_
      obtain ⟨z65, g_z65, x_z65⟩ := tx_char_8 x2 ⟨by omega, by omega⟩
      refine x_callX k53_48 (y := 223) (as := [.ref 2009, vi x2]) (rest := [vi z63]) (fun _ => rfl) rfl rfl x_z65 ?_
      refine x_ic_eq k53_51 (t := 56) rfl (by first | exact x_rbe e_z63 g_z63 rfl rfl | exact x_rb g_z63 rfl rfl | exact ⟨by omega, by omega⟩) (by first | exact x_rbe e_z65 g_z65 rfl rfl | exact x_rb g_z65 rfl rfl | exact ⟨by omega, by omega⟩) (fun c66 => ?_) (fun c66 => ?_)
      · skip
        refine x_iinc k53_56 (ls' := [(2, vi (x2 + 1)), (0, .ref 177), (1, .ref 2009)]) rfl (by decide) rfl ?_
        refine x_goto k53_59 (t := 28) rfl ?_
        refine x_ls (l := [(0, .ref 177), (1, .ref 2009), (2, vi (x2 + 1))]) (show ([0, 1, 2] : List Nat).Nodup from by decide +kernel) ⟨rfl, rfl, rfl, trivial⟩ ?_
        exact ih s (x2 + 1) hG f ⟨by omega, by omega⟩  (by omega)
      · skip
        refine x_A k53_54 (fun _ => rfl) ?_
        exact x_zret k53_55 rfl ⟨by omega, by omega⟩ ⟨hG, f, 0, rfl, ⟨by decide, by decide⟩⟩
theorem C_X6_isWord_177_2009 (s0 : xS) (hG0 : GI s0)  : xe none 53 0 (lv_args 0 [.ref 177, .ref 2009]) [] s0 0 0 (fun s' v => GI s' ∧ FL [] s0 s' ∧ ∃ z, v = some (vi z) ∧ (0 ≤ z ∧ z ≤ 1)) := by
  have f0 : FL [] s0 s0 := FL.rf
  show xe none 53 0 [(0, .ref 177), (1, .ref 2009)] [] s0 0 0 _
  refine x_A k53_0 (fun _ => rfl) ?_
  refine x_getI k53_1 (f := 2) rfl (q := 177) (n := 7) (kd := 7) ⟨by decide, rfl⟩ (by decide) rfl ?_
  refine x_top (fun z67 e_z67 => ?_)
  have g_z67 : (0 : Int) ≤ s0 177 2 ∧ s0 177 2 ≤ 3 := hG0 177 2
  refine x_A k53_4 (fun _ => rfl) ?_
  refine x_ic_ne k53_5 (t := 24) rfl (by first | exact x_rbe e_z67 g_z67 rfl rfl | exact x_rb g_z67 rfl rfl | exact ⟨by omega, by omega⟩) ⟨by decide, by decide⟩ (fun c68 => ?_) (fun c68 => ?_)
  · skip
    refine x_A k53_24 (fun _ => rfl) ?_
    exact x_zret k53_25 rfl ⟨by omega, by omega⟩ ⟨hG0, f0, 0, rfl, ⟨by decide, by decide⟩⟩
  · skip
    refine x_A k53_8 (fun _ => rfl) ?_
    refine x_getI k53_9 (f := 4) rfl (q := 177) (n := 7) (kd := 7) ⟨by decide, rfl⟩ (by decide) rfl ?_
    refine x_top (fun z69 e_z69 => ?_)
    have g_z69 : (0 : Int) ≤ s0 177 4 ∧ s0 177 4 ≤ 160 := hG0 177 4
    refine x_A k53_12 (fun _ => rfl) ?_
    refine x_getI k53_13 (f := 3) rfl (q := 177) (n := 7) (kd := 7) ⟨by decide, rfl⟩ (by decide) rfl ?_
    refine x_top (fun z70 e_z70 => ?_)
    have g_z70 : (0 : Int) ≤ s0 177 3 ∧ s0 177 3 ≤ 160 := hG0 177 3
    refine x_isub k53_16 ?_
    refine x_top (fun z71 e_z71 => ?_)
    refine x_A k53_17 (fun _ => rfl) ?_
    refine x_callX k53_18 (y := 222) (as := [.ref 2009]) (rest := [vi z71]) (fun _ => rfl) rfl rfl tx_len_8 ?_
    refine x_ic_eq k53_21 (t := 26) rfl (by first | exact x_rbe e_z71 g_z71 rfl rfl | exact x_rb g_z71 rfl rfl | exact ⟨by omega, by omega⟩) ⟨by decide, by decide⟩ (fun c72 => ?_) (fun c72 => ?_)
    · skip
      refine x_A k53_26 (fun _ => rfl) ?_
      refine x_istore_n k53_27 (ls' := [(2, vi 0), (0, .ref 177), (1, .ref 2009)]) (by decide) rfl ?_
      refine x_ls (l := [(0, .ref 177), (1, .ref 2009), (2, vi 0)]) (show ([0, 1, 2] : List Nat).Nodup from by decide +kernel) ⟨rfl, rfl, rfl, trivial⟩ ?_
      exact L_C_X6_isWord_177_2009_28 s0   (((3 - 0) + 1 : Int)).toNat s0 0 hG0 f0 ⟨by decide, by decide⟩  (by omega)
    · skip
      refine x_A k53_24 (fun _ => rfl) ?_
      exact x_zret k53_25 rfl ⟨by omega, by omega⟩ ⟨hG0, f0, 0, rfl, ⟨by decide, by decide⟩⟩
theorem L_C_X6_isWord_177_2010_28 (s0 : xS)   : ∀ (n : Nat) (s : xS) (x2 : Int) (hG : GI s) (f : FL [] s0 s) (b_x2 : 0 ≤ x2 ∧ x2 ≤ 5)  (hm : (5 - x2) < (n : Int)), xe none 53 28 [(0, .ref 177), (1, .ref 2010), (2, vi x2)] [] s 0 0 (fun s' v => GI s' ∧ FL [] s0 s' ∧ ∃ z, v = some (vi z) ∧ (0 ≤ z ∧ z ≤ 1)) := by
  intro n
  induction n with
  | zero => intro s x2 hG f b_x2  hm; exfalso; omega
  | succ n ih =>
    intro s x2 hG f b_x2  hm
    refine x_A k53_28 (fun _ => rfl) ?_
    refine x_A k53_29 (fun _ => rfl) ?_
    refine x_callX k53_30 (y := 222) (as := [.ref 2010]) (rest := [vi x2]) (fun _ => rfl) rfl rfl tx_len_9 ?_
    refine x_ic_ge k53_33 (t := 62) rfl (by first | exact x_rb b_x2 rfl rfl | exact ⟨by omega, by omega⟩) ⟨by decide, by decide⟩ (fun c73 => ?_) (fun c73 => ?_)
    · skip
      refine x_A k53_62 (fun _ => rfl) ?_
      exact x_zret k53_63 rfl ⟨by omega, by omega⟩ ⟨hG, f, 1, rfl, ⟨by decide, by decide⟩⟩
    · skip
      refine x_A k53_36 (fun _ => rfl) ?_
      refine x_A k53_37 (fun _ => rfl) ?_
      refine x_getI k53_38 (f := 3) rfl (q := 177) (n := 7) (kd := 7) ⟨by decide, rfl⟩ (by decide) rfl ?_
      refine x_top (fun z74 e_z74 => ?_)
      have g_z74 : (0 : Int) ≤ s 177 3 ∧ s 177 3 ≤ 160 := hG 177 3
      refine x_A k53_41 (fun _ => rfl) ?_
      refine x_iadd k53_42 ?_
      refine x_top (fun z75 e_z75 => ?_)
      refine x_callV k53_43 (y := 49) (n := 1) (w0 := 0) (w1 := 1) (as := [vi z75]) (rest := []) (by decide +kernel) (q := 177) (nq := 7) (kq := 7) ⟨by decide, rfl⟩ rfl rfl rfl rfl (xe_mono (C_X6_byteAt_177 s hG z75 (by first | exact x_rbe e_z75 g_z75 rfl rfl | exact x_rb g_z75 rfl rfl | exact ⟨by omega, by omega⟩)) ?_)
      rintro s77 v ⟨h_s77, z76, rfl, g_z76⟩
      rw [h_s77]
      show xe none 53 46 [(0, .ref 177), (1, .ref 2010), (2, vi x2)] [vi z76] s 0 0 _
      refine x_A k53_46 (fun _ => rfl) ?_
      refine x_A k53_47 (fun _ => rfl) ?_
      obtain ⟨z78, g_z78, x_z78⟩ := tx_char_9 x2 ⟨by omega, by omega⟩
      refine x_callX k53_48 (y := 223) (as := [.ref 2010, vi x2]) (rest := [vi z76]) (fun _ => rfl) rfl rfl x_z78 ?_
      refine x_ic_eq k53_51 (t := 56) rfl (by first | exact x_rbe e_z76 g_z76 rfl rfl | exact x_rb g_z76 rfl rfl | exact ⟨by omega, by omega⟩) (by first | exact x_rbe e_z78 g_z78 rfl rfl | exact x_rb g_z78 rfl rfl | exact ⟨by omega, by omega⟩) (fun c79 => ?_) (fun c79 => ?_)
      · skip
        refine x_iinc k53_56 (ls' := [(2, vi (x2 + 1)), (0, .ref 177), (1, .ref 2010)]) rfl (by decide) rfl ?_
        refine x_goto k53_59 (t := 28) rfl ?_
        refine x_ls (l := [(0, .ref 177), (1, .ref 2010), (2, vi (x2 + 1))]) (show ([0, 1, 2] : List Nat).Nodup from by decide +kernel) ⟨rfl, rfl, rfl, trivial⟩ ?_
        exact ih s (x2 + 1) hG f ⟨by omega, by omega⟩  (by omega)
      · skip
        refine x_A k53_54 (fun _ => rfl) ?_
        exact x_zret k53_55 rfl ⟨by omega, by omega⟩ ⟨hG, f, 0, rfl, ⟨by decide, by decide⟩⟩
theorem C_X6_isWord_177_2010 (s0 : xS) (hG0 : GI s0)  : xe none 53 0 (lv_args 0 [.ref 177, .ref 2010]) [] s0 0 0 (fun s' v => GI s' ∧ FL [] s0 s' ∧ ∃ z, v = some (vi z) ∧ (0 ≤ z ∧ z ≤ 1)) := by
  have f0 : FL [] s0 s0 := FL.rf
  show xe none 53 0 [(0, .ref 177), (1, .ref 2010)] [] s0 0 0 _
  refine x_A k53_0 (fun _ => rfl) ?_
  refine x_getI k53_1 (f := 2) rfl (q := 177) (n := 7) (kd := 7) ⟨by decide, rfl⟩ (by decide) rfl ?_
  refine x_top (fun z80 e_z80 => ?_)
  have g_z80 : (0 : Int) ≤ s0 177 2 ∧ s0 177 2 ≤ 3 := hG0 177 2
  refine x_A k53_4 (fun _ => rfl) ?_
  refine x_ic_ne k53_5 (t := 24) rfl (by first | exact x_rbe e_z80 g_z80 rfl rfl | exact x_rb g_z80 rfl rfl | exact ⟨by omega, by omega⟩) ⟨by decide, by decide⟩ (fun c81 => ?_) (fun c81 => ?_)
  · skip
    refine x_A k53_24 (fun _ => rfl) ?_
    exact x_zret k53_25 rfl ⟨by omega, by omega⟩ ⟨hG0, f0, 0, rfl, ⟨by decide, by decide⟩⟩
  · skip
    refine x_A k53_8 (fun _ => rfl) ?_
    refine x_getI k53_9 (f := 4) rfl (q := 177) (n := 7) (kd := 7) ⟨by decide, rfl⟩ (by decide) rfl ?_
    refine x_top (fun z82 e_z82 => ?_)
    have g_z82 : (0 : Int) ≤ s0 177 4 ∧ s0 177 4 ≤ 160 := hG0 177 4
    refine x_A k53_12 (fun _ => rfl) ?_
    refine x_getI k53_13 (f := 3) rfl (q := 177) (n := 7) (kd := 7) ⟨by decide, rfl⟩ (by decide) rfl ?_
    refine x_top (fun z83 e_z83 => ?_)
    have g_z83 : (0 : Int) ≤ s0 177 3 ∧ s0 177 3 ≤ 160 := hG0 177 3
    refine x_isub k53_16 ?_
    refine x_top (fun z84 e_z84 => ?_)
    refine x_A k53_17 (fun _ => rfl) ?_
    refine x_callX k53_18 (y := 222) (as := [.ref 2010]) (rest := [vi z84]) (fun _ => rfl) rfl rfl tx_len_9 ?_
    refine x_ic_eq k53_21 (t := 26) rfl (by first | exact x_rbe e_z84 g_z84 rfl rfl | exact x_rb g_z84 rfl rfl | exact ⟨by omega, by omega⟩) ⟨by decide, by decide⟩ (fun c85 => ?_) (fun c85 => ?_)
    · skip
      refine x_A k53_26 (fun _ => rfl) ?_
      refine x_istore_n k53_27 (ls' := [(2, vi 0), (0, .ref 177), (1, .ref 2010)]) (by decide) rfl ?_
      refine x_ls (l := [(0, .ref 177), (1, .ref 2010), (2, vi 0)]) (show ([0, 1, 2] : List Nat).Nodup from by decide +kernel) ⟨rfl, rfl, rfl, trivial⟩ ?_
      exact L_C_X6_isWord_177_2010_28 s0   (((5 - 0) + 1 : Int)).toNat s0 0 hG0 f0 ⟨by decide, by decide⟩  (by omega)
    · skip
      refine x_A k53_24 (fun _ => rfl) ?_
      exact x_zret k53_25 rfl ⟨by omega, by omega⟩ ⟨hG0, f0, 0, rfl, ⟨by decide, by decide⟩⟩
theorem L_C_X6_isWord_177_2011_28 (s0 : xS)   : ∀ (n : Nat) (s : xS) (x2 : Int) (hG : GI s) (f : FL [] s0 s) (b_x2 : 0 ≤ x2 ∧ x2 ≤ 3)  (hm : (3 - x2) < (n : Int)), xe none 53 28 [(0, .ref 177), (1, .ref 2011), (2, vi x2)] [] s 0 0 (fun s' v => GI s' ∧ FL [] s0 s' ∧ ∃ z, v = some (vi z) ∧ (0 ≤ z ∧ z ≤ 1)) := by
  intro n
  induction n with
  | zero => intro s x2 hG f b_x2  hm; exfalso; omega
  | succ n ih =>
    intro s x2 hG f b_x2  hm
    refine x_A k53_28 (fun _ => rfl) ?_
    refine x_A k53_29 (fun _ => rfl) ?_
    refine x_callX k53_30 (y := 222) (as := [.ref 2011]) (rest := [vi x2]) (fun _ => rfl) rfl rfl tx_len_10 ?_
    refine x_ic_ge k53_33 (t := 62) rfl (by first | exact x_rb b_x2 rfl rfl | exact ⟨by omega, by omega⟩) ⟨by decide, by decide⟩ (fun c60 => ?_) (fun c60 => ?_)
    · skip
      refine x_A k53_62 (fun _ => rfl) ?_
      exact x_zret k53_63 rfl ⟨by omega, by omega⟩ ⟨hG, f, 1, rfl, ⟨by decide, by decide⟩⟩
    · skip
      refine x_A k53_36 (fun _ => rfl) ?_
      refine x_A k53_37 (fun _ => rfl) ?_
      refine x_getI k53_38 (f := 3) rfl (q := 177) (n := 7) (kd := 7) ⟨by decide, rfl⟩ (by decide) rfl ?_
      refine x_top (fun z61 e_z61 => ?_)
      have g_z61 : (0 : Int) ≤ s 177 3 ∧ s 177 3 ≤ 160 := hG 177 3
      refine x_A k53_41 (fun _ => rfl) ?_
      refine x_iadd k53_42 ?_
      refine x_top (fun z62 e_z62 => ?_)
      refine x_callV k53_43 (y := 49) (n := 1) (w0 := 0) (w1 := 1) (as := [vi z62]) (rest := []) (by decide +kernel) (q := 177) (nq := 7) (kq := 7) ⟨by decide, rfl⟩ rfl rfl rfl rfl (xe_mono (C_X6_byteAt_177 s hG z62 (by first | exact x_rbe e_z62 g_z62 rfl rfl | exact x_rb g_z62 rfl rfl | exact ⟨by omega, by omega⟩)) ?_)
      rintro s64 v ⟨h_s64, z63, rfl, g_z63⟩
      rw [h_s64]
      show xe none 53 46 [(0, .ref 177), (1, .ref 2011), (2, vi x2)] [vi z63] s 0 0 _
      refine x_A k53_46 (fun _ => rfl) ?_
      refine x_A k53_47 (fun _ => rfl) ?_
      obtain ⟨z65, g_z65, x_z65⟩ := tx_char_10 x2 ⟨by omega, by omega⟩
      refine x_callX k53_48 (y := 223) (as := [.ref 2011, vi x2]) (rest := [vi z63]) (fun _ => rfl) rfl rfl x_z65 ?_
      refine x_ic_eq k53_51 (t := 56) rfl (by first | exact x_rbe e_z63 g_z63 rfl rfl | exact x_rb g_z63 rfl rfl | exact ⟨by omega, by omega⟩) (by first | exact x_rbe e_z65 g_z65 rfl rfl | exact x_rb g_z65 rfl rfl | exact ⟨by omega, by omega⟩) (fun c66 => ?_) (fun c66 => ?_)
      · skip
        refine x_iinc k53_56 (ls' := [(2, vi (x2 + 1)), (0, .ref 177), (1, .ref 2011)]) rfl (by decide) rfl ?_
        refine x_goto k53_59 (t := 28) rfl ?_
        refine x_ls (l := [(0, .ref 177), (1, .ref 2011), (2, vi (x2 + 1))]) (show ([0, 1, 2] : List Nat).Nodup from by decide +kernel) ⟨rfl, rfl, rfl, trivial⟩ ?_
        exact ih s (x2 + 1) hG f ⟨by omega, by omega⟩  (by omega)
      · skip
        refine x_A k53_54 (fun _ => rfl) ?_
        exact x_zret k53_55 rfl ⟨by omega, by omega⟩ ⟨hG, f, 0, rfl, ⟨by decide, by decide⟩⟩
theorem C_X6_isWord_177_2011 (s0 : xS) (hG0 : GI s0)  : xe none 53 0 (lv_args 0 [.ref 177, .ref 2011]) [] s0 0 0 (fun s' v => GI s' ∧ FL [] s0 s' ∧ ∃ z, v = some (vi z) ∧ (0 ≤ z ∧ z ≤ 1)) := by
  have f0 : FL [] s0 s0 := FL.rf
  show xe none 53 0 [(0, .ref 177), (1, .ref 2011)] [] s0 0 0 _
  refine x_A k53_0 (fun _ => rfl) ?_
  refine x_getI k53_1 (f := 2) rfl (q := 177) (n := 7) (kd := 7) ⟨by decide, rfl⟩ (by decide) rfl ?_
  refine x_top (fun z67 e_z67 => ?_)
  have g_z67 : (0 : Int) ≤ s0 177 2 ∧ s0 177 2 ≤ 3 := hG0 177 2
  refine x_A k53_4 (fun _ => rfl) ?_
  refine x_ic_ne k53_5 (t := 24) rfl (by first | exact x_rbe e_z67 g_z67 rfl rfl | exact x_rb g_z67 rfl rfl | exact ⟨by omega, by omega⟩) ⟨by decide, by decide⟩ (fun c68 => ?_) (fun c68 => ?_)
  · skip
    refine x_A k53_24 (fun _ => rfl) ?_
    exact x_zret k53_25 rfl ⟨by omega, by omega⟩ ⟨hG0, f0, 0, rfl, ⟨by decide, by decide⟩⟩
  · skip
    refine x_A k53_8 (fun _ => rfl) ?_
    refine x_getI k53_9 (f := 4) rfl (q := 177) (n := 7) (kd := 7) ⟨by decide, rfl⟩ (by decide) rfl ?_
    refine x_top (fun z69 e_z69 => ?_)
    have g_z69 : (0 : Int) ≤ s0 177 4 ∧ s0 177 4 ≤ 160 := hG0 177 4
    refine x_A k53_12 (fun _ => rfl) ?_
    refine x_getI k53_13 (f := 3) rfl (q := 177) (n := 7) (kd := 7) ⟨by decide, rfl⟩ (by decide) rfl ?_
    refine x_top (fun z70 e_z70 => ?_)
    have g_z70 : (0 : Int) ≤ s0 177 3 ∧ s0 177 3 ≤ 160 := hG0 177 3
    refine x_isub k53_16 ?_
    refine x_top (fun z71 e_z71 => ?_)
    refine x_A k53_17 (fun _ => rfl) ?_
    refine x_callX k53_18 (y := 222) (as := [.ref 2011]) (rest := [vi z71]) (fun _ => rfl) rfl rfl tx_len_10 ?_
    refine x_ic_eq k53_21 (t := 26) rfl (by first | exact x_rbe e_z71 g_z71 rfl rfl | exact x_rb g_z71 rfl rfl | exact ⟨by omega, by omega⟩) ⟨by decide, by decide⟩ (fun c72 => ?_) (fun c72 => ?_)
    · skip
      refine x_A k53_26 (fun _ => rfl) ?_
      refine x_istore_n k53_27 (ls' := [(2, vi 0), (0, .ref 177), (1, .ref 2011)]) (by decide) rfl ?_
      refine x_ls (l := [(0, .ref 177), (1, .ref 2011), (2, vi 0)]) (show ([0, 1, 2] : List Nat).Nodup from by decide +kernel) ⟨rfl, rfl, rfl, trivial⟩ ?_
      exact L_C_X6_isWord_177_2011_28 s0   (((3 - 0) + 1 : Int)).toNat s0 0 hG0 f0 ⟨by decide, by decide⟩  (by omega)
    · skip
      refine x_A k53_24 (fun _ => rfl) ?_
      exact x_zret k53_25 rfl ⟨by omega, by omega⟩ ⟨hG0, f0, 0, rfl, ⟨by decide, by decide⟩⟩
theorem L_C_X6_isWord_177_2012_28 (s0 : xS)   : ∀ (n : Nat) (s : xS) (x2 : Int) (hG : GI s) (f : FL [] s0 s) (b_x2 : 0 ≤ x2 ∧ x2 ≤ 5)  (hm : (5 - x2) < (n : Int)), xe none 53 28 [(0, .ref 177), (1, .ref 2012), (2, vi x2)] [] s 0 0 (fun s' v => GI s' ∧ FL [] s0 s' ∧ ∃ z, v = some (vi z) ∧ (0 ≤ z ∧ z ≤ 1)) := by
  intro n
  induction n with
  | zero => intro s x2 hG f b_x2  hm; exfalso; omega
  | succ n ih =>
    intro s x2 hG f b_x2  hm
    refine x_A k53_28 (fun _ => rfl) ?_
    refine x_A k53_29 (fun _ => rfl) ?_
    refine x_callX k53_30 (y := 222) (as := [.ref 2012]) (rest := [vi x2]) (fun _ => rfl) rfl rfl tx_len_11 ?_
    refine x_ic_ge k53_33 (t := 62) rfl (by first | exact x_rb b_x2 rfl rfl | exact ⟨by omega, by omega⟩) ⟨by decide, by decide⟩ (fun c73 => ?_) (fun c73 => ?_)
    · skip
      refine x_A k53_62 (fun _ => rfl) ?_
      exact x_zret k53_63 rfl ⟨by omega, by omega⟩ ⟨hG, f, 1, rfl, ⟨by decide, by decide⟩⟩
    · skip
      refine x_A k53_36 (fun _ => rfl) ?_
      refine x_A k53_37 (fun _ => rfl) ?_
      refine x_getI k53_38 (f := 3) rfl (q := 177) (n := 7) (kd := 7) ⟨by decide, rfl⟩ (by decide) rfl ?_
      refine x_top (fun z74 e_z74 => ?_)
      have g_z74 : (0 : Int) ≤ s 177 3 ∧ s 177 3 ≤ 160 := hG 177 3
      refine x_A k53_41 (fun _ => rfl) ?_
      refine x_iadd k53_42 ?_
      refine x_top (fun z75 e_z75 => ?_)
      refine x_callV k53_43 (y := 49) (n := 1) (w0 := 0) (w1 := 1) (as := [vi z75]) (rest := []) (by decide +kernel) (q := 177) (nq := 7) (kq := 7) ⟨by decide, rfl⟩ rfl rfl rfl rfl (xe_mono (C_X6_byteAt_177 s hG z75 (by first | exact x_rbe e_z75 g_z75 rfl rfl | exact x_rb g_z75 rfl rfl | exact ⟨by omega, by omega⟩)) ?_)
      rintro s77 v ⟨h_s77, z76, rfl, g_z76⟩
      rw [h_s77]
      show xe none 53 46 [(0, .ref 177), (1, .ref 2012), (2, vi x2)] [vi z76] s 0 0 _
      refine x_A k53_46 (fun _ => rfl) ?_
      refine x_A k53_47 (fun _ => rfl) ?_
      obtain ⟨z78, g_z78, x_z78⟩ := tx_char_11 x2 ⟨by omega, by omega⟩
      refine x_callX k53_48 (y := 223) (as := [.ref 2012, vi x2]) (rest := [vi z76]) (fun _ => rfl) rfl rfl x_z78 ?_
      refine x_ic_eq k53_51 (t := 56) rfl (by first | exact x_rbe e_z76 g_z76 rfl rfl | exact x_rb g_z76 rfl rfl | exact ⟨by omega, by omega⟩) (by first | exact x_rbe e_z78 g_z78 rfl rfl | exact x_rb g_z78 rfl rfl | exact ⟨by omega, by omega⟩) (fun c79 => ?_) (fun c79 => ?_)
      · skip
        refine x_iinc k53_56 (ls' := [(2, vi (x2 + 1)), (0, .ref 177), (1, .ref 2012)]) rfl (by decide) rfl ?_
        refine x_goto k53_59 (t := 28) rfl ?_
        refine x_ls (l := [(0, .ref 177), (1, .ref 2012), (2, vi (x2 + 1))]) (show ([0, 1, 2] : List Nat).Nodup from by decide +kernel) ⟨rfl, rfl, rfl, trivial⟩ ?_
        exact ih s (x2 + 1) hG f ⟨by omega, by omega⟩  (by omega)
      · skip
        refine x_A k53_54 (fun _ => rfl) ?_
        exact x_zret k53_55 rfl ⟨by omega, by omega⟩ ⟨hG, f, 0, rfl, ⟨by decide, by decide⟩⟩
theorem C_X6_isWord_177_2012 (s0 : xS) (hG0 : GI s0)  : xe none 53 0 (lv_args 0 [.ref 177, .ref 2012]) [] s0 0 0 (fun s' v => GI s' ∧ FL [] s0 s' ∧ ∃ z, v = some (vi z) ∧ (0 ≤ z ∧ z ≤ 1)) := by
  have f0 : FL [] s0 s0 := FL.rf
  show xe none 53 0 [(0, .ref 177), (1, .ref 2012)] [] s0 0 0 _
  refine x_A k53_0 (fun _ => rfl) ?_
  refine x_getI k53_1 (f := 2) rfl (q := 177) (n := 7) (kd := 7) ⟨by decide, rfl⟩ (by decide) rfl ?_
  refine x_top (fun z80 e_z80 => ?_)
  have g_z80 : (0 : Int) ≤ s0 177 2 ∧ s0 177 2 ≤ 3 := hG0 177 2
  refine x_A k53_4 (fun _ => rfl) ?_
  refine x_ic_ne k53_5 (t := 24) rfl (by first | exact x_rbe e_z80 g_z80 rfl rfl | exact x_rb g_z80 rfl rfl | exact ⟨by omega, by omega⟩) ⟨by decide, by decide⟩ (fun c81 => ?_) (fun c81 => ?_)
  · skip
    refine x_A k53_24 (fun _ => rfl) ?_
    exact x_zret k53_25 rfl ⟨by omega, by omega⟩ ⟨hG0, f0, 0, rfl, ⟨by decide, by decide⟩⟩
  · skip
    refine x_A k53_8 (fun _ => rfl) ?_
    refine x_getI k53_9 (f := 4) rfl (q := 177) (n := 7) (kd := 7) ⟨by decide, rfl⟩ (by decide) rfl ?_
    refine x_top (fun z82 e_z82 => ?_)
    have g_z82 : (0 : Int) ≤ s0 177 4 ∧ s0 177 4 ≤ 160 := hG0 177 4
    refine x_A k53_12 (fun _ => rfl) ?_
    refine x_getI k53_13 (f := 3) rfl (q := 177) (n := 7) (kd := 7) ⟨by decide, rfl⟩ (by decide) rfl ?_
    refine x_top (fun z83 e_z83 => ?_)
    have g_z83 : (0 : Int) ≤ s0 177 3 ∧ s0 177 3 ≤ 160 := hG0 177 3
    refine x_isub k53_16 ?_
    refine x_top (fun z84 e_z84 => ?_)
    refine x_A k53_17 (fun _ => rfl) ?_
    refine x_callX k53_18 (y := 222) (as := [.ref 2012]) (rest := [vi z84]) (fun _ => rfl) rfl rfl tx_len_11 ?_
    refine x_ic_eq k53_21 (t := 26) rfl (by first | exact x_rbe e_z84 g_z84 rfl rfl | exact x_rb g_z84 rfl rfl | exact ⟨by omega, by omega⟩) ⟨by decide, by decide⟩ (fun c85 => ?_) (fun c85 => ?_)
    · skip
      refine x_A k53_26 (fun _ => rfl) ?_
      refine x_istore_n k53_27 (ls' := [(2, vi 0), (0, .ref 177), (1, .ref 2012)]) (by decide) rfl ?_
      refine x_ls (l := [(0, .ref 177), (1, .ref 2012), (2, vi 0)]) (show ([0, 1, 2] : List Nat).Nodup from by decide +kernel) ⟨rfl, rfl, rfl, trivial⟩ ?_
      exact L_C_X6_isWord_177_2012_28 s0   (((5 - 0) + 1 : Int)).toNat s0 0 hG0 f0 ⟨by decide, by decide⟩  (by omega)
    · skip
      refine x_A k53_24 (fun _ => rfl) ?_
      exact x_zret k53_25 rfl ⟨by omega, by omega⟩ ⟨hG0, f0, 0, rfl, ⟨by decide, by decide⟩⟩
theorem L_C_X6_isWord_177_2013_28 (s0 : xS)   : ∀ (n : Nat) (s : xS) (x2 : Int) (hG : GI s) (f : FL [] s0 s) (b_x2 : 0 ≤ x2 ∧ x2 ≤ 5)  (hm : (5 - x2) < (n : Int)), xe none 53 28 [(0, .ref 177), (1, .ref 2013), (2, vi x2)] [] s 0 0 (fun s' v => GI s' ∧ FL [] s0 s' ∧ ∃ z, v = some (vi z) ∧ (0 ≤ z ∧ z ≤ 1)) := by
  intro n
  induction n with
  | zero => intro s x2 hG f b_x2  hm; exfalso; omega
  | succ n ih =>
    intro s x2 hG f b_x2  hm
    refine x_A k53_28 (fun _ => rfl) ?_
    refine x_A k53_29 (fun _ => rfl) ?_
    refine x_callX k53_30 (y := 222) (as := [.ref 2013]) (rest := [vi x2]) (fun _ => rfl) rfl rfl tx_len_12 ?_
    refine x_ic_ge k53_33 (t := 62) rfl (by first | exact x_rb b_x2 rfl rfl | exact ⟨by omega, by omega⟩) ⟨by decide, by decide⟩ (fun c73 => ?_) (fun c73 => ?_)
    · skip
      refine x_A k53_62 (fun _ => rfl) ?_
      exact x_zret k53_63 rfl ⟨by omega, by omega⟩ ⟨hG, f, 1, rfl, ⟨by decide, by decide⟩⟩
    · skip
      refine x_A k53_36 (fun _ => rfl) ?_
      refine x_A k53_37 (fun _ => rfl) ?_
      refine x_getI k53_38 (f := 3) rfl (q := 177) (n := 7) (kd := 7) ⟨by decide, rfl⟩ (by decide) rfl ?_
      refine x_top (fun z74 e_z74 => ?_)
      have g_z74 : (0 : Int) ≤ s 177 3 ∧ s 177 3 ≤ 160 := hG 177 3
      refine x_A k53_41 (fun _ => rfl) ?_
      refine x_iadd k53_42 ?_
      refine x_top (fun z75 e_z75 => ?_)
      refine x_callV k53_43 (y := 49) (n := 1) (w0 := 0) (w1 := 1) (as := [vi z75]) (rest := []) (by decide +kernel) (q := 177) (nq := 7) (kq := 7) ⟨by decide, rfl⟩ rfl rfl rfl rfl (xe_mono (C_X6_byteAt_177 s hG z75 (by first | exact x_rbe e_z75 g_z75 rfl rfl | exact x_rb g_z75 rfl rfl | exact ⟨by omega, by omega⟩)) ?_)
      rintro s77 v ⟨h_s77, z76, rfl, g_z76⟩
      rw [h_s77]
      show xe none 53 46 [(0, .ref 177), (1, .ref 2013), (2, vi x2)] [vi z76] s 0 0 _
      refine x_A k53_46 (fun _ => rfl) ?_
      refine x_A k53_47 (fun _ => rfl) ?_
      obtain ⟨z78, g_z78, x_z78⟩ := tx_char_12 x2 ⟨by omega, by omega⟩
      refine x_callX k53_48 (y := 223) (as := [.ref 2013, vi x2]) (rest := [vi z76]) (fun _ => rfl) rfl rfl x_z78 ?_
      refine x_ic_eq k53_51 (t := 56) rfl (by first | exact x_rbe e_z76 g_z76 rfl rfl | exact x_rb g_z76 rfl rfl | exact ⟨by omega, by omega⟩) (by first | exact x_rbe e_z78 g_z78 rfl rfl | exact x_rb g_z78 rfl rfl | exact ⟨by omega, by omega⟩) (fun c79 => ?_) (fun c79 => ?_)
      · skip
        refine x_iinc k53_56 (ls' := [(2, vi (x2 + 1)), (0, .ref 177), (1, .ref 2013)]) rfl (by decide) rfl ?_
        refine x_goto k53_59 (t := 28) rfl ?_
        refine x_ls (l := [(0, .ref 177), (1, .ref 2013), (2, vi (x2 + 1))]) (show ([0, 1, 2] : List Nat).Nodup from by decide +kernel) ⟨rfl, rfl, rfl, trivial⟩ ?_
        exact ih s (x2 + 1) hG f ⟨by omega, by omega⟩  (by omega)
      · skip
        refine x_A k53_54 (fun _ => rfl) ?_
        exact x_zret k53_55 rfl ⟨by omega, by omega⟩ ⟨hG, f, 0, rfl, ⟨by decide, by decide⟩⟩
theorem C_X6_isWord_177_2013 (s0 : xS) (hG0 : GI s0)  : xe none 53 0 (lv_args 0 [.ref 177, .ref 2013]) [] s0 0 0 (fun s' v => GI s' ∧ FL [] s0 s' ∧ ∃ z, v = some (vi z) ∧ (0 ≤ z ∧ z ≤ 1)) := by
  have f0 : FL [] s0 s0 := FL.rf
  show xe none 53 0 [(0, .ref 177), (1, .ref 2013)] [] s0 0 0 _
  refine x_A k53_0 (fun _ => rfl) ?_
  refine x_getI k53_1 (f := 2) rfl (q := 177) (n := 7) (kd := 7) ⟨by decide, rfl⟩ (by decide) rfl ?_
  refine x_top (fun z80 e_z80 => ?_)
  have g_z80 : (0 : Int) ≤ s0 177 2 ∧ s0 177 2 ≤ 3 := hG0 177 2
  refine x_A k53_4 (fun _ => rfl) ?_
  refine x_ic_ne k53_5 (t := 24) rfl (by first | exact x_rbe e_z80 g_z80 rfl rfl | exact x_rb g_z80 rfl rfl | exact ⟨by omega, by omega⟩) ⟨by decide, by decide⟩ (fun c81 => ?_) (fun c81 => ?_)
  · skip
    refine x_A k53_24 (fun _ => rfl) ?_
    exact x_zret k53_25 rfl ⟨by omega, by omega⟩ ⟨hG0, f0, 0, rfl, ⟨by decide, by decide⟩⟩
  · skip
    refine x_A k53_8 (fun _ => rfl) ?_
    refine x_getI k53_9 (f := 4) rfl (q := 177) (n := 7) (kd := 7) ⟨by decide, rfl⟩ (by decide) rfl ?_
    refine x_top (fun z82 e_z82 => ?_)
    have g_z82 : (0 : Int) ≤ s0 177 4 ∧ s0 177 4 ≤ 160 := hG0 177 4
    refine x_A k53_12 (fun _ => rfl) ?_
    refine x_getI k53_13 (f := 3) rfl (q := 177) (n := 7) (kd := 7) ⟨by decide, rfl⟩ (by decide) rfl ?_
    refine x_top (fun z83 e_z83 => ?_)
    have g_z83 : (0 : Int) ≤ s0 177 3 ∧ s0 177 3 ≤ 160 := hG0 177 3
    refine x_isub k53_16 ?_
    refine x_top (fun z84 e_z84 => ?_)
    refine x_A k53_17 (fun _ => rfl) ?_
    refine x_callX k53_18 (y := 222) (as := [.ref 2013]) (rest := [vi z84]) (fun _ => rfl) rfl rfl tx_len_12 ?_
    refine x_ic_eq k53_21 (t := 26) rfl (by first | exact x_rbe e_z84 g_z84 rfl rfl | exact x_rb g_z84 rfl rfl | exact ⟨by omega, by omega⟩) ⟨by decide, by decide⟩ (fun c85 => ?_) (fun c85 => ?_)
    · skip
      refine x_A k53_26 (fun _ => rfl) ?_
      refine x_istore_n k53_27 (ls' := [(2, vi 0), (0, .ref 177), (1, .ref 2013)]) (by decide) rfl ?_
      refine x_ls (l := [(0, .ref 177), (1, .ref 2013), (2, vi 0)]) (show ([0, 1, 2] : List Nat).Nodup from by decide +kernel) ⟨rfl, rfl, rfl, trivial⟩ ?_
      exact L_C_X6_isWord_177_2013_28 s0   (((5 - 0) + 1 : Int)).toNat s0 0 hG0 f0 ⟨by decide, by decide⟩  (by omega)
    · skip
      refine x_A k53_24 (fun _ => rfl) ?_
      exact x_zret k53_25 rfl ⟨by omega, by omega⟩ ⟨hG0, f0, 0, rfl, ⟨by decide, by decide⟩⟩
theorem L_C_X6_isWord_177_2014_28 (s0 : xS)   : ∀ (n : Nat) (s : xS) (x2 : Int) (hG : GI s) (f : FL [] s0 s) (b_x2 : 0 ≤ x2 ∧ x2 ≤ 6)  (hm : (6 - x2) < (n : Int)), xe none 53 28 [(0, .ref 177), (1, .ref 2014), (2, vi x2)] [] s 0 0 (fun s' v => GI s' ∧ FL [] s0 s' ∧ ∃ z, v = some (vi z) ∧ (0 ≤ z ∧ z ≤ 1)) := by
  intro n
  induction n with
  | zero => intro s x2 hG f b_x2  hm; exfalso; omega
  | succ n ih =>
    intro s x2 hG f b_x2  hm
    refine x_A k53_28 (fun _ => rfl) ?_
    refine x_A k53_29 (fun _ => rfl) ?_
    refine x_callX k53_30 (y := 222) (as := [.ref 2014]) (rest := [vi x2]) (fun _ => rfl) rfl rfl tx_len_13 ?_
    refine x_ic_ge k53_33 (t := 62) rfl (by first | exact x_rb b_x2 rfl rfl | exact ⟨by omega, by omega⟩) ⟨by decide, by decide⟩ (fun c86 => ?_) (fun c86 => ?_)
    · skip
      refine x_A k53_62 (fun _ => rfl) ?_
      exact x_zret k53_63 rfl ⟨by omega, by omega⟩ ⟨hG, f, 1, rfl, ⟨by decide, by decide⟩⟩
    · skip
      refine x_A k53_36 (fun _ => rfl) ?_
      refine x_A k53_37 (fun _ => rfl) ?_
      refine x_getI k53_38 (f := 3) rfl (q := 177) (n := 7) (kd := 7) ⟨by decide, rfl⟩ (by decide) rfl ?_
      refine x_top (fun z87 e_z87 => ?_)
      have g_z87 : (0 : Int) ≤ s 177 3 ∧ s 177 3 ≤ 160 := hG 177 3
      refine x_A k53_41 (fun _ => rfl) ?_
      refine x_iadd k53_42 ?_
      refine x_top (fun z88 e_z88 => ?_)
      refine x_callV k53_43 (y := 49) (n := 1) (w0 := 0) (w1 := 1) (as := [vi z88]) (rest := []) (by decide +kernel) (q := 177) (nq := 7) (kq := 7) ⟨by decide, rfl⟩ rfl rfl rfl rfl (xe_mono (C_X6_byteAt_177 s hG z88 (by first | exact x_rbe e_z88 g_z88 rfl rfl | exact x_rb g_z88 rfl rfl | exact ⟨by omega, by omega⟩)) ?_)
      rintro s90 v ⟨h_s90, z89, rfl, g_z89⟩
      rw [h_s90]
      show xe none 53 46 [(0, .ref 177), (1, .ref 2014), (2, vi x2)] [vi z89] s 0 0 _
      refine x_A k53_46 (fun _ => rfl) ?_
      refine x_A k53_47 (fun _ => rfl) ?_
      obtain ⟨z91, g_z91, x_z91⟩ := tx_char_13 x2 ⟨by omega, by omega⟩
      refine x_callX k53_48 (y := 223) (as := [.ref 2014, vi x2]) (rest := [vi z89]) (fun _ => rfl) rfl rfl x_z91 ?_
      refine x_ic_eq k53_51 (t := 56) rfl (by first | exact x_rbe e_z89 g_z89 rfl rfl | exact x_rb g_z89 rfl rfl | exact ⟨by omega, by omega⟩) (by first | exact x_rbe e_z91 g_z91 rfl rfl | exact x_rb g_z91 rfl rfl | exact ⟨by omega, by omega⟩) (fun c92 => ?_) (fun c92 => ?_)
      · skip
        refine x_iinc k53_56 (ls' := [(2, vi (x2 + 1)), (0, .ref 177), (1, .ref 2014)]) rfl (by decide) rfl ?_
        refine x_goto k53_59 (t := 28) rfl ?_
        refine x_ls (l := [(0, .ref 177), (1, .ref 2014), (2, vi (x2 + 1))]) (show ([0, 1, 2] : List Nat).Nodup from by decide +kernel) ⟨rfl, rfl, rfl, trivial⟩ ?_
        exact ih s (x2 + 1) hG f ⟨by omega, by omega⟩  (by omega)
      · skip
        refine x_A k53_54 (fun _ => rfl) ?_
        exact x_zret k53_55 rfl ⟨by omega, by omega⟩ ⟨hG, f, 0, rfl, ⟨by decide, by decide⟩⟩
theorem C_X6_isWord_177_2014 (s0 : xS) (hG0 : GI s0)  : xe none 53 0 (lv_args 0 [.ref 177, .ref 2014]) [] s0 0 0 (fun s' v => GI s' ∧ FL [] s0 s' ∧ ∃ z, v = some (vi z) ∧ (0 ≤ z ∧ z ≤ 1)) := by
  have f0 : FL [] s0 s0 := FL.rf
  show xe none 53 0 [(0, .ref 177), (1, .ref 2014)] [] s0 0 0 _
  refine x_A k53_0 (fun _ => rfl) ?_
  refine x_getI k53_1 (f := 2) rfl (q := 177) (n := 7) (kd := 7) ⟨by decide, rfl⟩ (by decide) rfl ?_
  refine x_top (fun z93 e_z93 => ?_)
  have g_z93 : (0 : Int) ≤ s0 177 2 ∧ s0 177 2 ≤ 3 := hG0 177 2
  refine x_A k53_4 (fun _ => rfl) ?_
  refine x_ic_ne k53_5 (t := 24) rfl (by first | exact x_rbe e_z93 g_z93 rfl rfl | exact x_rb g_z93 rfl rfl | exact ⟨by omega, by omega⟩) ⟨by decide, by decide⟩ (fun c94 => ?_) (fun c94 => ?_)
  · skip
    refine x_A k53_24 (fun _ => rfl) ?_
    exact x_zret k53_25 rfl ⟨by omega, by omega⟩ ⟨hG0, f0, 0, rfl, ⟨by decide, by decide⟩⟩
  · skip
    refine x_A k53_8 (fun _ => rfl) ?_
    refine x_getI k53_9 (f := 4) rfl (q := 177) (n := 7) (kd := 7) ⟨by decide, rfl⟩ (by decide) rfl ?_
    refine x_top (fun z95 e_z95 => ?_)
    have g_z95 : (0 : Int) ≤ s0 177 4 ∧ s0 177 4 ≤ 160 := hG0 177 4
    refine x_A k53_12 (fun _ => rfl) ?_
    refine x_getI k53_13 (f := 3) rfl (q := 177) (n := 7) (kd := 7) ⟨by decide, rfl⟩ (by decide) rfl ?_
    refine x_top (fun z96 e_z96 => ?_)
    have g_z96 : (0 : Int) ≤ s0 177 3 ∧ s0 177 3 ≤ 160 := hG0 177 3
    refine x_isub k53_16 ?_
    refine x_top (fun z97 e_z97 => ?_)
    refine x_A k53_17 (fun _ => rfl) ?_
    refine x_callX k53_18 (y := 222) (as := [.ref 2014]) (rest := [vi z97]) (fun _ => rfl) rfl rfl tx_len_13 ?_
    refine x_ic_eq k53_21 (t := 26) rfl (by first | exact x_rbe e_z97 g_z97 rfl rfl | exact x_rb g_z97 rfl rfl | exact ⟨by omega, by omega⟩) ⟨by decide, by decide⟩ (fun c98 => ?_) (fun c98 => ?_)
    · skip
      refine x_A k53_26 (fun _ => rfl) ?_
      refine x_istore_n k53_27 (ls' := [(2, vi 0), (0, .ref 177), (1, .ref 2014)]) (by decide) rfl ?_
      refine x_ls (l := [(0, .ref 177), (1, .ref 2014), (2, vi 0)]) (show ([0, 1, 2] : List Nat).Nodup from by decide +kernel) ⟨rfl, rfl, rfl, trivial⟩ ?_
      exact L_C_X6_isWord_177_2014_28 s0   (((6 - 0) + 1 : Int)).toNat s0 0 hG0 f0 ⟨by decide, by decide⟩  (by omega)
    · skip
      refine x_A k53_24 (fun _ => rfl) ?_
      exact x_zret k53_25 rfl ⟨by omega, by omega⟩ ⟨hG0, f0, 0, rfl, ⟨by decide, by decide⟩⟩
theorem L_C_X6_isWord_177_2015_28 (s0 : xS)   : ∀ (n : Nat) (s : xS) (x2 : Int) (hG : GI s) (f : FL [] s0 s) (b_x2 : 0 ≤ x2 ∧ x2 ≤ 5)  (hm : (5 - x2) < (n : Int)), xe none 53 28 [(0, .ref 177), (1, .ref 2015), (2, vi x2)] [] s 0 0 (fun s' v => GI s' ∧ FL [] s0 s' ∧ ∃ z, v = some (vi z) ∧ (0 ≤ z ∧ z ≤ 1)) := by
  intro n
  induction n with
  | zero => intro s x2 hG f b_x2  hm; exfalso; omega
  | succ n ih =>
    intro s x2 hG f b_x2  hm
    refine x_A k53_28 (fun _ => rfl) ?_
    refine x_A k53_29 (fun _ => rfl) ?_
    refine x_callX k53_30 (y := 222) (as := [.ref 2015]) (rest := [vi x2]) (fun _ => rfl) rfl rfl tx_len_14 ?_
    refine x_ic_ge k53_33 (t := 62) rfl (by first | exact x_rb b_x2 rfl rfl | exact ⟨by omega, by omega⟩) ⟨by decide, by decide⟩ (fun c73 => ?_) (fun c73 => ?_)
    · skip
      refine x_A k53_62 (fun _ => rfl) ?_
      exact x_zret k53_63 rfl ⟨by omega, by omega⟩ ⟨hG, f, 1, rfl, ⟨by decide, by decide⟩⟩
    · skip
      refine x_A k53_36 (fun _ => rfl) ?_
      refine x_A k53_37 (fun _ => rfl) ?_
      refine x_getI k53_38 (f := 3) rfl (q := 177) (n := 7) (kd := 7) ⟨by decide, rfl⟩ (by decide) rfl ?_
      refine x_top (fun z74 e_z74 => ?_)
      have g_z74 : (0 : Int) ≤ s 177 3 ∧ s 177 3 ≤ 160 := hG 177 3
      refine x_A k53_41 (fun _ => rfl) ?_
      refine x_iadd k53_42 ?_
      refine x_top (fun z75 e_z75 => ?_)
      refine x_callV k53_43 (y := 49) (n := 1) (w0 := 0) (w1 := 1) (as := [vi z75]) (rest := []) (by decide +kernel) (q := 177) (nq := 7) (kq := 7) ⟨by decide, rfl⟩ rfl rfl rfl rfl (xe_mono (C_X6_byteAt_177 s hG z75 (by first | exact x_rbe e_z75 g_z75 rfl rfl | exact x_rb g_z75 rfl rfl | exact ⟨by omega, by omega⟩)) ?_)
      rintro s77 v ⟨h_s77, z76, rfl, g_z76⟩
      rw [h_s77]
      show xe none 53 46 [(0, .ref 177), (1, .ref 2015), (2, vi x2)] [vi z76] s 0 0 _
      refine x_A k53_46 (fun _ => rfl) ?_
      refine x_A k53_47 (fun _ => rfl) ?_
      obtain ⟨z78, g_z78, x_z78⟩ := tx_char_14 x2 ⟨by omega, by omega⟩
      refine x_callX k53_48 (y := 223) (as := [.ref 2015, vi x2]) (rest := [vi z76]) (fun _ => rfl) rfl rfl x_z78 ?_
      refine x_ic_eq k53_51 (t := 56) rfl (by first | exact x_rbe e_z76 g_z76 rfl rfl | exact x_rb g_z76 rfl rfl | exact ⟨by omega, by omega⟩) (by first | exact x_rbe e_z78 g_z78 rfl rfl | exact x_rb g_z78 rfl rfl | exact ⟨by omega, by omega⟩) (fun c79 => ?_) (fun c79 => ?_)
      · skip
        refine x_iinc k53_56 (ls' := [(2, vi (x2 + 1)), (0, .ref 177), (1, .ref 2015)]) rfl (by decide) rfl ?_
        refine x_goto k53_59 (t := 28) rfl ?_
        refine x_ls (l := [(0, .ref 177), (1, .ref 2015), (2, vi (x2 + 1))]) (show ([0, 1, 2] : List Nat).Nodup from by decide +kernel) ⟨rfl, rfl, rfl, trivial⟩ ?_
        exact ih s (x2 + 1) hG f ⟨by omega, by omega⟩  (by omega)
      · skip
        refine x_A k53_54 (fun _ => rfl) ?_
        exact x_zret k53_55 rfl ⟨by omega, by omega⟩ ⟨hG, f, 0, rfl, ⟨by decide, by decide⟩⟩
theorem C_X6_isWord_177_2015 (s0 : xS) (hG0 : GI s0)  : xe none 53 0 (lv_args 0 [.ref 177, .ref 2015]) [] s0 0 0 (fun s' v => GI s' ∧ FL [] s0 s' ∧ ∃ z, v = some (vi z) ∧ (0 ≤ z ∧ z ≤ 1)) := by
  have f0 : FL [] s0 s0 := FL.rf
  show xe none 53 0 [(0, .ref 177), (1, .ref 2015)] [] s0 0 0 _
  refine x_A k53_0 (fun _ => rfl) ?_
  refine x_getI k53_1 (f := 2) rfl (q := 177) (n := 7) (kd := 7) ⟨by decide, rfl⟩ (by decide) rfl ?_
  refine x_top (fun z80 e_z80 => ?_)
  have g_z80 : (0 : Int) ≤ s0 177 2 ∧ s0 177 2 ≤ 3 := hG0 177 2
  refine x_A k53_4 (fun _ => rfl) ?_
  refine x_ic_ne k53_5 (t := 24) rfl (by first | exact x_rbe e_z80 g_z80 rfl rfl | exact x_rb g_z80 rfl rfl | exact ⟨by omega, by omega⟩) ⟨by decide, by decide⟩ (fun c81 => ?_) (fun c81 => ?_)
  · skip
    refine x_A k53_24 (fun _ => rfl) ?_
    exact x_zret k53_25 rfl ⟨by omega, by omega⟩ ⟨hG0, f0, 0, rfl, ⟨by decide, by decide⟩⟩
  · skip
    refine x_A k53_8 (fun _ => rfl) ?_
    refine x_getI k53_9 (f := 4) rfl (q := 177) (n := 7) (kd := 7) ⟨by decide, rfl⟩ (by decide) rfl ?_
    refine x_top (fun z82 e_z82 => ?_)
    have g_z82 : (0 : Int) ≤ s0 177 4 ∧ s0 177 4 ≤ 160 := hG0 177 4
    refine x_A k53_12 (fun _ => rfl) ?_
    refine x_getI k53_13 (f := 3) rfl (q := 177) (n := 7) (kd := 7) ⟨by decide, rfl⟩ (by decide) rfl ?_
    refine x_top (fun z83 e_z83 => ?_)
    have g_z83 : (0 : Int) ≤ s0 177 3 ∧ s0 177 3 ≤ 160 := hG0 177 3
    refine x_isub k53_16 ?_
    refine x_top (fun z84 e_z84 => ?_)
    refine x_A k53_17 (fun _ => rfl) ?_
    refine x_callX k53_18 (y := 222) (as := [.ref 2015]) (rest := [vi z84]) (fun _ => rfl) rfl rfl tx_len_14 ?_
    refine x_ic_eq k53_21 (t := 26) rfl (by first | exact x_rbe e_z84 g_z84 rfl rfl | exact x_rb g_z84 rfl rfl | exact ⟨by omega, by omega⟩) ⟨by decide, by decide⟩ (fun c85 => ?_) (fun c85 => ?_)
    · skip
      refine x_A k53_26 (fun _ => rfl) ?_
      refine x_istore_n k53_27 (ls' := [(2, vi 0), (0, .ref 177), (1, .ref 2015)]) (by decide) rfl ?_
      refine x_ls (l := [(0, .ref 177), (1, .ref 2015), (2, vi 0)]) (show ([0, 1, 2] : List Nat).Nodup from by decide +kernel) ⟨rfl, rfl, rfl, trivial⟩ ?_
      exact L_C_X6_isWord_177_2015_28 s0   (((5 - 0) + 1 : Int)).toNat s0 0 hG0 f0 ⟨by decide, by decide⟩  (by omega)
    · skip
      refine x_A k53_24 (fun _ => rfl) ?_
      exact x_zret k53_25 rfl ⟨by omega, by omega⟩ ⟨hG0, f0, 0, rfl, ⟨by decide, by decide⟩⟩
theorem L_C_X6_isWord_177_2016_28 (s0 : xS)   : ∀ (n : Nat) (s : xS) (x2 : Int) (hG : GI s) (f : FL [] s0 s) (b_x2 : 0 ≤ x2 ∧ x2 ≤ 5)  (hm : (5 - x2) < (n : Int)), xe none 53 28 [(0, .ref 177), (1, .ref 2016), (2, vi x2)] [] s 0 0 (fun s' v => GI s' ∧ FL [] s0 s' ∧ ∃ z, v = some (vi z) ∧ (0 ≤ z ∧ z ≤ 1)) := by
  intro n
  induction n with
  | zero => intro s x2 hG f b_x2  hm; exfalso; omega
  | succ n ih =>
    intro s x2 hG f b_x2  hm
    refine x_A k53_28 (fun _ => rfl) ?_
    refine x_A k53_29 (fun _ => rfl) ?_
    refine x_callX k53_30 (y := 222) (as := [.ref 2016]) (rest := [vi x2]) (fun _ => rfl) rfl rfl tx_len_15 ?_
    refine x_ic_ge k53_33 (t := 62) rfl (by first | exact x_rb b_x2 rfl rfl | exact ⟨by omega, by omega⟩) ⟨by decide, by decide⟩ (fun c73 => ?_) (fun c73 => ?_)
    · skip
      refine x_A k53_62 (fun _ => rfl) ?_
      exact x_zret k53_63 rfl ⟨by omega, by omega⟩ ⟨hG, f, 1, rfl, ⟨by decide, by decide⟩⟩
    · skip
      refine x_A k53_36 (fun _ => rfl) ?_
      refine x_A k53_37 (fun _ => rfl) ?_
      refine x_getI k53_38 (f := 3) rfl (q := 177) (n := 7) (kd := 7) ⟨by decide, rfl⟩ (by decide) rfl ?_
      refine x_top (fun z74 e_z74 => ?_)
      have g_z74 : (0 : Int) ≤ s 177 3 ∧ s 177 3 ≤ 160 := hG 177 3
      refine x_A k53_41 (fun _ => rfl) ?_
      refine x_iadd k53_42 ?_
      refine x_top (fun z75 e_z75 => ?_)
      refine x_callV k53_43 (y := 49) (n := 1) (w0 := 0) (w1 := 1) (as := [vi z75]) (rest := []) (by decide +kernel) (q := 177) (nq := 7) (kq := 7) ⟨by decide, rfl⟩ rfl rfl rfl rfl (xe_mono (C_X6_byteAt_177 s hG z75 (by first | exact x_rbe e_z75 g_z75 rfl rfl | exact x_rb g_z75 rfl rfl | exact ⟨by omega, by omega⟩)) ?_)
      rintro s77 v ⟨h_s77, z76, rfl, g_z76⟩
      rw [h_s77]
      show xe none 53 46 [(0, .ref 177), (1, .ref 2016), (2, vi x2)] [vi z76] s 0 0 _
      refine x_A k53_46 (fun _ => rfl) ?_
      refine x_A k53_47 (fun _ => rfl) ?_
      obtain ⟨z78, g_z78, x_z78⟩ := tx_char_15 x2 ⟨by omega, by omega⟩
      refine x_callX k53_48 (y := 223) (as := [.ref 2016, vi x2]) (rest := [vi z76]) (fun _ => rfl) rfl rfl x_z78 ?_
      refine x_ic_eq k53_51 (t := 56) rfl (by first | exact x_rbe e_z76 g_z76 rfl rfl | exact x_rb g_z76 rfl rfl | exact ⟨by omega, by omega⟩) (by first | exact x_rbe e_z78 g_z78 rfl rfl | exact x_rb g_z78 rfl rfl | exact ⟨by omega, by omega⟩) (fun c79 => ?_) (fun c79 => ?_)
      · skip
        refine x_iinc k53_56 (ls' := [(2, vi (x2 + 1)), (0, .ref 177), (1, .ref 2016)]) rfl (by decide) rfl ?_
        refine x_goto k53_59 (t := 28) rfl ?_
        refine x_ls (l := [(0, .ref 177), (1, .ref 2016), (2, vi (x2 + 1))]) (show ([0, 1, 2] : List Nat).Nodup from by decide +kernel) ⟨rfl, rfl, rfl, trivial⟩ ?_
        exact ih s (x2 + 1) hG f ⟨by omega, by omega⟩  (by omega)
      · skip
        refine x_A k53_54 (fun _ => rfl) ?_
        exact x_zret k53_55 rfl ⟨by omega, by omega⟩ ⟨hG, f, 0, rfl, ⟨by decide, by decide⟩⟩
theorem C_X6_isWord_177_2016 (s0 : xS) (hG0 : GI s0)  : xe none 53 0 (lv_args 0 [.ref 177, .ref 2016]) [] s0 0 0 (fun s' v => GI s' ∧ FL [] s0 s' ∧ ∃ z, v = some (vi z) ∧ (0 ≤ z ∧ z ≤ 1)) := by
  have f0 : FL [] s0 s0 := FL.rf
  show xe none 53 0 [(0, .ref 177), (1, .ref 2016)] [] s0 0 0 _
  refine x_A k53_0 (fun _ => rfl) ?_
  refine x_getI k53_1 (f := 2) rfl (q := 177) (n := 7) (kd := 7) ⟨by decide, rfl⟩ (by decide) rfl ?_
  refine x_top (fun z80 e_z80 => ?_)
  have g_z80 : (0 : Int) ≤ s0 177 2 ∧ s0 177 2 ≤ 3 := hG0 177 2
  refine x_A k53_4 (fun _ => rfl) ?_
  refine x_ic_ne k53_5 (t := 24) rfl (by first | exact x_rbe e_z80 g_z80 rfl rfl | exact x_rb g_z80 rfl rfl | exact ⟨by omega, by omega⟩) ⟨by decide, by decide⟩ (fun c81 => ?_) (fun c81 => ?_)
  · skip
    refine x_A k53_24 (fun _ => rfl) ?_
    exact x_zret k53_25 rfl ⟨by omega, by omega⟩ ⟨hG0, f0, 0, rfl, ⟨by decide, by decide⟩⟩
  · skip
    refine x_A k53_8 (fun _ => rfl) ?_
    refine x_getI k53_9 (f := 4) rfl (q := 177) (n := 7) (kd := 7) ⟨by decide, rfl⟩ (by decide) rfl ?_
    refine x_top (fun z82 e_z82 => ?_)
    have g_z82 : (0 : Int) ≤ s0 177 4 ∧ s0 177 4 ≤ 160 := hG0 177 4
    refine x_A k53_12 (fun _ => rfl) ?_
    refine x_getI k53_13 (f := 3) rfl (q := 177) (n := 7) (kd := 7) ⟨by decide, rfl⟩ (by decide) rfl ?_
    refine x_top (fun z83 e_z83 => ?_)
    have g_z83 : (0 : Int) ≤ s0 177 3 ∧ s0 177 3 ≤ 160 := hG0 177 3
    refine x_isub k53_16 ?_
    refine x_top (fun z84 e_z84 => ?_)
    refine x_A k53_17 (fun _ => rfl) ?_
    refine x_callX k53_18 (y := 222) (as := [.ref 2016]) (rest := [vi z84]) (fun _ => rfl) rfl rfl tx_len_15 ?_
    refine x_ic_eq k53_21 (t := 26) rfl (by first | exact x_rbe e_z84 g_z84 rfl rfl | exact x_rb g_z84 rfl rfl | exact ⟨by omega, by omega⟩) ⟨by decide, by decide⟩ (fun c85 => ?_) (fun c85 => ?_)
    · skip
      refine x_A k53_26 (fun _ => rfl) ?_
      refine x_istore_n k53_27 (ls' := [(2, vi 0), (0, .ref 177), (1, .ref 2016)]) (by decide) rfl ?_
      refine x_ls (l := [(0, .ref 177), (1, .ref 2016), (2, vi 0)]) (show ([0, 1, 2] : List Nat).Nodup from by decide +kernel) ⟨rfl, rfl, rfl, trivial⟩ ?_
      exact L_C_X6_isWord_177_2016_28 s0   (((5 - 0) + 1 : Int)).toNat s0 0 hG0 f0 ⟨by decide, by decide⟩  (by omega)
    · skip
      refine x_A k53_24 (fun _ => rfl) ?_
      exact x_zret k53_25 rfl ⟨by omega, by omega⟩ ⟨hG0, f0, 0, rfl, ⟨by decide, by decide⟩⟩
theorem L_C_X6_isWord_177_2017_28 (s0 : xS)   : ∀ (n : Nat) (s : xS) (x2 : Int) (hG : GI s) (f : FL [] s0 s) (b_x2 : 0 ≤ x2 ∧ x2 ≤ 5)  (hm : (5 - x2) < (n : Int)), xe none 53 28 [(0, .ref 177), (1, .ref 2017), (2, vi x2)] [] s 0 0 (fun s' v => GI s' ∧ FL [] s0 s' ∧ ∃ z, v = some (vi z) ∧ (0 ≤ z ∧ z ≤ 1)) := by
  intro n
  induction n with
  | zero => intro s x2 hG f b_x2  hm; exfalso; omega
  | succ n ih =>
    intro s x2 hG f b_x2  hm
    refine x_A k53_28 (fun _ => rfl) ?_
    refine x_A k53_29 (fun _ => rfl) ?_
    refine x_callX k53_30 (y := 222) (as := [.ref 2017]) (rest := [vi x2]) (fun _ => rfl) rfl rfl tx_len_16 ?_
    refine x_ic_ge k53_33 (t := 62) rfl (by first | exact x_rb b_x2 rfl rfl | exact ⟨by omega, by omega⟩) ⟨by decide, by decide⟩ (fun c73 => ?_) (fun c73 => ?_)
    · skip
      refine x_A k53_62 (fun _ => rfl) ?_
      exact x_zret k53_63 rfl ⟨by omega, by omega⟩ ⟨hG, f, 1, rfl, ⟨by decide, by decide⟩⟩
    · skip
      refine x_A k53_36 (fun _ => rfl) ?_
      refine x_A k53_37 (fun _ => rfl) ?_
      refine x_getI k53_38 (f := 3) rfl (q := 177) (n := 7) (kd := 7) ⟨by decide, rfl⟩ (by decide) rfl ?_
      refine x_top (fun z74 e_z74 => ?_)
      have g_z74 : (0 : Int) ≤ s 177 3 ∧ s 177 3 ≤ 160 := hG 177 3
      refine x_A k53_41 (fun _ => rfl) ?_
      refine x_iadd k53_42 ?_
      refine x_top (fun z75 e_z75 => ?_)
      refine x_callV k53_43 (y := 49) (n := 1) (w0 := 0) (w1 := 1) (as := [vi z75]) (rest := []) (by decide +kernel) (q := 177) (nq := 7) (kq := 7) ⟨by decide, rfl⟩ rfl rfl rfl rfl (xe_mono (C_X6_byteAt_177 s hG z75 (by first | exact x_rbe e_z75 g_z75 rfl rfl | exact x_rb g_z75 rfl rfl | exact ⟨by omega, by omega⟩)) ?_)
      rintro s77 v ⟨h_s77, z76, rfl, g_z76⟩
      rw [h_s77]
      show xe none 53 46 [(0, .ref 177), (1, .ref 2017), (2, vi x2)] [vi z76] s 0 0 _
      refine x_A k53_46 (fun _ => rfl) ?_
      refine x_A k53_47 (fun _ => rfl) ?_
      obtain ⟨z78, g_z78, x_z78⟩ := tx_char_16 x2 ⟨by omega, by omega⟩
      refine x_callX k53_48 (y := 223) (as := [.ref 2017, vi x2]) (rest := [vi z76]) (fun _ => rfl) rfl rfl x_z78 ?_
      refine x_ic_eq k53_51 (t := 56) rfl (by first | exact x_rbe e_z76 g_z76 rfl rfl | exact x_rb g_z76 rfl rfl | exact ⟨by omega, by omega⟩) (by first | exact x_rbe e_z78 g_z78 rfl rfl | exact x_rb g_z78 rfl rfl | exact ⟨by omega, by omega⟩) (fun c79 => ?_) (fun c79 => ?_)
      · skip
        refine x_iinc k53_56 (ls' := [(2, vi (x2 + 1)), (0, .ref 177), (1, .ref 2017)]) rfl (by decide) rfl ?_
        refine x_goto k53_59 (t := 28) rfl ?_
        refine x_ls (l := [(0, .ref 177), (1, .ref 2017), (2, vi (x2 + 1))]) (show ([0, 1, 2] : List Nat).Nodup from by decide +kernel) ⟨rfl, rfl, rfl, trivial⟩ ?_
        exact ih s (x2 + 1) hG f ⟨by omega, by omega⟩  (by omega)
      · skip
        refine x_A k53_54 (fun _ => rfl) ?_
        exact x_zret k53_55 rfl ⟨by omega, by omega⟩ ⟨hG, f, 0, rfl, ⟨by decide, by decide⟩⟩
theorem C_X6_isWord_177_2017 (s0 : xS) (hG0 : GI s0)  : xe none 53 0 (lv_args 0 [.ref 177, .ref 2017]) [] s0 0 0 (fun s' v => GI s' ∧ FL [] s0 s' ∧ ∃ z, v = some (vi z) ∧ (0 ≤ z ∧ z ≤ 1)) := by
  have f0 : FL [] s0 s0 := FL.rf
  show xe none 53 0 [(0, .ref 177), (1, .ref 2017)] [] s0 0 0 _
  refine x_A k53_0 (fun _ => rfl) ?_
  refine x_getI k53_1 (f := 2) rfl (q := 177) (n := 7) (kd := 7) ⟨by decide, rfl⟩ (by decide) rfl ?_
  refine x_top (fun z80 e_z80 => ?_)
  have g_z80 : (0 : Int) ≤ s0 177 2 ∧ s0 177 2 ≤ 3 := hG0 177 2
  refine x_A k53_4 (fun _ => rfl) ?_
  refine x_ic_ne k53_5 (t := 24) rfl (by first | exact x_rbe e_z80 g_z80 rfl rfl | exact x_rb g_z80 rfl rfl | exact ⟨by omega, by omega⟩) ⟨by decide, by decide⟩ (fun c81 => ?_) (fun c81 => ?_)
  · skip
    refine x_A k53_24 (fun _ => rfl) ?_
    exact x_zret k53_25 rfl ⟨by omega, by omega⟩ ⟨hG0, f0, 0, rfl, ⟨by decide, by decide⟩⟩
  · skip
    refine x_A k53_8 (fun _ => rfl) ?_
    refine x_getI k53_9 (f := 4) rfl (q := 177) (n := 7) (kd := 7) ⟨by decide, rfl⟩ (by decide) rfl ?_
    refine x_top (fun z82 e_z82 => ?_)
    have g_z82 : (0 : Int) ≤ s0 177 4 ∧ s0 177 4 ≤ 160 := hG0 177 4
    refine x_A k53_12 (fun _ => rfl) ?_
    refine x_getI k53_13 (f := 3) rfl (q := 177) (n := 7) (kd := 7) ⟨by decide, rfl⟩ (by decide) rfl ?_
    refine x_top (fun z83 e_z83 => ?_)
    have g_z83 : (0 : Int) ≤ s0 177 3 ∧ s0 177 3 ≤ 160 := hG0 177 3
    refine x_isub k53_16 ?_
    refine x_top (fun z84 e_z84 => ?_)
    refine x_A k53_17 (fun _ => rfl) ?_
    refine x_callX k53_18 (y := 222) (as := [.ref 2017]) (rest := [vi z84]) (fun _ => rfl) rfl rfl tx_len_16 ?_
    refine x_ic_eq k53_21 (t := 26) rfl (by first | exact x_rbe e_z84 g_z84 rfl rfl | exact x_rb g_z84 rfl rfl | exact ⟨by omega, by omega⟩) ⟨by decide, by decide⟩ (fun c85 => ?_) (fun c85 => ?_)
    · skip
      refine x_A k53_26 (fun _ => rfl) ?_
      refine x_istore_n k53_27 (ls' := [(2, vi 0), (0, .ref 177), (1, .ref 2017)]) (by decide) rfl ?_
      refine x_ls (l := [(0, .ref 177), (1, .ref 2017), (2, vi 0)]) (show ([0, 1, 2] : List Nat).Nodup from by decide +kernel) ⟨rfl, rfl, rfl, trivial⟩ ?_
      exact L_C_X6_isWord_177_2017_28 s0   (((5 - 0) + 1 : Int)).toNat s0 0 hG0 f0 ⟨by decide, by decide⟩  (by omega)
    · skip
      refine x_A k53_24 (fun _ => rfl) ?_
      exact x_zret k53_25 rfl ⟨by omega, by omega⟩ ⟨hG0, f0, 0, rfl, ⟨by decide, by decide⟩⟩
theorem L_C_X6_isWord_177_2018_28 (s0 : xS)   : ∀ (n : Nat) (s : xS) (x2 : Int) (hG : GI s) (f : FL [] s0 s) (b_x2 : 0 ≤ x2 ∧ x2 ≤ 5)  (hm : (5 - x2) < (n : Int)), xe none 53 28 [(0, .ref 177), (1, .ref 2018), (2, vi x2)] [] s 0 0 (fun s' v => GI s' ∧ FL [] s0 s' ∧ ∃ z, v = some (vi z) ∧ (0 ≤ z ∧ z ≤ 1)) := by
  intro n
  induction n with
  | zero => intro s x2 hG f b_x2  hm; exfalso; omega
  | succ n ih =>
    intro s x2 hG f b_x2  hm
    refine x_A k53_28 (fun _ => rfl) ?_
    refine x_A k53_29 (fun _ => rfl) ?_
    refine x_callX k53_30 (y := 222) (as := [.ref 2018]) (rest := [vi x2]) (fun _ => rfl) rfl rfl tx_len_17 ?_
    refine x_ic_ge k53_33 (t := 62) rfl (by first | exact x_rb b_x2 rfl rfl | exact ⟨by omega, by omega⟩) ⟨by decide, by decide⟩ (fun c73 => ?_) (fun c73 => ?_)
    · skip
      refine x_A k53_62 (fun _ => rfl) ?_
      exact x_zret k53_63 rfl ⟨by omega, by omega⟩ ⟨hG, f, 1, rfl, ⟨by decide, by decide⟩⟩
    · skip
      refine x_A k53_36 (fun _ => rfl) ?_
      refine x_A k53_37 (fun _ => rfl) ?_
      refine x_getI k53_38 (f := 3) rfl (q := 177) (n := 7) (kd := 7) ⟨by decide, rfl⟩ (by decide) rfl ?_
      refine x_top (fun z74 e_z74 => ?_)
      have g_z74 : (0 : Int) ≤ s 177 3 ∧ s 177 3 ≤ 160 := hG 177 3
      refine x_A k53_41 (fun _ => rfl) ?_
      refine x_iadd k53_42 ?_
      refine x_top (fun z75 e_z75 => ?_)
      refine x_callV k53_43 (y := 49) (n := 1) (w0 := 0) (w1 := 1) (as := [vi z75]) (rest := []) (by decide +kernel) (q := 177) (nq := 7) (kq := 7) ⟨by decide, rfl⟩ rfl rfl rfl rfl (xe_mono (C_X6_byteAt_177 s hG z75 (by first | exact x_rbe e_z75 g_z75 rfl rfl | exact x_rb g_z75 rfl rfl | exact ⟨by omega, by omega⟩)) ?_)
      rintro s77 v ⟨h_s77, z76, rfl, g_z76⟩
      rw [h_s77]
      show xe none 53 46 [(0, .ref 177), (1, .ref 2018), (2, vi x2)] [vi z76] s 0 0 _
      refine x_A k53_46 (fun _ => rfl) ?_
      refine x_A k53_47 (fun _ => rfl) ?_
      obtain ⟨z78, g_z78, x_z78⟩ := tx_char_17 x2 ⟨by omega, by omega⟩
      refine x_callX k53_48 (y := 223) (as := [.ref 2018, vi x2]) (rest := [vi z76]) (fun _ => rfl) rfl rfl x_z78 ?_
      refine x_ic_eq k53_51 (t := 56) rfl (by first | exact x_rbe e_z76 g_z76 rfl rfl | exact x_rb g_z76 rfl rfl | exact ⟨by omega, by omega⟩) (by first | exact x_rbe e_z78 g_z78 rfl rfl | exact x_rb g_z78 rfl rfl | exact ⟨by omega, by omega⟩) (fun c79 => ?_) (fun c79 => ?_)
      · skip
        refine x_iinc k53_56 (ls' := [(2, vi (x2 + 1)), (0, .ref 177), (1, .ref 2018)]) rfl (by decide) rfl ?_
        refine x_goto k53_59 (t := 28) rfl ?_
        refine x_ls (l := [(0, .ref 177), (1, .ref 2018), (2, vi (x2 + 1))]) (show ([0, 1, 2] : List Nat).Nodup from by decide +kernel) ⟨rfl, rfl, rfl, trivial⟩ ?_
        exact ih s (x2 + 1) hG f ⟨by omega, by omega⟩  (by omega)
      · skip
        refine x_A k53_54 (fun _ => rfl) ?_
        exact x_zret k53_55 rfl ⟨by omega, by omega⟩ ⟨hG, f, 0, rfl, ⟨by decide, by decide⟩⟩
theorem C_X6_isWord_177_2018 (s0 : xS) (hG0 : GI s0)  : xe none 53 0 (lv_args 0 [.ref 177, .ref 2018]) [] s0 0 0 (fun s' v => GI s' ∧ FL [] s0 s' ∧ ∃ z, v = some (vi z) ∧ (0 ≤ z ∧ z ≤ 1)) := by
  have f0 : FL [] s0 s0 := FL.rf
  show xe none 53 0 [(0, .ref 177), (1, .ref 2018)] [] s0 0 0 _
  refine x_A k53_0 (fun _ => rfl) ?_
  refine x_getI k53_1 (f := 2) rfl (q := 177) (n := 7) (kd := 7) ⟨by decide, rfl⟩ (by decide) rfl ?_
  refine x_top (fun z80 e_z80 => ?_)
  have g_z80 : (0 : Int) ≤ s0 177 2 ∧ s0 177 2 ≤ 3 := hG0 177 2
  refine x_A k53_4 (fun _ => rfl) ?_
  refine x_ic_ne k53_5 (t := 24) rfl (by first | exact x_rbe e_z80 g_z80 rfl rfl | exact x_rb g_z80 rfl rfl | exact ⟨by omega, by omega⟩) ⟨by decide, by decide⟩ (fun c81 => ?_) (fun c81 => ?_)
  · skip
    refine x_A k53_24 (fun _ => rfl) ?_
    exact x_zret k53_25 rfl ⟨by omega, by omega⟩ ⟨hG0, f0, 0, rfl, ⟨by decide, by decide⟩⟩
  · skip
    refine x_A k53_8 (fun _ => rfl) ?_
    refine x_getI k53_9 (f := 4) rfl (q := 177) (n := 7) (kd := 7) ⟨by decide, rfl⟩ (by decide) rfl ?_
    refine x_top (fun z82 e_z82 => ?_)
    have g_z82 : (0 : Int) ≤ s0 177 4 ∧ s0 177 4 ≤ 160 := hG0 177 4
    refine x_A k53_12 (fun _ => rfl) ?_
    refine x_getI k53_13 (f := 3) rfl (q := 177) (n := 7) (kd := 7) ⟨by decide, rfl⟩ (by decide) rfl ?_
    refine x_top (fun z83 e_z83 => ?_)
    have g_z83 : (0 : Int) ≤ s0 177 3 ∧ s0 177 3 ≤ 160 := hG0 177 3
    refine x_isub k53_16 ?_
    refine x_top (fun z84 e_z84 => ?_)
    refine x_A k53_17 (fun _ => rfl) ?_
    refine x_callX k53_18 (y := 222) (as := [.ref 2018]) (rest := [vi z84]) (fun _ => rfl) rfl rfl tx_len_17 ?_
    refine x_ic_eq k53_21 (t := 26) rfl (by first | exact x_rbe e_z84 g_z84 rfl rfl | exact x_rb g_z84 rfl rfl | exact ⟨by omega, by omega⟩) ⟨by decide, by decide⟩ (fun c85 => ?_) (fun c85 => ?_)
    · skip
      refine x_A k53_26 (fun _ => rfl) ?_
      refine x_istore_n k53_27 (ls' := [(2, vi 0), (0, .ref 177), (1, .ref 2018)]) (by decide) rfl ?_
      refine x_ls (l := [(0, .ref 177), (1, .ref 2018), (2, vi 0)]) (show ([0, 1, 2] : List Nat).Nodup from by decide +kernel) ⟨rfl, rfl, rfl, trivial⟩ ?_
      exact L_C_X6_isWord_177_2018_28 s0   (((5 - 0) + 1 : Int)).toNat s0 0 hG0 f0 ⟨by decide, by decide⟩  (by omega)
    · skip
      refine x_A k53_24 (fun _ => rfl) ?_
      exact x_zret k53_25 rfl ⟨by omega, by omega⟩ ⟨hG0, f0, 0, rfl, ⟨by decide, by decide⟩⟩
theorem L_C_X6_isWord_177_2019_28 (s0 : xS)   : ∀ (n : Nat) (s : xS) (x2 : Int) (hG : GI s) (f : FL [] s0 s) (b_x2 : 0 ≤ x2 ∧ x2 ≤ 6)  (hm : (6 - x2) < (n : Int)), xe none 53 28 [(0, .ref 177), (1, .ref 2019), (2, vi x2)] [] s 0 0 (fun s' v => GI s' ∧ FL [] s0 s' ∧ ∃ z, v = some (vi z) ∧ (0 ≤ z ∧ z ≤ 1)) := by
  intro n
  induction n with
  | zero => intro s x2 hG f b_x2  hm; exfalso; omega
  | succ n ih =>
    intro s x2 hG f b_x2  hm
    refine x_A k53_28 (fun _ => rfl) ?_
    refine x_A k53_29 (fun _ => rfl) ?_
    refine x_callX k53_30 (y := 222) (as := [.ref 2019]) (rest := [vi x2]) (fun _ => rfl) rfl rfl tx_len_18 ?_
    refine x_ic_ge k53_33 (t := 62) rfl (by first | exact x_rb b_x2 rfl rfl | exact ⟨by omega, by omega⟩) ⟨by decide, by decide⟩ (fun c86 => ?_) (fun c86 => ?_)
    · skip
      refine x_A k53_62 (fun _ => rfl) ?_
      exact x_zret k53_63 rfl ⟨by omega, by omega⟩ ⟨hG, f, 1, rfl, ⟨by decide, by decide⟩⟩
    · skip
      refine x_A k53_36 (fun _ => rfl) ?_
      refine x_A k53_37 (fun _ => rfl) ?_
      refine x_getI k53_38 (f := 3) rfl (q := 177) (n := 7) (kd := 7) ⟨by decide, rfl⟩ (by decide) rfl ?_
      refine x_top (fun z87 e_z87 => ?_)
      have g_z87 : (0 : Int) ≤ s 177 3 ∧ s 177 3 ≤ 160 := hG 177 3
      refine x_A k53_41 (fun _ => rfl) ?_
      refine x_iadd k53_42 ?_
      refine x_top (fun z88 e_z88 => ?_)
      refine x_callV k53_43 (y := 49) (n := 1) (w0 := 0) (w1 := 1) (as := [vi z88]) (rest := []) (by decide +kernel) (q := 177) (nq := 7) (kq := 7) ⟨by decide, rfl⟩ rfl rfl rfl rfl (xe_mono (C_X6_byteAt_177 s hG z88 (by first | exact x_rbe e_z88 g_z88 rfl rfl | exact x_rb g_z88 rfl rfl | exact ⟨by omega, by omega⟩)) ?_)
      rintro s90 v ⟨h_s90, z89, rfl, g_z89⟩
      rw [h_s90]
      show xe none 53 46 [(0, .ref 177), (1, .ref 2019), (2, vi x2)] [vi z89] s 0 0 _
      refine x_A k53_46 (fun _ => rfl) ?_
      refine x_A k53_47 (fun _ => rfl) ?_
      obtain ⟨z91, g_z91, x_z91⟩ := tx_char_18 x2 ⟨by omega, by omega⟩
      refine x_callX k53_48 (y := 223) (as := [.ref 2019, vi x2]) (rest := [vi z89]) (fun _ => rfl) rfl rfl x_z91 ?_
      refine x_ic_eq k53_51 (t := 56) rfl (by first | exact x_rbe e_z89 g_z89 rfl rfl | exact x_rb g_z89 rfl rfl | exact ⟨by omega, by omega⟩) (by first | exact x_rbe e_z91 g_z91 rfl rfl | exact x_rb g_z91 rfl rfl | exact ⟨by omega, by omega⟩) (fun c92 => ?_) (fun c92 => ?_)
      · skip
        refine x_iinc k53_56 (ls' := [(2, vi (x2 + 1)), (0, .ref 177), (1, .ref 2019)]) rfl (by decide) rfl ?_
        refine x_goto k53_59 (t := 28) rfl ?_
        refine x_ls (l := [(0, .ref 177), (1, .ref 2019), (2, vi (x2 + 1))]) (show ([0, 1, 2] : List Nat).Nodup from by decide +kernel) ⟨rfl, rfl, rfl, trivial⟩ ?_
        exact ih s (x2 + 1) hG f ⟨by omega, by omega⟩  (by omega)
      · skip
        refine x_A k53_54 (fun _ => rfl) ?_
        exact x_zret k53_55 rfl ⟨by omega, by omega⟩ ⟨hG, f, 0, rfl, ⟨by decide, by decide⟩⟩
theorem C_X6_isWord_177_2019 (s0 : xS) (hG0 : GI s0)  : xe none 53 0 (lv_args 0 [.ref 177, .ref 2019]) [] s0 0 0 (fun s' v => GI s' ∧ FL [] s0 s' ∧ ∃ z, v = some (vi z) ∧ (0 ≤ z ∧ z ≤ 1)) := by
  have f0 : FL [] s0 s0 := FL.rf
  show xe none 53 0 [(0, .ref 177), (1, .ref 2019)] [] s0 0 0 _
  refine x_A k53_0 (fun _ => rfl) ?_
  refine x_getI k53_1 (f := 2) rfl (q := 177) (n := 7) (kd := 7) ⟨by decide, rfl⟩ (by decide) rfl ?_
  refine x_top (fun z93 e_z93 => ?_)
  have g_z93 : (0 : Int) ≤ s0 177 2 ∧ s0 177 2 ≤ 3 := hG0 177 2
  refine x_A k53_4 (fun _ => rfl) ?_
  refine x_ic_ne k53_5 (t := 24) rfl (by first | exact x_rbe e_z93 g_z93 rfl rfl | exact x_rb g_z93 rfl rfl | exact ⟨by omega, by omega⟩) ⟨by decide, by decide⟩ (fun c94 => ?_) (fun c94 => ?_)
  · skip
    refine x_A k53_24 (fun _ => rfl) ?_
    exact x_zret k53_25 rfl ⟨by omega, by omega⟩ ⟨hG0, f0, 0, rfl, ⟨by decide, by decide⟩⟩
  · skip
    refine x_A k53_8 (fun _ => rfl) ?_
    refine x_getI k53_9 (f := 4) rfl (q := 177) (n := 7) (kd := 7) ⟨by decide, rfl⟩ (by decide) rfl ?_
    refine x_top (fun z95 e_z95 => ?_)
    have g_z95 : (0 : Int) ≤ s0 177 4 ∧ s0 177 4 ≤ 160 := hG0 177 4
    refine x_A k53_12 (fun _ => rfl) ?_
    refine x_getI k53_13 (f := 3) rfl (q := 177) (n := 7) (kd := 7) ⟨by decide, rfl⟩ (by decide) rfl ?_
    refine x_top (fun z96 e_z96 => ?_)
    have g_z96 : (0 : Int) ≤ s0 177 3 ∧ s0 177 3 ≤ 160 := hG0 177 3
    refine x_isub k53_16 ?_
    refine x_top (fun z97 e_z97 => ?_)
    refine x_A k53_17 (fun _ => rfl) ?_
    refine x_callX k53_18 (y := 222) (as := [.ref 2019]) (rest := [vi z97]) (fun _ => rfl) rfl rfl tx_len_18 ?_
    refine x_ic_eq k53_21 (t := 26) rfl (by first | exact x_rbe e_z97 g_z97 rfl rfl | exact x_rb g_z97 rfl rfl | exact ⟨by omega, by omega⟩) ⟨by decide, by decide⟩ (fun c98 => ?_) (fun c98 => ?_)
    · skip
      refine x_A k53_26 (fun _ => rfl) ?_
      refine x_istore_n k53_27 (ls' := [(2, vi 0), (0, .ref 177), (1, .ref 2019)]) (by decide) rfl ?_
      refine x_ls (l := [(0, .ref 177), (1, .ref 2019), (2, vi 0)]) (show ([0, 1, 2] : List Nat).Nodup from by decide +kernel) ⟨rfl, rfl, rfl, trivial⟩ ?_
      exact L_C_X6_isWord_177_2019_28 s0   (((6 - 0) + 1 : Int)).toNat s0 0 hG0 f0 ⟨by decide, by decide⟩  (by omega)
    · skip
      refine x_A k53_24 (fun _ => rfl) ?_
      exact x_zret k53_25 rfl ⟨by omega, by omega⟩ ⟨hG0, f0, 0, rfl, ⟨by decide, by decide⟩⟩
theorem C_X6_takeWord_177_2015 (s0 : xS) (hG0 : GI s0)  : xe none 55 0 (lv_args 0 [.ref 177, .ref 2015]) [] s0 0 0 (fun s' v => GI s' ∧ FL [1219, 1220, 1221, 1222, 1223] s0 s' ∧ v = none ∧ (s' 177 5 = 0 → s0 177 5 = 0)) := by
  have f0 : FL [1219, 1220, 1221, 1222, 1223] s0 s0 := FL.rf
  show xe none 55 0 [(0, .ref 177), (1, .ref 2015)] [] s0 0 0 _
  refine x_A k55_0 (fun _ => rfl) ?_
  refine x_A k55_1 (fun _ => rfl) ?_
  refine x_callV k55_2 (y := 53) (n := 1) (w0 := 0) (w1 := 1) (as := [.ref 2015]) (rest := []) (by decide +kernel) (q := 177) (nq := 7) (kq := 7) ⟨by decide, rfl⟩ rfl rfl rfl rfl (xe_mono (C_X6_isWord_177_2015 s0 hG0) ?_)
  rintro s2 v ⟨-, t_s2, z1, rfl, g_z1⟩
  rw [t_s2.nil]
  show xe none 55 5 [(0, .ref 177), (1, .ref 2015)] [vi z1] s0 0 0 _
  refine x_if_ne k55_5 (t := 17) rfl (by first | exact x_rbe e_z1 g_z1 rfl rfl | exact x_rb g_z1 rfl rfl | exact ⟨by omega, by omega⟩) (fun c3 => ?_) (fun c3 => ?_)
  · skip
    refine x_A k55_17 (fun _ => rfl) ?_
    refine x_getI k55_18 (f := 5) rfl (q := 177) (n := 7) (kd := 7) ⟨by decide, rfl⟩ (by decide) rfl ?_
    refine x_top (fun z4 e_z4 => ?_)
    have g_z4 : (0 : Int) ≤ s0 177 5 ∧ s0 177 5 ≤ 5 := hG0 177 5
    refine x_if_ne k55_21 (t := 28) rfl (by first | exact x_rbe e_z4 g_z4 rfl rfl | exact x_rb g_z4 rfl rfl | exact ⟨by omega, by omega⟩) (fun c5 => ?_) (fun c5 => ?_)
    · skip
      exact x_vret k55_28 rfl ⟨hG0, f0, rfl, by omega⟩
    · skip
      refine x_A k55_24 (fun _ => rfl) ?_
      refine x_callV k55_25 (y := 51) (n := 0) (w0 := 0) (w1 := 0) (as := []) (rest := []) (by decide +kernel) (q := 177) (nq := 7) (kq := 7) ⟨by decide, rfl⟩ rfl rfl rfl rfl (xe_mono (C_X6_advance_177 s0 hG0) ?_)
      rintro s7 v ⟨hG_s7, t_s7, rfl⟩
      have f_s7 : FL [1219, 1220, 1221, 1222, 1223] s0 s7 := f0.tr t_s7 (by decide +kernel)
      have q8 : s7 177 5 = z4 := (t_s7 177 5 (show 1222 ∉ [1219, 1220, 1221] from by decide +kernel)).trans e_z4.symm
      show xe none 55 28 [(0, .ref 177), (1, .ref 2015)] [] s7 0 0 _
      exact x_vret k55_28 rfl ⟨hG_s7, f_s7, rfl, by omega⟩
  · skip
    refine x_A k55_8 (fun _ => rfl) ?_
    refine x_A k55_9 (fun _ => rfl) ?_
    refine x_A k55_10 (fun _ => rfl) ?_
    refine x_getI k55_11 (f := 3) rfl (q := 177) (n := 7) (kd := 7) ⟨by decide, rfl⟩ (by decide) rfl ?_
    refine x_top (fun z9 e_z9 => ?_)
    have g_z9 : (0 : Int) ≤ s0 177 3 ∧ s0 177 3 ≤ 160 := hG0 177 3
    refine x_callV k55_14 (y := 52) (n := 2) (w0 := 0) (w1 := 2) (as := [vi 1, vi z9]) (rest := []) (by decide +kernel) (q := 177) (nq := 7) (kq := 7) ⟨by decide, rfl⟩ rfl rfl rfl rfl (xe_mono (C_X6_fail_177 s0 hG0 1 ⟨by decide, by decide⟩ z9 (by first | exact x_rbe e_z9 g_z9 rfl rfl | exact x_rb g_z9 rfl rfl | exact ⟨by omega, by omega⟩)) ?_)
    rintro s11 v ⟨hG_s11, t_s11, rfl, xp_z10⟩
    have f_s11 : FL [1219, 1220, 1221, 1222, 1223] s0 s11 := f0.tr t_s11 (by decide +kernel)
    have q12 : s11 177 3 = z9 := (t_s11 177 3 (show 1220 ∉ [1222, 1223] from by decide +kernel)).trans e_z9.symm
    obtain ⟨z13, e_z13⟩ : ∃ z, z = s11 177 5 := ⟨_, rfl⟩
    have g_z13 : (0 : Int) ≤ s11 177 5 ∧ s11 177 5 ≤ 5 := hG_s11 177 5
    show xe none 55 17 [(0, .ref 177), (1, .ref 2015)] [] s11 0 0 _
    refine x_A k55_17 (fun _ => rfl) ?_
    refine x_getI k55_18 (f := 5) rfl (q := 177) (n := 7) (kd := 7) ⟨by decide, rfl⟩ (by decide) rfl ?_
    rw [e_z13.symm]
    refine x_if_ne k55_21 (t := 28) rfl (by first | exact x_rbe e_z13 g_z13 rfl rfl | exact x_rb g_z13 rfl rfl | exact ⟨by omega, by omega⟩) (fun c14 => ?_) (fun c14 => ?_)
    · skip
      exact x_vret k55_28 rfl ⟨hG_s11, f_s11, rfl, by omega⟩
    · skip
      refine x_A k55_24 (fun _ => rfl) ?_
      refine x_callV k55_25 (y := 51) (n := 0) (w0 := 0) (w1 := 0) (as := []) (rest := []) (by decide +kernel) (q := 177) (nq := 7) (kq := 7) ⟨by decide, rfl⟩ rfl rfl rfl rfl (xe_mono (C_X6_advance_177 s11 hG_s11) ?_)
      rintro s16 v ⟨hG_s16, t_s16, rfl⟩
      have f_s16 : FL [1219, 1220, 1221, 1222, 1223] s0 s16 := f_s11.tr t_s16 (by decide +kernel)
      have q17 : s16 177 5 = z13 := (t_s16 177 5 (show 1222 ∉ [1219, 1220, 1221] from by decide +kernel)).trans e_z13.symm
      show xe none 55 28 [(0, .ref 177), (1, .ref 2015)] [] s16 0 0 _
      exact x_vret k55_28 rfl ⟨hG_s16, f_s16, rfl, by omega⟩
theorem C_X6_takeWord_177_2016 (s0 : xS) (hG0 : GI s0)  : xe none 55 0 (lv_args 0 [.ref 177, .ref 2016]) [] s0 0 0 (fun s' v => GI s' ∧ FL [1219, 1220, 1221, 1222, 1223] s0 s' ∧ v = none ∧ (s' 177 5 = 0 → s0 177 5 = 0)) := by
  have f0 : FL [1219, 1220, 1221, 1222, 1223] s0 s0 := FL.rf
  show xe none 55 0 [(0, .ref 177), (1, .ref 2016)] [] s0 0 0 _
  refine x_A k55_0 (fun _ => rfl) ?_
  refine x_A k55_1 (fun _ => rfl) ?_
  refine x_callV k55_2 (y := 53) (n := 1) (w0 := 0) (w1 := 1) (as := [.ref 2016]) (rest := []) (by decide +kernel) (q := 177) (nq := 7) (kq := 7) ⟨by decide, rfl⟩ rfl rfl rfl rfl (xe_mono (C_X6_isWord_177_2016 s0 hG0) ?_)
  rintro s2 v ⟨-, t_s2, z1, rfl, g_z1⟩
  rw [t_s2.nil]
  show xe none 55 5 [(0, .ref 177), (1, .ref 2016)] [vi z1] s0 0 0 _
  refine x_if_ne k55_5 (t := 17) rfl (by first | exact x_rbe e_z1 g_z1 rfl rfl | exact x_rb g_z1 rfl rfl | exact ⟨by omega, by omega⟩) (fun c3 => ?_) (fun c3 => ?_)
  · skip
    refine x_A k55_17 (fun _ => rfl) ?_
    refine x_getI k55_18 (f := 5) rfl (q := 177) (n := 7) (kd := 7) ⟨by decide, rfl⟩ (by decide) rfl ?_
    refine x_top (fun z4 e_z4 => ?_)
    have g_z4 : (0 : Int) ≤ s0 177 5 ∧ s0 177 5 ≤ 5 := hG0 177 5
    refine x_if_ne k55_21 (t := 28) rfl (by first | exact x_rbe e_z4 g_z4 rfl rfl | exact x_rb g_z4 rfl rfl | exact ⟨by omega, by omega⟩) (fun c5 => ?_) (fun c5 => ?_)
    · skip
      exact x_vret k55_28 rfl ⟨hG0, f0, rfl, by omega⟩
    · skip
      refine x_A k55_24 (fun _ => rfl) ?_
      refine x_callV k55_25 (y := 51) (n := 0) (w0 := 0) (w1 := 0) (as := []) (rest := []) (by decide +kernel) (q := 177) (nq := 7) (kq := 7) ⟨by decide, rfl⟩ rfl rfl rfl rfl (xe_mono (C_X6_advance_177 s0 hG0) ?_)
      rintro s7 v ⟨hG_s7, t_s7, rfl⟩
      have f_s7 : FL [1219, 1220, 1221, 1222, 1223] s0 s7 := f0.tr t_s7 (by decide +kernel)
      have q8 : s7 177 5 = z4 := (t_s7 177 5 (show 1222 ∉ [1219, 1220, 1221] from by decide +kernel)).trans e_z4.symm
      show xe none 55 28 [(0, .ref 177), (1, .ref 2016)] [] s7 0 0 _
      exact x_vret k55_28 rfl ⟨hG_s7, f_s7, rfl, by omega⟩
  · skip
    refine x_A k55_8 (fun _ => rfl) ?_
    refine x_A k55_9 (fun _ => rfl) ?_
    refine x_A k55_10 (fun _ => rfl) ?_
    refine x_getI k55_11 (f := 3) rfl (q := 177) (n := 7) (kd := 7) ⟨by decide, rfl⟩ (by decide) rfl ?_
    refine x_top (fun z9 e_z9 => ?_)
    have g_z9 : (0 : Int) ≤ s0 177 3 ∧ s0 177 3 ≤ 160 := hG0 177 3
    refine x_callV k55_14 (y := 52) (n := 2) (w0 := 0) (w1 := 2) (as := [vi 1, vi z9]) (rest := []) (by decide +kernel) (q := 177) (nq := 7) (kq := 7) ⟨by decide, rfl⟩ rfl rfl rfl rfl (xe_mono (C_X6_fail_177 s0 hG0 1 ⟨by decide, by decide⟩ z9 (by first | exact x_rbe e_z9 g_z9 rfl rfl | exact x_rb g_z9 rfl rfl | exact ⟨by omega, by omega⟩)) ?_)
    rintro s11 v ⟨hG_s11, t_s11, rfl, xp_z10⟩
    have f_s11 : FL [1219, 1220, 1221, 1222, 1223] s0 s11 := f0.tr t_s11 (by decide +kernel)
    have q12 : s11 177 3 = z9 := (t_s11 177 3 (show 1220 ∉ [1222, 1223] from by decide +kernel)).trans e_z9.symm
    obtain ⟨z13, e_z13⟩ : ∃ z, z = s11 177 5 := ⟨_, rfl⟩
    have g_z13 : (0 : Int) ≤ s11 177 5 ∧ s11 177 5 ≤ 5 := hG_s11 177 5
    show xe none 55 17 [(0, .ref 177), (1, .ref 2016)] [] s11 0 0 _
    refine x_A k55_17 (fun _ => rfl) ?_
    refine x_getI k55_18 (f := 5) rfl (q := 177) (n := 7) (kd := 7) ⟨by decide, rfl⟩ (by decide) rfl ?_
    rw [e_z13.symm]
    refine x_if_ne k55_21 (t := 28) rfl (by first | exact x_rbe e_z13 g_z13 rfl rfl | exact x_rb g_z13 rfl rfl | exact ⟨by omega, by omega⟩) (fun c14 => ?_) (fun c14 => ?_)
    · skip
      exact x_vret k55_28 rfl ⟨hG_s11, f_s11, rfl, by omega⟩
    · skip
      refine x_A k55_24 (fun _ => rfl) ?_
      refine x_callV k55_25 (y := 51) (n := 0) (w0 := 0) (w1 := 0) (as := []) (rest := []) (by decide +kernel) (q := 177) (nq := 7) (kq := 7) ⟨by decide, rfl⟩ rfl rfl rfl rfl (xe_mono (C_X6_advance_177 s11 hG_s11) ?_)
      rintro s16 v ⟨hG_s16, t_s16, rfl⟩
      have f_s16 : FL [1219, 1220, 1221, 1222, 1223] s0 s16 := f_s11.tr t_s16 (by decide +kernel)
      have q17 : s16 177 5 = z13 := (t_s16 177 5 (show 1222 ∉ [1219, 1220, 1221] from by decide +kernel)).trans e_z13.symm
      show xe none 55 28 [(0, .ref 177), (1, .ref 2016)] [] s16 0 0 _
      exact x_vret k55_28 rfl ⟨hG_s16, f_s16, rfl, by omega⟩
theorem C_X0_oneKind_177 (s0 : xS) (hG0 : GI s0)  : xe none 6 0 (lv_args 0 [.ref 177]) [] s0 0 0 (fun s' v => GI s' ∧ FL [] s0 s' ∧ ∃ z, v = some (vi z) ∧ ((-1) ≤ z ∧ z ≤ 5)) := by
  have f0 : FL [] s0 s0 := FL.rf
  show xe none 6 0 [(0, .ref 177)] [] s0 0 0 _
  refine x_A k6_0 (fun _ => rfl) ?_
  refine x_ldcR k6_1 (q := 2002) rfl ?_
  refine x_callV k6_3 (y := 53) (n := 1) (w0 := 0) (w1 := 1) (as := [.ref 2002]) (rest := []) (by decide +kernel) (q := 177) (nq := 7) (kq := 7) ⟨by decide, rfl⟩ rfl rfl rfl rfl (xe_mono (C_X6_isWord_177_2002 s0 hG0) ?_)
  rintro s2 v ⟨-, t_s2, z1, rfl, g_z1⟩
  rw [t_s2.nil]
  show xe none 6 6 [(0, .ref 177)] [vi z1] s0 0 0 _
  refine x_if_eq k6_6 (t := 11) rfl (by first | exact x_rbe e_z1 g_z1 rfl rfl | exact x_rb g_z1 rfl rfl | exact ⟨by omega, by omega⟩) (fun c3 => ?_) (fun c3 => ?_)
  · skip
    refine x_A k6_11 (fun _ => rfl) ?_
    refine x_ldcR k6_12 (q := 2003) rfl ?_
    refine x_callV k6_14 (y := 53) (n := 1) (w0 := 0) (w1 := 1) (as := [.ref 2003]) (rest := []) (by decide +kernel) (q := 177) (nq := 7) (kq := 7) ⟨by decide, rfl⟩ rfl rfl rfl rfl (xe_mono (C_X6_isWord_177_2003 s0 hG0) ?_)
    rintro s5 v ⟨-, t_s5, z4, rfl, g_z4⟩
    rw [t_s5.nil]
    show xe none 6 17 [(0, .ref 177)] [vi z4] s0 0 0 _
    refine x_if_eq k6_17 (t := 22) rfl (by first | exact x_rbe e_z4 g_z4 rfl rfl | exact x_rb g_z4 rfl rfl | exact ⟨by omega, by omega⟩) (fun c6 => ?_) (fun c6 => ?_)
    · skip
      refine x_A k6_22 (fun _ => rfl) ?_
      refine x_ldcR k6_23 (q := 2004) rfl ?_
      refine x_callV k6_25 (y := 53) (n := 1) (w0 := 0) (w1 := 1) (as := [.ref 2004]) (rest := []) (by decide +kernel) (q := 177) (nq := 7) (kq := 7) ⟨by decide, rfl⟩ rfl rfl rfl rfl (xe_mono (C_X6_isWord_177_2004 s0 hG0) ?_)
      rintro s8 v ⟨-, t_s8, z7, rfl, g_z7⟩
      rw [t_s8.nil]
      show xe none 6 28 [(0, .ref 177)] [vi z7] s0 0 0 _
      refine x_if_eq k6_28 (t := 33) rfl (by first | exact x_rbe e_z7 g_z7 rfl rfl | exact x_rb g_z7 rfl rfl | exact ⟨by omega, by omega⟩) (fun c9 => ?_) (fun c9 => ?_)
      · skip
        refine x_A k6_33 (fun _ => rfl) ?_
        refine x_ldcR k6_34 (q := 2005) rfl ?_
        refine x_callV k6_36 (y := 53) (n := 1) (w0 := 0) (w1 := 1) (as := [.ref 2005]) (rest := []) (by decide +kernel) (q := 177) (nq := 7) (kq := 7) ⟨by decide, rfl⟩ rfl rfl rfl rfl (xe_mono (C_X6_isWord_177_2005 s0 hG0) ?_)
        rintro s11 v ⟨-, t_s11, z10, rfl, g_z10⟩
        rw [t_s11.nil]
        show xe none 6 39 [(0, .ref 177)] [vi z10] s0 0 0 _
        refine x_if_eq k6_39 (t := 44) rfl (by first | exact x_rbe e_z10 g_z10 rfl rfl | exact x_rb g_z10 rfl rfl | exact ⟨by omega, by omega⟩) (fun c12 => ?_) (fun c12 => ?_)
        · skip
          refine x_A k6_44 (fun _ => rfl) ?_
          refine x_ldcR k6_45 (q := 2006) rfl ?_
          refine x_callV k6_47 (y := 53) (n := 1) (w0 := 0) (w1 := 1) (as := [.ref 2006]) (rest := []) (by decide +kernel) (q := 177) (nq := 7) (kq := 7) ⟨by decide, rfl⟩ rfl rfl rfl rfl (xe_mono (C_X6_isWord_177_2006 s0 hG0) ?_)
          rintro s14 v ⟨-, t_s14, z13, rfl, g_z13⟩
          rw [t_s14.nil]
          show xe none 6 50 [(0, .ref 177)] [vi z13] s0 0 0 _
          refine x_if_eq k6_50 (t := 55) rfl (by first | exact x_rbe e_z13 g_z13 rfl rfl | exact x_rb g_z13 rfl rfl | exact ⟨by omega, by omega⟩) (fun c15 => ?_) (fun c15 => ?_)
          · skip
            refine x_A k6_55 (fun _ => rfl) ?_
            exact x_iret k6_56 rfl ⟨hG0, f0, (-1), rfl, ⟨by decide, by decide⟩⟩
          · skip
            refine x_A k6_53 (fun _ => rfl) ?_
            exact x_iret k6_54 rfl ⟨hG0, f0, 5, rfl, ⟨by decide, by decide⟩⟩
        · skip
          refine x_A k6_42 (fun _ => rfl) ?_
          exact x_iret k6_43 rfl ⟨hG0, f0, 4, rfl, ⟨by decide, by decide⟩⟩
      · skip
        refine x_A k6_31 (fun _ => rfl) ?_
        exact x_iret k6_32 rfl ⟨hG0, f0, 3, rfl, ⟨by decide, by decide⟩⟩
    · skip
      refine x_A k6_20 (fun _ => rfl) ?_
      exact x_iret k6_21 rfl ⟨hG0, f0, 2, rfl, ⟨by decide, by decide⟩⟩
  · skip
    refine x_A k6_9 (fun _ => rfl) ?_
    exact x_iret k6_10 rfl ⟨hG0, f0, 1, rfl, ⟨by decide, by decide⟩⟩
theorem C_X4_clauseKind_177 (s0 : xS) (hG0 : GI s0)  : xe none 36 0 (lv_args 0 [.ref 177]) [] s0 0 0 (fun s' v => GI s' ∧ FL [] s0 s' ∧ ∃ z, v = some (vi z) ∧ ((-1) ≤ z ∧ z ≤ 6)) := by
  have f0 : FL [] s0 s0 := FL.rf
  show xe none 36 0 [(0, .ref 177)] [] s0 0 0 _
  refine x_A k36_0 (fun _ => rfl) ?_
  refine x_ldcR k36_1 (q := 2009) rfl ?_
  refine x_callV k36_3 (y := 53) (n := 1) (w0 := 0) (w1 := 1) (as := [.ref 2009]) (rest := []) (by decide +kernel) (q := 177) (nq := 7) (kq := 7) ⟨by decide, rfl⟩ rfl rfl rfl rfl (xe_mono (C_X6_isWord_177_2009 s0 hG0) ?_)
  rintro s2 v ⟨-, t_s2, z1, rfl, g_z1⟩
  rw [t_s2.nil]
  show xe none 36 6 [(0, .ref 177)] [vi z1] s0 0 0 _
  refine x_if_eq k36_6 (t := 11) rfl (by first | exact x_rbe e_z1 g_z1 rfl rfl | exact x_rb g_z1 rfl rfl | exact ⟨by omega, by omega⟩) (fun c3 => ?_) (fun c3 => ?_)
  · skip
    refine x_A k36_11 (fun _ => rfl) ?_
    refine x_ldcR k36_12 (q := 2010) rfl ?_
    refine x_callV k36_14 (y := 53) (n := 1) (w0 := 0) (w1 := 1) (as := [.ref 2010]) (rest := []) (by decide +kernel) (q := 177) (nq := 7) (kq := 7) ⟨by decide, rfl⟩ rfl rfl rfl rfl (xe_mono (C_X6_isWord_177_2010 s0 hG0) ?_)
    rintro s5 v ⟨-, t_s5, z4, rfl, g_z4⟩
    rw [t_s5.nil]
    show xe none 36 17 [(0, .ref 177)] [vi z4] s0 0 0 _
    refine x_if_eq k36_17 (t := 22) rfl (by first | exact x_rbe e_z4 g_z4 rfl rfl | exact x_rb g_z4 rfl rfl | exact ⟨by omega, by omega⟩) (fun c6 => ?_) (fun c6 => ?_)
    · skip
      refine x_A k36_22 (fun _ => rfl) ?_
      refine x_ldcR k36_23 (q := 2011) rfl ?_
      refine x_callV k36_25 (y := 53) (n := 1) (w0 := 0) (w1 := 1) (as := [.ref 2011]) (rest := []) (by decide +kernel) (q := 177) (nq := 7) (kq := 7) ⟨by decide, rfl⟩ rfl rfl rfl rfl (xe_mono (C_X6_isWord_177_2011 s0 hG0) ?_)
      rintro s8 v ⟨-, t_s8, z7, rfl, g_z7⟩
      rw [t_s8.nil]
      show xe none 36 28 [(0, .ref 177)] [vi z7] s0 0 0 _
      refine x_if_eq k36_28 (t := 33) rfl (by first | exact x_rbe e_z7 g_z7 rfl rfl | exact x_rb g_z7 rfl rfl | exact ⟨by omega, by omega⟩) (fun c9 => ?_) (fun c9 => ?_)
      · skip
        refine x_A k36_33 (fun _ => rfl) ?_
        refine x_ldcR k36_34 (q := 2012) rfl ?_
        refine x_callV k36_36 (y := 53) (n := 1) (w0 := 0) (w1 := 1) (as := [.ref 2012]) (rest := []) (by decide +kernel) (q := 177) (nq := 7) (kq := 7) ⟨by decide, rfl⟩ rfl rfl rfl rfl (xe_mono (C_X6_isWord_177_2012 s0 hG0) ?_)
        rintro s11 v ⟨-, t_s11, z10, rfl, g_z10⟩
        rw [t_s11.nil]
        show xe none 36 39 [(0, .ref 177)] [vi z10] s0 0 0 _
        refine x_if_eq k36_39 (t := 44) rfl (by first | exact x_rbe e_z10 g_z10 rfl rfl | exact x_rb g_z10 rfl rfl | exact ⟨by omega, by omega⟩) (fun c12 => ?_) (fun c12 => ?_)
        · skip
          refine x_A k36_44 (fun _ => rfl) ?_
          refine x_ldcR k36_45 (q := 2013) rfl ?_
          refine x_callV k36_47 (y := 53) (n := 1) (w0 := 0) (w1 := 1) (as := [.ref 2013]) (rest := []) (by decide +kernel) (q := 177) (nq := 7) (kq := 7) ⟨by decide, rfl⟩ rfl rfl rfl rfl (xe_mono (C_X6_isWord_177_2013 s0 hG0) ?_)
          rintro s14 v ⟨-, t_s14, z13, rfl, g_z13⟩
          rw [t_s14.nil]
          show xe none 36 50 [(0, .ref 177)] [vi z13] s0 0 0 _
          refine x_if_eq k36_50 (t := 55) rfl (by first | exact x_rbe e_z13 g_z13 rfl rfl | exact x_rb g_z13 rfl rfl | exact ⟨by omega, by omega⟩) (fun c15 => ?_) (fun c15 => ?_)
          · skip
            refine x_A k36_55 (fun _ => rfl) ?_
            refine x_ldcR k36_56 (q := 2014) rfl ?_
            refine x_callV k36_58 (y := 53) (n := 1) (w0 := 0) (w1 := 1) (as := [.ref 2014]) (rest := []) (by decide +kernel) (q := 177) (nq := 7) (kq := 7) ⟨by decide, rfl⟩ rfl rfl rfl rfl (xe_mono (C_X6_isWord_177_2014 s0 hG0) ?_)
            rintro s17 v ⟨-, t_s17, z16, rfl, g_z16⟩
            rw [t_s17.nil]
            show xe none 36 61 [(0, .ref 177)] [vi z16] s0 0 0 _
            refine x_if_eq k36_61 (t := 67) rfl (by first | exact x_rbe e_z16 g_z16 rfl rfl | exact x_rb g_z16 rfl rfl | exact ⟨by omega, by omega⟩) (fun c18 => ?_) (fun c18 => ?_)
            · skip
              refine x_A k36_67 (fun _ => rfl) ?_
              exact x_iret k36_68 rfl ⟨hG0, f0, (-1), rfl, ⟨by decide, by decide⟩⟩
            · skip
              refine x_bipush k36_64 (by decide +kernel) ?_
              exact x_iret k36_66 rfl ⟨hG0, f0, 6, rfl, ⟨by decide, by decide⟩⟩
          · skip
            refine x_A k36_53 (fun _ => rfl) ?_
            exact x_iret k36_54 rfl ⟨hG0, f0, 5, rfl, ⟨by decide, by decide⟩⟩
        · skip
          refine x_A k36_42 (fun _ => rfl) ?_
          exact x_iret k36_43 rfl ⟨hG0, f0, 4, rfl, ⟨by decide, by decide⟩⟩
      · skip
        refine x_A k36_31 (fun _ => rfl) ?_
        exact x_iret k36_32 rfl ⟨hG0, f0, 3, rfl, ⟨by decide, by decide⟩⟩
    · skip
      refine x_A k36_20 (fun _ => rfl) ?_
      exact x_iret k36_21 rfl ⟨hG0, f0, 2, rfl, ⟨by decide, by decide⟩⟩
  · skip
    refine x_A k36_9 (fun _ => rfl) ?_
    exact x_iret k36_10 rfl ⟨hG0, f0, 1, rfl, ⟨by decide, by decide⟩⟩
theorem C_X4_readSense_177 (s0 : xS) (hG0 : GI s0)  : xe none 40 0 (lv_args 0 [.ref 177]) [] s0 0 0 (fun s' v => GI s' ∧ FL [1219, 1220, 1221, 1222, 1223] s0 s' ∧ ∃ z, v = some (vi z) ∧ ((-1) ≤ z ∧ z ≤ 2) ∧ (s' 177 5 = 0 → s0 177 5 = 0)) := by
  have f0 : FL [1219, 1220, 1221, 1222, 1223] s0 s0 := FL.rf
  show xe none 40 0 [(0, .ref 177)] [] s0 0 0 _
  refine x_A k40_0 (fun _ => rfl) ?_
  refine x_istore_n k40_1 (ls' := [(1, vi (-1)), (0, .ref 177)]) (by decide) rfl ?_
  refine x_A k40_2 (fun _ => rfl) ?_
  refine x_ldcR k40_3 (q := 2017) rfl ?_
  refine x_callV k40_5 (y := 53) (n := 1) (w0 := 0) (w1 := 1) (as := [.ref 2017]) (rest := []) (by decide +kernel) (q := 177) (nq := 7) (kq := 7) ⟨by decide, rfl⟩ rfl rfl rfl rfl (xe_mono (C_X6_isWord_177_2017 s0 hG0) ?_)
  rintro s2 v ⟨-, t_s2, z1, rfl, g_z1⟩
  rw [t_s2.nil]
  show xe none 40 8 [(1, vi (-1)), (0, .ref 177)] [vi z1] s0 0 0 _
  refine x_if_eq k40_8 (t := 13) rfl (by first | exact x_rbe e_z1 g_z1 rfl rfl | exact x_rb g_z1 rfl rfl | exact ⟨by omega, by omega⟩) (fun c3 => ?_) (fun c3 => ?_)
  · skip
    refine x_A k40_13 (fun _ => rfl) ?_
    refine x_ldcR k40_14 (q := 2018) rfl ?_
    refine x_callV k40_16 (y := 53) (n := 1) (w0 := 0) (w1 := 1) (as := [.ref 2018]) (rest := []) (by decide +kernel) (q := 177) (nq := 7) (kq := 7) ⟨by decide, rfl⟩ rfl rfl rfl rfl (xe_mono (C_X6_isWord_177_2018 s0 hG0) ?_)
    rintro s5 v ⟨-, t_s5, z4, rfl, g_z4⟩
    rw [t_s5.nil]
    show xe none 40 19 [(1, vi (-1)), (0, .ref 177)] [vi z4] s0 0 0 _
    refine x_if_eq k40_19 (t := 24) rfl (by first | exact x_rbe e_z4 g_z4 rfl rfl | exact x_rb g_z4 rfl rfl | exact ⟨by omega, by omega⟩) (fun c6 => ?_) (fun c6 => ?_)
    · skip
      refine x_A k40_24 (fun _ => rfl) ?_
      refine x_ldcR k40_25 (q := 2019) rfl ?_
      refine x_callV k40_27 (y := 53) (n := 1) (w0 := 0) (w1 := 1) (as := [.ref 2019]) (rest := []) (by decide +kernel) (q := 177) (nq := 7) (kq := 7) ⟨by decide, rfl⟩ rfl rfl rfl rfl (xe_mono (C_X6_isWord_177_2019 s0 hG0) ?_)
      rintro s8 v ⟨-, t_s8, z7, rfl, g_z7⟩
      rw [t_s8.nil]
      show xe none 40 30 [(1, vi (-1)), (0, .ref 177)] [vi z7] s0 0 0 _
      refine x_if_eq k40_30 (t := 35) rfl (by first | exact x_rbe e_z7 g_z7 rfl rfl | exact x_rb g_z7 rfl rfl | exact ⟨by omega, by omega⟩) (fun c9 => ?_) (fun c9 => ?_)
      · skip
        refine x_A k40_35 (fun _ => rfl) ?_
        refine x_A k40_36 (fun _ => rfl) ?_
        refine x_ic_ne k40_37 (t := 49) rfl ⟨by decide, by decide⟩ ⟨by decide, by decide⟩ (fun c10 => by exfalso; omega) (fun c10 => ?_)
        refine x_A k40_40 (fun _ => rfl) ?_
        refine x_A k40_41 (fun _ => rfl) ?_
        refine x_A k40_42 (fun _ => rfl) ?_
        refine x_getI k40_43 (f := 3) rfl (q := 177) (n := 7) (kd := 7) ⟨by decide, rfl⟩ (by decide) rfl ?_
        refine x_top (fun z11 e_z11 => ?_)
        have g_z11 : (0 : Int) ≤ s0 177 3 ∧ s0 177 3 ≤ 160 := hG0 177 3
        refine x_callV k40_46 (y := 52) (n := 2) (w0 := 0) (w1 := 2) (as := [vi 1, vi z11]) (rest := []) (by decide +kernel) (q := 177) (nq := 7) (kq := 7) ⟨by decide, rfl⟩ rfl rfl rfl rfl (xe_mono (C_X6_fail_177 s0 hG0 1 ⟨by decide, by decide⟩ z11 (by first | exact x_rbe e_z11 g_z11 rfl rfl | exact x_rb g_z11 rfl rfl | exact ⟨by omega, by omega⟩)) ?_)
        rintro s13 v ⟨hG_s13, t_s13, rfl, xp_z12⟩
        have f_s13 : FL [1219, 1220, 1221, 1222, 1223] s0 s13 := f0.tr t_s13 (by decide +kernel)
        have q14 : s13 177 3 = z11 := (t_s13 177 3 (show 1220 ∉ [1222, 1223] from by decide +kernel)).trans e_z11.symm
        obtain ⟨z15, e_z15⟩ : ∃ z, z = s13 177 5 := ⟨_, rfl⟩
        have g_z15 : (0 : Int) ≤ s13 177 5 ∧ s13 177 5 ≤ 5 := hG_s13 177 5
        show xe none 40 49 [(1, vi (-1)), (0, .ref 177)] [] s13 0 0 _
        refine x_A k40_49 (fun _ => rfl) ?_
        refine x_getI k40_50 (f := 5) rfl (q := 177) (n := 7) (kd := 7) ⟨by decide, rfl⟩ (by decide) rfl ?_
        rw [e_z15.symm]
        refine x_if_ne k40_53 (t := 60) rfl (by first | exact x_rbe e_z15 g_z15 rfl rfl | exact x_rb g_z15 rfl rfl | exact ⟨by omega, by omega⟩) (fun c16 => ?_) (fun c16 => ?_)
        · skip
          refine x_A k40_60 (fun _ => rfl) ?_
          exact x_iret k40_61 rfl ⟨hG_s13, f_s13, (-1), rfl, ⟨by decide, by decide⟩, by omega⟩
        · skip
          refine x_A k40_56 (fun _ => rfl) ?_
          refine x_callV k40_57 (y := 51) (n := 0) (w0 := 0) (w1 := 0) (as := []) (rest := []) (by decide +kernel) (q := 177) (nq := 7) (kq := 7) ⟨by decide, rfl⟩ rfl rfl rfl rfl (xe_mono (C_X6_advance_177 s13 hG_s13) ?_)
          rintro s18 v ⟨hG_s18, t_s18, rfl⟩
          have f_s18 : FL [1219, 1220, 1221, 1222, 1223] s0 s18 := f_s13.tr t_s18 (by decide +kernel)
          have q19 : s18 177 5 = z15 := (t_s18 177 5 (show 1222 ∉ [1219, 1220, 1221] from by decide +kernel)).trans e_z15.symm
          show xe none 40 60 [(1, vi (-1)), (0, .ref 177)] [] s18 0 0 _
          refine x_A k40_60 (fun _ => rfl) ?_
          exact x_iret k40_61 rfl ⟨hG_s18, f_s18, (-1), rfl, ⟨by decide, by decide⟩, by omega⟩
      · skip
        refine x_A k40_33 (fun _ => rfl) ?_
        refine x_istore_n k40_34 (ls' := [(1, vi 2), (0, .ref 177)]) (by decide) rfl ?_
        refine x_A k40_35 (fun _ => rfl) ?_
        refine x_A k40_36 (fun _ => rfl) ?_
        refine x_ic_ne k40_37 (t := 49) rfl ⟨by decide, by decide⟩ ⟨by decide, by decide⟩ (fun c20 => ?_) (fun c20 => by exfalso; omega)
        refine x_A k40_49 (fun _ => rfl) ?_
        refine x_getI k40_50 (f := 5) rfl (q := 177) (n := 7) (kd := 7) ⟨by decide, rfl⟩ (by decide) rfl ?_
        refine x_top (fun z21 e_z21 => ?_)
        have g_z21 : (0 : Int) ≤ s0 177 5 ∧ s0 177 5 ≤ 5 := hG0 177 5
        refine x_if_ne k40_53 (t := 60) rfl (by first | exact x_rbe e_z21 g_z21 rfl rfl | exact x_rb g_z21 rfl rfl | exact ⟨by omega, by omega⟩) (fun c22 => ?_) (fun c22 => ?_)
        · skip
          refine x_A k40_60 (fun _ => rfl) ?_
          exact x_iret k40_61 rfl ⟨hG0, f0, 2, rfl, ⟨by decide, by decide⟩, by omega⟩
        · skip
          refine x_A k40_56 (fun _ => rfl) ?_
          refine x_callV k40_57 (y := 51) (n := 0) (w0 := 0) (w1 := 0) (as := []) (rest := []) (by decide +kernel) (q := 177) (nq := 7) (kq := 7) ⟨by decide, rfl⟩ rfl rfl rfl rfl (xe_mono (C_X6_advance_177 s0 hG0) ?_)
          rintro s24 v ⟨hG_s24, t_s24, rfl⟩
          have f_s24 : FL [1219, 1220, 1221, 1222, 1223] s0 s24 := f0.tr t_s24 (by decide +kernel)
          have q25 : s24 177 5 = z21 := (t_s24 177 5 (show 1222 ∉ [1219, 1220, 1221] from by decide +kernel)).trans e_z21.symm
          show xe none 40 60 [(1, vi 2), (0, .ref 177)] [] s24 0 0 _
          refine x_A k40_60 (fun _ => rfl) ?_
          exact x_iret k40_61 rfl ⟨hG_s24, f_s24, 2, rfl, ⟨by decide, by decide⟩, by omega⟩
    · skip
      refine x_A k40_22 (fun _ => rfl) ?_
      refine x_istore_n k40_23 (ls' := [(1, vi 1), (0, .ref 177)]) (by decide) rfl ?_
      refine x_A k40_24 (fun _ => rfl) ?_
      refine x_ldcR k40_25 (q := 2019) rfl ?_
      refine x_callV k40_27 (y := 53) (n := 1) (w0 := 0) (w1 := 1) (as := [.ref 2019]) (rest := []) (by decide +kernel) (q := 177) (nq := 7) (kq := 7) ⟨by decide, rfl⟩ rfl rfl rfl rfl (xe_mono (C_X6_isWord_177_2019 s0 hG0) ?_)
      rintro s27 v ⟨-, t_s27, z26, rfl, g_z26⟩
      rw [t_s27.nil]
      show xe none 40 30 [(1, vi 1), (0, .ref 177)] [vi z26] s0 0 0 _
      refine x_if_eq k40_30 (t := 35) rfl (by first | exact x_rbe e_z26 g_z26 rfl rfl | exact x_rb g_z26 rfl rfl | exact ⟨by omega, by omega⟩) (fun c28 => ?_) (fun c28 => ?_)
      · skip
        refine x_A k40_35 (fun _ => rfl) ?_
        refine x_A k40_36 (fun _ => rfl) ?_
        refine x_ic_ne k40_37 (t := 49) rfl ⟨by decide, by decide⟩ ⟨by decide, by decide⟩ (fun c29 => ?_) (fun c29 => by exfalso; omega)
        refine x_A k40_49 (fun _ => rfl) ?_
        refine x_getI k40_50 (f := 5) rfl (q := 177) (n := 7) (kd := 7) ⟨by decide, rfl⟩ (by decide) rfl ?_
        refine x_top (fun z30 e_z30 => ?_)
        have g_z30 : (0 : Int) ≤ s0 177 5 ∧ s0 177 5 ≤ 5 := hG0 177 5
        refine x_if_ne k40_53 (t := 60) rfl (by first | exact x_rbe e_z30 g_z30 rfl rfl | exact x_rb g_z30 rfl rfl | exact ⟨by omega, by omega⟩) (fun c31 => ?_) (fun c31 => ?_)
        · skip
          refine x_A k40_60 (fun _ => rfl) ?_
          exact x_iret k40_61 rfl ⟨hG0, f0, 1, rfl, ⟨by decide, by decide⟩, by omega⟩
        · skip
          refine x_A k40_56 (fun _ => rfl) ?_
          refine x_callV k40_57 (y := 51) (n := 0) (w0 := 0) (w1 := 0) (as := []) (rest := []) (by decide +kernel) (q := 177) (nq := 7) (kq := 7) ⟨by decide, rfl⟩ rfl rfl rfl rfl (xe_mono (C_X6_advance_177 s0 hG0) ?_)
          rintro s33 v ⟨hG_s33, t_s33, rfl⟩
          have f_s33 : FL [1219, 1220, 1221, 1222, 1223] s0 s33 := f0.tr t_s33 (by decide +kernel)
          have q34 : s33 177 5 = z30 := (t_s33 177 5 (show 1222 ∉ [1219, 1220, 1221] from by decide +kernel)).trans e_z30.symm
          show xe none 40 60 [(1, vi 1), (0, .ref 177)] [] s33 0 0 _
          refine x_A k40_60 (fun _ => rfl) ?_
          exact x_iret k40_61 rfl ⟨hG_s33, f_s33, 1, rfl, ⟨by decide, by decide⟩, by omega⟩
      · skip
        refine x_A k40_33 (fun _ => rfl) ?_
        refine x_istore_n k40_34 (ls' := [(1, vi 2), (0, .ref 177)]) (by decide) rfl ?_
        refine x_A k40_35 (fun _ => rfl) ?_
        refine x_A k40_36 (fun _ => rfl) ?_
        refine x_ic_ne k40_37 (t := 49) rfl ⟨by decide, by decide⟩ ⟨by decide, by decide⟩ (fun c35 => ?_) (fun c35 => by exfalso; omega)
        refine x_A k40_49 (fun _ => rfl) ?_
        refine x_getI k40_50 (f := 5) rfl (q := 177) (n := 7) (kd := 7) ⟨by decide, rfl⟩ (by decide) rfl ?_
        refine x_top (fun z36 e_z36 => ?_)
        have g_z36 : (0 : Int) ≤ s0 177 5 ∧ s0 177 5 ≤ 5 := hG0 177 5
        refine x_if_ne k40_53 (t := 60) rfl (by first | exact x_rbe e_z36 g_z36 rfl rfl | exact x_rb g_z36 rfl rfl | exact ⟨by omega, by omega⟩) (fun c37 => ?_) (fun c37 => ?_)
        · skip
          refine x_A k40_60 (fun _ => rfl) ?_
          exact x_iret k40_61 rfl ⟨hG0, f0, 2, rfl, ⟨by decide, by decide⟩, by omega⟩
        · skip
          refine x_A k40_56 (fun _ => rfl) ?_
          refine x_callV k40_57 (y := 51) (n := 0) (w0 := 0) (w1 := 0) (as := []) (rest := []) (by decide +kernel) (q := 177) (nq := 7) (kq := 7) ⟨by decide, rfl⟩ rfl rfl rfl rfl (xe_mono (C_X6_advance_177 s0 hG0) ?_)
          rintro s39 v ⟨hG_s39, t_s39, rfl⟩
          have f_s39 : FL [1219, 1220, 1221, 1222, 1223] s0 s39 := f0.tr t_s39 (by decide +kernel)
          have q40 : s39 177 5 = z36 := (t_s39 177 5 (show 1222 ∉ [1219, 1220, 1221] from by decide +kernel)).trans e_z36.symm
          show xe none 40 60 [(1, vi 2), (0, .ref 177)] [] s39 0 0 _
          refine x_A k40_60 (fun _ => rfl) ?_
          exact x_iret k40_61 rfl ⟨hG_s39, f_s39, 2, rfl, ⟨by decide, by decide⟩, by omega⟩
  · skip
    refine x_A k40_11 (fun _ => rfl) ?_
    refine x_istore_n k40_12 (ls' := [(1, vi 0), (0, .ref 177)]) (by decide) rfl ?_
    refine x_A k40_13 (fun _ => rfl) ?_
    refine x_ldcR k40_14 (q := 2018) rfl ?_
    refine x_callV k40_16 (y := 53) (n := 1) (w0 := 0) (w1 := 1) (as := [.ref 2018]) (rest := []) (by decide +kernel) (q := 177) (nq := 7) (kq := 7) ⟨by decide, rfl⟩ rfl rfl rfl rfl (xe_mono (C_X6_isWord_177_2018 s0 hG0) ?_)
    rintro s42 v ⟨-, t_s42, z41, rfl, g_z41⟩
    rw [t_s42.nil]
    show xe none 40 19 [(1, vi 0), (0, .ref 177)] [vi z41] s0 0 0 _
    refine x_if_eq k40_19 (t := 24) rfl (by first | exact x_rbe e_z41 g_z41 rfl rfl | exact x_rb g_z41 rfl rfl | exact ⟨by omega, by omega⟩) (fun c43 => ?_) (fun c43 => ?_)
    · skip
      refine x_A k40_24 (fun _ => rfl) ?_
      refine x_ldcR k40_25 (q := 2019) rfl ?_
      refine x_callV k40_27 (y := 53) (n := 1) (w0 := 0) (w1 := 1) (as := [.ref 2019]) (rest := []) (by decide +kernel) (q := 177) (nq := 7) (kq := 7) ⟨by decide, rfl⟩ rfl rfl rfl rfl (xe_mono (C_X6_isWord_177_2019 s0 hG0) ?_)
      rintro s45 v ⟨-, t_s45, z44, rfl, g_z44⟩
      rw [t_s45.nil]
      show xe none 40 30 [(1, vi 0), (0, .ref 177)] [vi z44] s0 0 0 _
      refine x_if_eq k40_30 (t := 35) rfl (by first | exact x_rbe e_z44 g_z44 rfl rfl | exact x_rb g_z44 rfl rfl | exact ⟨by omega, by omega⟩) (fun c46 => ?_) (fun c46 => ?_)
      · skip
        refine x_A k40_35 (fun _ => rfl) ?_
        refine x_A k40_36 (fun _ => rfl) ?_
        refine x_ic_ne k40_37 (t := 49) rfl ⟨by decide, by decide⟩ ⟨by decide, by decide⟩ (fun c47 => ?_) (fun c47 => by exfalso; omega)
        refine x_A k40_49 (fun _ => rfl) ?_
        refine x_getI k40_50 (f := 5) rfl (q := 177) (n := 7) (kd := 7) ⟨by decide, rfl⟩ (by decide) rfl ?_
        refine x_top (fun z48 e_z48 => ?_)
        have g_z48 : (0 : Int) ≤ s0 177 5 ∧ s0 177 5 ≤ 5 := hG0 177 5
        refine x_if_ne k40_53 (t := 60) rfl (by first | exact x_rbe e_z48 g_z48 rfl rfl | exact x_rb g_z48 rfl rfl | exact ⟨by omega, by omega⟩) (fun c49 => ?_) (fun c49 => ?_)
        · skip
          refine x_A k40_60 (fun _ => rfl) ?_
          exact x_iret k40_61 rfl ⟨hG0, f0, 0, rfl, ⟨by decide, by decide⟩, by omega⟩
        · skip
          refine x_A k40_56 (fun _ => rfl) ?_
          refine x_callV k40_57 (y := 51) (n := 0) (w0 := 0) (w1 := 0) (as := []) (rest := []) (by decide +kernel) (q := 177) (nq := 7) (kq := 7) ⟨by decide, rfl⟩ rfl rfl rfl rfl (xe_mono (C_X6_advance_177 s0 hG0) ?_)
          rintro s51 v ⟨hG_s51, t_s51, rfl⟩
          have f_s51 : FL [1219, 1220, 1221, 1222, 1223] s0 s51 := f0.tr t_s51 (by decide +kernel)
          have q52 : s51 177 5 = z48 := (t_s51 177 5 (show 1222 ∉ [1219, 1220, 1221] from by decide +kernel)).trans e_z48.symm
          show xe none 40 60 [(1, vi 0), (0, .ref 177)] [] s51 0 0 _
          refine x_A k40_60 (fun _ => rfl) ?_
          exact x_iret k40_61 rfl ⟨hG_s51, f_s51, 0, rfl, ⟨by decide, by decide⟩, by omega⟩
      · skip
        refine x_A k40_33 (fun _ => rfl) ?_
        refine x_istore_n k40_34 (ls' := [(1, vi 2), (0, .ref 177)]) (by decide) rfl ?_
        refine x_A k40_35 (fun _ => rfl) ?_
        refine x_A k40_36 (fun _ => rfl) ?_
        refine x_ic_ne k40_37 (t := 49) rfl ⟨by decide, by decide⟩ ⟨by decide, by decide⟩ (fun c53 => ?_) (fun c53 => by exfalso; omega)
        refine x_A k40_49 (fun _ => rfl) ?_
        refine x_getI k40_50 (f := 5) rfl (q := 177) (n := 7) (kd := 7) ⟨by decide, rfl⟩ (by decide) rfl ?_
        refine x_top (fun z54 e_z54 => ?_)
        have g_z54 : (0 : Int) ≤ s0 177 5 ∧ s0 177 5 ≤ 5 := hG0 177 5
        refine x_if_ne k40_53 (t := 60) rfl (by first | exact x_rbe e_z54 g_z54 rfl rfl | exact x_rb g_z54 rfl rfl | exact ⟨by omega, by omega⟩) (fun c55 => ?_) (fun c55 => ?_)
        · skip
          refine x_A k40_60 (fun _ => rfl) ?_
          exact x_iret k40_61 rfl ⟨hG0, f0, 2, rfl, ⟨by decide, by decide⟩, by omega⟩
        · skip
          refine x_A k40_56 (fun _ => rfl) ?_
          refine x_callV k40_57 (y := 51) (n := 0) (w0 := 0) (w1 := 0) (as := []) (rest := []) (by decide +kernel) (q := 177) (nq := 7) (kq := 7) ⟨by decide, rfl⟩ rfl rfl rfl rfl (xe_mono (C_X6_advance_177 s0 hG0) ?_)
          rintro s57 v ⟨hG_s57, t_s57, rfl⟩
          have f_s57 : FL [1219, 1220, 1221, 1222, 1223] s0 s57 := f0.tr t_s57 (by decide +kernel)
          have q58 : s57 177 5 = z54 := (t_s57 177 5 (show 1222 ∉ [1219, 1220, 1221] from by decide +kernel)).trans e_z54.symm
          show xe none 40 60 [(1, vi 2), (0, .ref 177)] [] s57 0 0 _
          refine x_A k40_60 (fun _ => rfl) ?_
          exact x_iret k40_61 rfl ⟨hG_s57, f_s57, 2, rfl, ⟨by decide, by decide⟩, by omega⟩
    · skip
      refine x_A k40_22 (fun _ => rfl) ?_
      refine x_istore_n k40_23 (ls' := [(1, vi 1), (0, .ref 177)]) (by decide) rfl ?_
      refine x_A k40_24 (fun _ => rfl) ?_
      refine x_ldcR k40_25 (q := 2019) rfl ?_
      refine x_callV k40_27 (y := 53) (n := 1) (w0 := 0) (w1 := 1) (as := [.ref 2019]) (rest := []) (by decide +kernel) (q := 177) (nq := 7) (kq := 7) ⟨by decide, rfl⟩ rfl rfl rfl rfl (xe_mono (C_X6_isWord_177_2019 s0 hG0) ?_)
      rintro s60 v ⟨-, t_s60, z59, rfl, g_z59⟩
      rw [t_s60.nil]
      show xe none 40 30 [(1, vi 1), (0, .ref 177)] [vi z59] s0 0 0 _
      refine x_if_eq k40_30 (t := 35) rfl (by first | exact x_rbe e_z59 g_z59 rfl rfl | exact x_rb g_z59 rfl rfl | exact ⟨by omega, by omega⟩) (fun c61 => ?_) (fun c61 => ?_)
      · skip
        refine x_A k40_35 (fun _ => rfl) ?_
        refine x_A k40_36 (fun _ => rfl) ?_
        refine x_ic_ne k40_37 (t := 49) rfl ⟨by decide, by decide⟩ ⟨by decide, by decide⟩ (fun c62 => ?_) (fun c62 => by exfalso; omega)
        refine x_A k40_49 (fun _ => rfl) ?_
        refine x_getI k40_50 (f := 5) rfl (q := 177) (n := 7) (kd := 7) ⟨by decide, rfl⟩ (by decide) rfl ?_
        refine x_top (fun z63 e_z63 => ?_)
        have g_z63 : (0 : Int) ≤ s0 177 5 ∧ s0 177 5 ≤ 5 := hG0 177 5
        refine x_if_ne k40_53 (t := 60) rfl (by first | exact x_rbe e_z63 g_z63 rfl rfl | exact x_rb g_z63 rfl rfl | exact ⟨by omega, by omega⟩) (fun c64 => ?_) (fun c64 => ?_)
        · skip
          refine x_A k40_60 (fun _ => rfl) ?_
          exact x_iret k40_61 rfl ⟨hG0, f0, 1, rfl, ⟨by decide, by decide⟩, by omega⟩
        · skip
          refine x_A k40_56 (fun _ => rfl) ?_
          refine x_callV k40_57 (y := 51) (n := 0) (w0 := 0) (w1 := 0) (as := []) (rest := []) (by decide +kernel) (q := 177) (nq := 7) (kq := 7) ⟨by decide, rfl⟩ rfl rfl rfl rfl (xe_mono (C_X6_advance_177 s0 hG0) ?_)
          rintro s66 v ⟨hG_s66, t_s66, rfl⟩
          have f_s66 : FL [1219, 1220, 1221, 1222, 1223] s0 s66 := f0.tr t_s66 (by decide +kernel)
          have q67 : s66 177 5 = z63 := (t_s66 177 5 (show 1222 ∉ [1219, 1220, 1221] from by decide +kernel)).trans e_z63.symm
          show xe none 40 60 [(1, vi 1), (0, .ref 177)] [] s66 0 0 _
          refine x_A k40_60 (fun _ => rfl) ?_
          exact x_iret k40_61 rfl ⟨hG_s66, f_s66, 1, rfl, ⟨by decide, by decide⟩, by omega⟩
      · skip
        refine x_A k40_33 (fun _ => rfl) ?_
        refine x_istore_n k40_34 (ls' := [(1, vi 2), (0, .ref 177)]) (by decide) rfl ?_
        refine x_A k40_35 (fun _ => rfl) ?_
        refine x_A k40_36 (fun _ => rfl) ?_
        refine x_ic_ne k40_37 (t := 49) rfl ⟨by decide, by decide⟩ ⟨by decide, by decide⟩ (fun c68 => ?_) (fun c68 => by exfalso; omega)
        refine x_A k40_49 (fun _ => rfl) ?_
        refine x_getI k40_50 (f := 5) rfl (q := 177) (n := 7) (kd := 7) ⟨by decide, rfl⟩ (by decide) rfl ?_
        refine x_top (fun z69 e_z69 => ?_)
        have g_z69 : (0 : Int) ≤ s0 177 5 ∧ s0 177 5 ≤ 5 := hG0 177 5
        refine x_if_ne k40_53 (t := 60) rfl (by first | exact x_rbe e_z69 g_z69 rfl rfl | exact x_rb g_z69 rfl rfl | exact ⟨by omega, by omega⟩) (fun c70 => ?_) (fun c70 => ?_)
        · skip
          refine x_A k40_60 (fun _ => rfl) ?_
          exact x_iret k40_61 rfl ⟨hG0, f0, 2, rfl, ⟨by decide, by decide⟩, by omega⟩
        · skip
          refine x_A k40_56 (fun _ => rfl) ?_
          refine x_callV k40_57 (y := 51) (n := 0) (w0 := 0) (w1 := 0) (as := []) (rest := []) (by decide +kernel) (q := 177) (nq := 7) (kq := 7) ⟨by decide, rfl⟩ rfl rfl rfl rfl (xe_mono (C_X6_advance_177 s0 hG0) ?_)
          rintro s72 v ⟨hG_s72, t_s72, rfl⟩
          have f_s72 : FL [1219, 1220, 1221, 1222, 1223] s0 s72 := f0.tr t_s72 (by decide +kernel)
          have q73 : s72 177 5 = z69 := (t_s72 177 5 (show 1222 ∉ [1219, 1220, 1221] from by decide +kernel)).trans e_z69.symm
          show xe none 40 60 [(1, vi 2), (0, .ref 177)] [] s72 0 0 _
          refine x_A k40_60 (fun _ => rfl) ?_
          exact x_iret k40_61 rfl ⟨hG_s72, f_s72, 2, rfl, ⟨by decide, by decide⟩, by omega⟩
theorem C_X4_readFirst_177 (s0 : xS) (hG0 : GI s0) (a : Int) (b_a : (-2147483648) ≤ a ∧ a ≤ 2147483647) : xe none 38 0 (lv_args 0 [.ref 177, vi a]) [] s0 0 0 (fun s' v => GI s' ∧ FL [1219, 1220, 1221, 1222, 1223] s0 s' ∧ ∃ z, v = some (vi z) ∧ ((-1) ≤ z ∧ z ≤ 99) ∧ (s' 177 5 = 0 → s0 177 5 = 0 ∧ 0 ≤ z ∧ z ≤ 99 ∧ (a = 4 → z ≤ 39) ∧ (a < 4 → z ≤ 5))) := by
  have f0 : FL [1219, 1220, 1221, 1222, 1223] s0 s0 := FL.rf
  show xe none 38 0 [(0, .ref 177), (1, vi a)] [] s0 0 0 _
  refine x_A k38_0 (fun _ => rfl) ?_
  have c1 : a = 4 ∨ a = 5 ∨ a = 6 ∨ ¬ (4 ≤ a ∧ a ≤ 6) := by omega
  rcases c1 with c1 | c1 | c1 | c1
  · rw [c1]
    refine x_B k38_1 rfl (fun _ => rfl) (fun _ => rfl) (fun _ _ => rfl) ?_
    show xe none 38 28 [(0, .ref 177), (1, vi 4)] [] s0 0 0 _
    refine x_A k38_28 (fun _ => rfl) ?_
    refine x_A k38_29 (fun _ => rfl) ?_
    refine x_bipush k38_30 (by decide +kernel) ?_
    refine x_A k38_32 (fun _ => rfl) ?_
    refine x_callV k38_33 (y := 57) (n := 3) (w0 := 0) (w1 := 3) (as := [vi 0, vi 39, vi 2]) (rest := []) (by decide +kernel) (q := 177) (nq := 7) (kq := 7) ⟨by decide, rfl⟩ rfl rfl rfl rfl (xe_mono (C_X6_takeNumber_177 s0 hG0 0 ⟨by decide, by decide⟩ 39 ⟨by decide, by decide⟩ 2 ⟨by decide, by decide⟩) ?_)
    rintro s3 v ⟨hG_s3, t_s3, z2, rfl, g_z2, xp_z2⟩
    have f_s3 : FL [1219, 1220, 1221, 1222, 1223] s0 s3 := f0.tr t_s3 (by decide +kernel)
    obtain ⟨z4, e_z4⟩ : ∃ z, z = s3 177 5 := ⟨_, rfl⟩
    have g_z4 : (0 : Int) ≤ s3 177 5 ∧ s3 177 5 ≤ 5 := hG_s3 177 5
    show xe none 38 36 [(0, .ref 177), (1, vi 4)] [vi z2] s3 0 0 _
    exact x_iret k38_36 rfl ⟨hG_s3, f_s3, z2, rfl, (by first | exact x_rbe e_z2 g_z2 rfl rfl | exact x_rb g_z2 rfl rfl | exact ⟨by omega, by omega⟩), by omega⟩
  · rw [c1]
    refine x_B k38_1 rfl (fun _ => rfl) (fun _ => rfl) (fun _ _ => rfl) ?_
    show xe none 38 37 [(0, .ref 177), (1, vi 5)] [] s0 0 0 _
    refine x_A k38_37 (fun _ => rfl) ?_
    refine x_A k38_38 (fun _ => rfl) ?_
    refine x_bipush k38_39 (by decide +kernel) ?_
    refine x_A k38_41 (fun _ => rfl) ?_
    refine x_callV k38_42 (y := 57) (n := 3) (w0 := 0) (w1 := 3) (as := [vi 1, vi 20, vi 2]) (rest := []) (by decide +kernel) (q := 177) (nq := 7) (kq := 7) ⟨by decide, rfl⟩ rfl rfl rfl rfl (xe_mono (C_X6_takeNumber_177 s0 hG0 1 ⟨by decide, by decide⟩ 20 ⟨by decide, by decide⟩ 2 ⟨by decide, by decide⟩) ?_)
    rintro s6 v ⟨hG_s6, t_s6, z5, rfl, g_z5, xp_z5⟩
    have f_s6 : FL [1219, 1220, 1221, 1222, 1223] s0 s6 := f0.tr t_s6 (by decide +kernel)
    obtain ⟨z7, e_z7⟩ : ∃ z, z = s6 177 5 := ⟨_, rfl⟩
    have g_z7 : (0 : Int) ≤ s6 177 5 ∧ s6 177 5 ≤ 5 := hG_s6 177 5
    show xe none 38 45 [(0, .ref 177), (1, vi 5)] [vi z5] s6 0 0 _
    exact x_iret k38_45 rfl ⟨hG_s6, f_s6, z5, rfl, (by first | exact x_rbe e_z5 g_z5 rfl rfl | exact x_rb g_z5 rfl rfl | exact ⟨by omega, by omega⟩), by omega⟩
  · rw [c1]
    refine x_B k38_1 rfl (fun _ => rfl) (fun _ => rfl) (fun _ _ => rfl) ?_
    show xe none 38 46 [(0, .ref 177), (1, vi 6)] [] s0 0 0 _
    refine x_A k38_46 (fun _ => rfl) ?_
    refine x_A k38_47 (fun _ => rfl) ?_
    refine x_bipush k38_48 (by decide +kernel) ?_
    refine x_A k38_50 (fun _ => rfl) ?_
    refine x_callV k38_51 (y := 57) (n := 3) (w0 := 0) (w1 := 3) (as := [vi 0, vi 99, vi 2]) (rest := []) (by decide +kernel) (q := 177) (nq := 7) (kq := 7) ⟨by decide, rfl⟩ rfl rfl rfl rfl (xe_mono (C_X6_takeNumber_177 s0 hG0 0 ⟨by decide, by decide⟩ 99 ⟨by decide, by decide⟩ 2 ⟨by decide, by decide⟩) ?_)
    rintro s9 v ⟨hG_s9, t_s9, z8, rfl, g_z8, xp_z8⟩
    have f_s9 : FL [1219, 1220, 1221, 1222, 1223] s0 s9 := f0.tr t_s9 (by decide +kernel)
    obtain ⟨z10, e_z10⟩ : ∃ z, z = s9 177 5 := ⟨_, rfl⟩
    have g_z10 : (0 : Int) ≤ s9 177 5 ∧ s9 177 5 ≤ 5 := hG_s9 177 5
    show xe none 38 54 [(0, .ref 177), (1, vi 6)] [vi z8] s9 0 0 _
    exact x_iret k38_54 rfl ⟨hG_s9, f_s9, z8, rfl, (by first | exact x_rbe e_z8 g_z8 rfl rfl | exact x_rb g_z8 rfl rfl | exact ⟨by omega, by omega⟩), by omega⟩
  · refine x_tabD k38_1 ⟨by omega, by omega⟩ c1 (t0 := 55) rfl ?_
    refine x_A k38_55 (fun _ => rfl) ?_
    refine x_A k38_56 (fun _ => rfl) ?_
    refine x_A k38_57 (fun _ => rfl) ?_
    refine x_A k38_58 (fun _ => rfl) ?_
    refine x_callV k38_59 (y := 57) (n := 3) (w0 := 0) (w1 := 3) (as := [vi 0, vi 5, vi 2]) (rest := []) (by decide +kernel) (q := 177) (nq := 7) (kq := 7) ⟨by decide, rfl⟩ rfl rfl rfl rfl (xe_mono (C_X6_takeNumber_177 s0 hG0 0 ⟨by decide, by decide⟩ 5 ⟨by decide, by decide⟩ 2 ⟨by decide, by decide⟩) ?_)
    rintro s12 v ⟨hG_s12, t_s12, z11, rfl, g_z11, xp_z11⟩
    have f_s12 : FL [1219, 1220, 1221, 1222, 1223] s0 s12 := f0.tr t_s12 (by decide +kernel)
    obtain ⟨z13, e_z13⟩ : ∃ z, z = s12 177 5 := ⟨_, rfl⟩
    have g_z13 : (0 : Int) ≤ s12 177 5 ∧ s12 177 5 ≤ 5 := hG_s12 177 5
    show xe none 38 62 [(0, .ref 177), (1, vi a)] [vi z11] s12 0 0 _
    exact x_iret k38_62 rfl ⟨hG_s12, f_s12, z11, rfl, (by first | exact x_rbe e_z11 g_z11 rfl rfl | exact x_rb g_z11 rfl rfl | exact ⟨by omega, by omega⟩), by omega⟩
theorem C_X4_readSecond_177 (s0 : xS) (hG0 : GI s0) (a : Int) (b_a : (-2147483648) ≤ a ∧ a ≤ 2147483647) : xe none 39 0 (lv_args 0 [.ref 177, vi a]) [] s0 0 0 (fun s' v => GI s' ∧ FL [1219, 1220, 1221, 1222, 1223] s0 s' ∧ ∃ z, v = some (vi z) ∧ ((-1) ≤ z ∧ z ≤ 99) ∧ (s' 177 5 = 0 → s0 177 5 = 0 ∧ (a = 3 → 0 ≤ z ∧ z ≤ 5))) := by
  have f0 : FL [1219, 1220, 1221, 1222, 1223] s0 s0 := FL.rf
  show xe none 39 0 [(0, .ref 177), (1, vi a)] [] s0 0 0 _
  refine x_A k39_0 (fun _ => rfl) ?_
  have c1 : a = 1 ∨ a = 2 ∨ a = 3 ∨ a = 4 ∨ ¬ (1 ≤ a ∧ a ≤ 4) := by omega
  rcases c1 with c1 | c1 | c1 | c1 | c1
  · rw [c1]
    refine x_B k39_1 rfl (fun _ => rfl) (fun _ => rfl) (fun _ _ => rfl) ?_
    show xe none 39 32 [(0, .ref 177), (1, vi 1)] [] s0 0 0 _
    refine x_A k39_32 (fun _ => rfl) ?_
    refine x_callS k39_33 (y := 40) (n := 1) (w0 := 0) (w1 := 1) (as := [.ref 177]) (rest := []) (by decide +kernel) rfl rfl rfl rfl (xe_mono (C_X4_readSense_177 s0 hG0) ?_)
    rintro s3 v ⟨hG_s3, t_s3, z2, rfl, g_z2, xp_z2⟩
    have f_s3 : FL [1219, 1220, 1221, 1222, 1223] s0 s3 := f0.tr t_s3 (by decide +kernel)
    obtain ⟨z4, e_z4⟩ : ∃ z, z = s3 177 5 := ⟨_, rfl⟩
    have g_z4 : (0 : Int) ≤ s3 177 5 ∧ s3 177 5 ≤ 5 := hG_s3 177 5
    show xe none 39 36 [(0, .ref 177), (1, vi 1)] [vi z2] s3 0 0 _
    exact x_iret k39_36 rfl ⟨hG_s3, f_s3, z2, rfl, (by first | exact x_rbe e_z2 g_z2 rfl rfl | exact x_rb g_z2 rfl rfl | exact ⟨by omega, by omega⟩), by omega⟩
  · rw [c1]
    refine x_B k39_1 rfl (fun _ => rfl) (fun _ => rfl) (fun _ _ => rfl) ?_
    show xe none 39 37 [(0, .ref 177), (1, vi 2)] [] s0 0 0 _
    refine x_A k39_37 (fun _ => rfl) ?_
    refine x_ldcR k39_38 (q := 2015) rfl ?_
    refine x_callV k39_40 (y := 55) (n := 1) (w0 := 0) (w1 := 1) (as := [.ref 2015]) (rest := []) (by decide +kernel) (q := 177) (nq := 7) (kq := 7) ⟨by decide, rfl⟩ rfl rfl rfl rfl (xe_mono (C_X6_takeWord_177_2015 s0 hG0) ?_)
    rintro s6 v ⟨hG_s6, t_s6, rfl, xp_z5⟩
    have f_s6 : FL [1219, 1220, 1221, 1222, 1223] s0 s6 := f0.tr t_s6 (by decide +kernel)
    obtain ⟨z7, e_z7⟩ : ∃ z, z = s6 177 5 := ⟨_, rfl⟩
    have g_z7 : (0 : Int) ≤ s6 177 5 ∧ s6 177 5 ≤ 5 := hG_s6 177 5
    show xe none 39 43 [(0, .ref 177), (1, vi 2)] [] s6 0 0 _
    refine x_A k39_43 (fun _ => rfl) ?_
    refine x_A k39_44 (fun _ => rfl) ?_
    refine x_bipush k39_45 (by decide +kernel) ?_
    refine x_A k39_47 (fun _ => rfl) ?_
    refine x_callV k39_48 (y := 57) (n := 3) (w0 := 0) (w1 := 3) (as := [vi 0, vi 39, vi 2]) (rest := []) (by decide +kernel) (q := 177) (nq := 7) (kq := 7) ⟨by decide, rfl⟩ rfl rfl rfl rfl (xe_mono (C_X6_takeNumber_177 s6 hG_s6 0 ⟨by decide, by decide⟩ 39 ⟨by decide, by decide⟩ 2 ⟨by decide, by decide⟩) ?_)
    rintro s9 v ⟨hG_s9, t_s9, z8, rfl, g_z8, xp_z8⟩
    have f_s9 : FL [1219, 1220, 1221, 1222, 1223] s0 s9 := f_s6.tr t_s9 (by decide +kernel)
    obtain ⟨z10, e_z10⟩ : ∃ z, z = s9 177 5 := ⟨_, rfl⟩
    have g_z10 : (0 : Int) ≤ s9 177 5 ∧ s9 177 5 ≤ 5 := hG_s9 177 5
    show xe none 39 51 [(0, .ref 177), (1, vi 2)] [vi z8] s9 0 0 _
    exact x_iret k39_51 rfl ⟨hG_s9, f_s9, z8, rfl, (by first | exact x_rbe e_z8 g_z8 rfl rfl | exact x_rb g_z8 rfl rfl | exact ⟨by omega, by omega⟩), by omega⟩
  · rw [c1]
    refine x_B k39_1 rfl (fun _ => rfl) (fun _ => rfl) (fun _ _ => rfl) ?_
    show xe none 39 52 [(0, .ref 177), (1, vi 3)] [] s0 0 0 _
    refine x_A k39_52 (fun _ => rfl) ?_
    refine x_ldcR k39_53 (q := 2016) rfl ?_
    refine x_callV k39_55 (y := 55) (n := 1) (w0 := 0) (w1 := 1) (as := [.ref 2016]) (rest := []) (by decide +kernel) (q := 177) (nq := 7) (kq := 7) ⟨by decide, rfl⟩ rfl rfl rfl rfl (xe_mono (C_X6_takeWord_177_2016 s0 hG0) ?_)
    rintro s12 v ⟨hG_s12, t_s12, rfl, xp_z11⟩
    have f_s12 : FL [1219, 1220, 1221, 1222, 1223] s0 s12 := f0.tr t_s12 (by decide +kernel)
    obtain ⟨z13, e_z13⟩ : ∃ z, z = s12 177 5 := ⟨_, rfl⟩
    have g_z13 : (0 : Int) ≤ s12 177 5 ∧ s12 177 5 ≤ 5 := hG_s12 177 5
    show xe none 39 58 [(0, .ref 177), (1, vi 3)] [] s12 0 0 _
    refine x_A k39_58 (fun _ => rfl) ?_
    refine x_A k39_59 (fun _ => rfl) ?_
    refine x_A k39_60 (fun _ => rfl) ?_
    refine x_A k39_61 (fun _ => rfl) ?_
    refine x_callV k39_62 (y := 57) (n := 3) (w0 := 0) (w1 := 3) (as := [vi 0, vi 5, vi 2]) (rest := []) (by decide +kernel) (q := 177) (nq := 7) (kq := 7) ⟨by decide, rfl⟩ rfl rfl rfl rfl (xe_mono (C_X6_takeNumber_177 s12 hG_s12 0 ⟨by decide, by decide⟩ 5 ⟨by decide, by decide⟩ 2 ⟨by decide, by decide⟩) ?_)
    rintro s15 v ⟨hG_s15, t_s15, z14, rfl, g_z14, xp_z14⟩
    have f_s15 : FL [1219, 1220, 1221, 1222, 1223] s0 s15 := f_s12.tr t_s15 (by decide +kernel)
    obtain ⟨z16, e_z16⟩ : ∃ z, z = s15 177 5 := ⟨_, rfl⟩
    have g_z16 : (0 : Int) ≤ s15 177 5 ∧ s15 177 5 ≤ 5 := hG_s15 177 5
    show xe none 39 65 [(0, .ref 177), (1, vi 3)] [vi z14] s15 0 0 _
    exact x_iret k39_65 rfl ⟨hG_s15, f_s15, z14, rfl, (by first | exact x_rbe e_z14 g_z14 rfl rfl | exact x_rb g_z14 rfl rfl | exact ⟨by omega, by omega⟩), by omega⟩
  · rw [c1]
    refine x_B k39_1 rfl (fun _ => rfl) (fun _ => rfl) (fun _ _ => rfl) ?_
    show xe none 39 66 [(0, .ref 177), (1, vi 4)] [] s0 0 0 _
    refine x_A k39_66 (fun _ => rfl) ?_
    refine x_ldcR k39_67 (q := 2016) rfl ?_
    refine x_callV k39_69 (y := 55) (n := 1) (w0 := 0) (w1 := 1) (as := [.ref 2016]) (rest := []) (by decide +kernel) (q := 177) (nq := 7) (kq := 7) ⟨by decide, rfl⟩ rfl rfl rfl rfl (xe_mono (C_X6_takeWord_177_2016 s0 hG0) ?_)
    rintro s18 v ⟨hG_s18, t_s18, rfl, xp_z17⟩
    have f_s18 : FL [1219, 1220, 1221, 1222, 1223] s0 s18 := f0.tr t_s18 (by decide +kernel)
    obtain ⟨z19, e_z19⟩ : ∃ z, z = s18 177 5 := ⟨_, rfl⟩
    have g_z19 : (0 : Int) ≤ s18 177 5 ∧ s18 177 5 ≤ 5 := hG_s18 177 5
    show xe none 39 72 [(0, .ref 177), (1, vi 4)] [] s18 0 0 _
    refine x_A k39_72 (fun _ => rfl) ?_
    refine x_A k39_73 (fun _ => rfl) ?_
    refine x_bipush k39_74 (by decide +kernel) ?_
    refine x_A k39_76 (fun _ => rfl) ?_
    refine x_callV k39_77 (y := 57) (n := 3) (w0 := 0) (w1 := 3) (as := [vi 0, vi 39, vi 2]) (rest := []) (by decide +kernel) (q := 177) (nq := 7) (kq := 7) ⟨by decide, rfl⟩ rfl rfl rfl rfl (xe_mono (C_X6_takeNumber_177 s18 hG_s18 0 ⟨by decide, by decide⟩ 39 ⟨by decide, by decide⟩ 2 ⟨by decide, by decide⟩) ?_)
    rintro s21 v ⟨hG_s21, t_s21, z20, rfl, g_z20, xp_z20⟩
    have f_s21 : FL [1219, 1220, 1221, 1222, 1223] s0 s21 := f_s18.tr t_s21 (by decide +kernel)
    obtain ⟨z22, e_z22⟩ : ∃ z, z = s21 177 5 := ⟨_, rfl⟩
    have g_z22 : (0 : Int) ≤ s21 177 5 ∧ s21 177 5 ≤ 5 := hG_s21 177 5
    show xe none 39 80 [(0, .ref 177), (1, vi 4)] [vi z20] s21 0 0 _
    exact x_iret k39_80 rfl ⟨hG_s21, f_s21, z20, rfl, (by first | exact x_rbe e_z20 g_z20 rfl rfl | exact x_rb g_z20 rfl rfl | exact ⟨by omega, by omega⟩), by omega⟩
  · refine x_tabD k39_1 ⟨by omega, by omega⟩ c1 (t0 := 81) rfl ?_
    refine x_A k39_81 (fun _ => rfl) ?_
    obtain ⟨z23, e_z23⟩ : ∃ z, z = s0 177 5 := ⟨_, rfl⟩
    have g_z23 : (0 : Int) ≤ s0 177 5 ∧ s0 177 5 ≤ 5 := hG0 177 5
    exact x_iret k39_82 rfl ⟨hG0, f0, (-1), rfl, ⟨by decide, by decide⟩, by omega⟩
theorem C_X0_readOne_218_177 (s0 : xS) (hG0 : GI s0)  : xe none 5 0 (lv_args 0 [.ref 218, .ref 177]) [] s0 0 0 (fun s' v => GI s' ∧ FL [2560, 2688, 1219, 1220, 1221, 1222, 1223] s0 s' ∧ v = none) := by
  have f0 : FL [2560, 2688, 1219, 1220, 1221, 1222, 1223] s0 s0 := FL.rf
  show xe none 5 0 [(0, .ref 218), (1, .ref 177)] [] s0 0 0 _
  refine x_A k5_0 (fun _ => rfl) ?_
  refine x_getI k5_1 (f := 5) rfl (q := 177) (n := 7) (kd := 7) ⟨by decide, rfl⟩ (by decide) rfl ?_
  refine x_top (fun z1 e_z1 => ?_)
  have g_z1 : (0 : Int) ≤ s0 177 5 ∧ s0 177 5 ≤ 5 := hG0 177 5
  refine x_if_eq k5_4 (t := 8) rfl (by first | exact x_rbe e_z1 g_z1 rfl rfl | exact x_rb g_z1 rfl rfl | exact ⟨by omega, by omega⟩) (fun c2 => ?_) (fun c2 => ?_)
  · skip
    refine x_A k5_8 (fun _ => rfl) ?_
    refine x_callS k5_9 (y := 6) (n := 1) (w0 := 0) (w1 := 1) (as := [.ref 177]) (rest := []) (by decide +kernel) rfl rfl rfl rfl (xe_mono (C_X0_oneKind_177 s0 hG0) ?_)
    rintro s4 v ⟨-, t_s4, z3, rfl, g_z3⟩
    rw [t_s4.nil]
    show xe none 5 12 [(0, .ref 218), (1, .ref 177)] [vi z3] s0 0 0 _
    refine x_istore_n k5_12 (ls' := [(2, vi z3), (0, .ref 218), (1, .ref 177)]) (by decide) rfl ?_
    refine x_A k5_13 (fun _ => rfl) ?_
    refine x_A k5_14 (fun _ => rfl) ?_
    refine x_ic_ne k5_15 (t := 30) rfl (by first | exact x_rbe e_z3 g_z3 rfl rfl | exact x_rb g_z3 rfl rfl | exact ⟨by omega, by omega⟩) ⟨by decide, by decide⟩ (fun c5 => ?_) (fun c5 => ?_)
    · skip
      refine x_A k5_30 (fun _ => rfl) ?_
      refine x_callV k5_31 (y := 51) (n := 0) (w0 := 0) (w1 := 0) (as := []) (rest := []) (by decide +kernel) (q := 177) (nq := 7) (kq := 7) ⟨by decide, rfl⟩ rfl rfl rfl rfl (xe_mono (C_X6_advance_177 s0 hG0) ?_)
      rintro s7 v ⟨hG_s7, t_s7, rfl⟩
      have f_s7 : FL [2560, 2688, 1219, 1220, 1221, 1222, 1223] s0 s7 := f0.tr t_s7 (by decide +kernel)
      have q8 : s7 177 5 = z1 := (t_s7 177 5 (show 1222 ∉ [1219, 1220, 1221] from by decide +kernel)).trans e_z1.symm
      show xe none 5 34 [(2, vi z3), (0, .ref 218), (1, .ref 177)] [] s7 0 0 _
      refine x_A k5_34 (fun _ => rfl) ?_
      refine x_A k5_35 (fun _ => rfl) ?_
      refine x_callS k5_36 (y := 7) (n := 2) (w0 := 0) (w1 := 2) (as := [.ref 177, vi z3]) (rest := []) (by decide +kernel) rfl rfl rfl rfl (xe_mono (C_X0_readNumber_177 s7 hG_s7 z3 (by first | exact x_rbe e_z3 g_z3 rfl rfl | exact x_rb g_z3 rfl rfl | exact ⟨by omega, by omega⟩)) ?_)
      rintro s10 v ⟨hG_s10, t_s10, z9, rfl, g_z9⟩
      have f_s10 : FL [2560, 2688, 1219, 1220, 1221, 1222, 1223] s0 s10 := f_s7.tr t_s10 (by decide +kernel)
      show xe none 5 39 [(2, vi z3), (0, .ref 218), (1, .ref 177)] [vi z9] s10 0 0 _
      refine x_istore_n k5_39 (ls' := [(3, vi z9), (2, vi z3), (0, .ref 218), (1, .ref 177)]) (by decide) rfl ?_
      refine x_A k5_40 (fun _ => rfl) ?_
      refine x_getI k5_41 (f := 5) rfl (q := 177) (n := 7) (kd := 7) ⟨by decide, rfl⟩ (by decide) rfl ?_
      refine x_top (fun z11 e_z11 => ?_)
      have g_z11 : (0 : Int) ≤ s10 177 5 ∧ s10 177 5 ≤ 5 := hG_s10 177 5
      refine x_if_ne k5_44 (t := 58) rfl (by first | exact x_rbe e_z11 g_z11 rfl rfl | exact x_rb g_z11 rfl rfl | exact ⟨by omega, by omega⟩) (fun c12 => ?_) (fun c12 => ?_)
      · skip
        exact x_vret k5_58 rfl ⟨hG_s10, f_s10, rfl⟩
      · skip
        refine x_A k5_47 (fun _ => rfl) ?_
        refine x_A k5_48 (fun _ => rfl) ?_
        refine x_sipush k5_49 (by decide +kernel) ?_
        refine x_imul k5_52 ?_
        refine x_top (fun z13 e_z13 => ?_)
        refine x_A k5_53 (fun _ => rfl) ?_
        refine x_iadd k5_54 ?_
        refine x_topW (fun z14 g_z14 => ?_)
        unfold in32 at g_z14
        refine x_callV k5_55 (y := 13) (n := 1) (w0 := 0) (w1 := 1) (as := [vi z14]) (rest := []) (by decide +kernel) (q := 218) (nq := 7) (kq := 11) ⟨by decide, rfl⟩ rfl rfl rfl rfl (xe_mono (C_X0_emit_218 s10 hG_s10 z14 (by first | exact x_rbe e_z14 g_z14 rfl rfl | exact x_rb g_z14 rfl rfl | exact ⟨by omega, by omega⟩)) ?_)
        rintro s16 v ⟨hG_s16, t_s16, rfl⟩
        have f_s16 : FL [2560, 2688, 1219, 1220, 1221, 1222, 1223] s0 s16 := f_s10.tr t_s16 (by decide +kernel)
        have q17 : s16 177 5 = z11 := (t_s16 177 5 (show 1222 ∉ [2560, 2688] from by decide +kernel)).trans e_z11.symm
        show xe none 5 58 [(3, vi z9), (2, vi z3), (0, .ref 218), (1, .ref 177)] [] s16 0 0 _
        exact x_vret k5_58 rfl ⟨hG_s16, f_s16, rfl⟩
    · skip
      refine x_A k5_18 (fun _ => rfl) ?_
      refine x_A k5_19 (fun _ => rfl) ?_
      refine x_A k5_20 (fun _ => rfl) ?_
      refine x_getI k5_21 (f := 3) rfl (q := 177) (n := 7) (kd := 7) ⟨by decide, rfl⟩ (by decide) rfl ?_
      refine x_top (fun z18 e_z18 => ?_)
      have g_z18 : (0 : Int) ≤ s0 177 3 ∧ s0 177 3 ≤ 160 := hG0 177 3
      refine x_callV k5_24 (y := 52) (n := 2) (w0 := 0) (w1 := 2) (as := [vi 1, vi z18]) (rest := []) (by decide +kernel) (q := 177) (nq := 7) (kq := 7) ⟨by decide, rfl⟩ rfl rfl rfl rfl (xe_mono (C_X6_fail_177 s0 hG0 1 ⟨by decide, by decide⟩ z18 (by first | exact x_rbe e_z18 g_z18 rfl rfl | exact x_rb g_z18 rfl rfl | exact ⟨by omega, by omega⟩)) ?_)
      rintro s20 v ⟨hG_s20, t_s20, rfl, xp_z19⟩
      have f_s20 : FL [2560, 2688, 1219, 1220, 1221, 1222, 1223] s0 s20 := f0.tr t_s20 (by decide +kernel)
      have q21 : s20 177 3 = z18 := (t_s20 177 3 (show 1220 ∉ [1222, 1223] from by decide +kernel)).trans e_z18.symm
      obtain ⟨z22, e_z22⟩ : ∃ z, z = s20 177 5 := ⟨_, rfl⟩
      have g_z22 : (0 : Int) ≤ s20 177 5 ∧ s20 177 5 ≤ 5 := hG_s20 177 5
      show xe none 5 27 [(2, vi z3), (0, .ref 218), (1, .ref 177)] [] s20 0 0 _
      refine x_goto k5_27 (t := 34) rfl ?_
      refine x_A k5_34 (fun _ => rfl) ?_
      refine x_A k5_35 (fun _ => rfl) ?_
      refine x_callS k5_36 (y := 7) (n := 2) (w0 := 0) (w1 := 2) (as := [.ref 177, vi z3]) (rest := []) (by decide +kernel) rfl rfl rfl rfl (xe_mono (C_X0_readNumber_177 s20 hG_s20 z3 (by first | exact x_rbe e_z3 g_z3 rfl rfl | exact x_rb g_z3 rfl rfl | exact ⟨by omega, by omega⟩)) ?_)
      rintro s24 v ⟨hG_s24, t_s24, z23, rfl, g_z23⟩
      have f_s24 : FL [2560, 2688, 1219, 1220, 1221, 1222, 1223] s0 s24 := f_s20.tr t_s24 (by decide +kernel)
      show xe none 5 39 [(2, vi z3), (0, .ref 218), (1, .ref 177)] [vi z23] s24 0 0 _
      refine x_istore_n k5_39 (ls' := [(3, vi z23), (2, vi z3), (0, .ref 218), (1, .ref 177)]) (by decide) rfl ?_
      refine x_A k5_40 (fun _ => rfl) ?_
      refine x_getI k5_41 (f := 5) rfl (q := 177) (n := 7) (kd := 7) ⟨by decide, rfl⟩ (by decide) rfl ?_
      refine x_top (fun z25 e_z25 => ?_)
      have g_z25 : (0 : Int) ≤ s24 177 5 ∧ s24 177 5 ≤ 5 := hG_s24 177 5
      refine x_if_ne k5_44 (t := 58) rfl (by first | exact x_rbe e_z25 g_z25 rfl rfl | exact x_rb g_z25 rfl rfl | exact ⟨by omega, by omega⟩) (fun c26 => ?_) (fun c26 => ?_)
      · skip
        exact x_vret k5_58 rfl ⟨hG_s24, f_s24, rfl⟩
      · skip
        refine x_A k5_47 (fun _ => rfl) ?_
        refine x_A k5_48 (fun _ => rfl) ?_
        refine x_sipush k5_49 (by decide +kernel) ?_
        refine x_imul k5_52 ?_
        refine x_top (fun z27 e_z27 => ?_)
        refine x_A k5_53 (fun _ => rfl) ?_
        refine x_iadd k5_54 ?_
        refine x_topW (fun z28 g_z28 => ?_)
        unfold in32 at g_z28
        refine x_callV k5_55 (y := 13) (n := 1) (w0 := 0) (w1 := 1) (as := [vi z28]) (rest := []) (by decide +kernel) (q := 218) (nq := 7) (kq := 11) ⟨by decide, rfl⟩ rfl rfl rfl rfl (xe_mono (C_X0_emit_218 s24 hG_s24 z28 (by first | exact x_rbe e_z28 g_z28 rfl rfl | exact x_rb g_z28 rfl rfl | exact ⟨by omega, by omega⟩)) ?_)
        rintro s30 v ⟨hG_s30, t_s30, rfl⟩
        have f_s30 : FL [2560, 2688, 1219, 1220, 1221, 1222, 1223] s0 s30 := f_s24.tr t_s30 (by decide +kernel)
        have q31 : s30 177 5 = z25 := (t_s30 177 5 (show 1222 ∉ [2560, 2688] from by decide +kernel)).trans e_z25.symm
        show xe none 5 58 [(3, vi z23), (2, vi z3), (0, .ref 218), (1, .ref 177)] [] s30 0 0 _
        exact x_vret k5_58 rfl ⟨hG_s30, f_s30, rfl⟩
  · skip
    exact x_vret k5_7 rfl ⟨hG0, f0, rfl⟩
theorem L_C_X0_readUpToOne_218_177_2 (s0 : xS)   : ∀ (n : Nat) (s : xS) (x2 : Int) (hG : GI s) (f : FL [2501, 2502, 2560, 2688, 2816, 1219, 1220, 1221, 1222, 1223] s0 s) (b_x2 : 0 ≤ x2 ∧ x2 ≤ 100)  (hm : (100 - x2) < (n : Int)), xe none 3 2 [(0, .ref 218), (1, .ref 177), (2, vi x2)] [] s 0 0 (fun s' v => GI s' ∧ FL [2501, 2502, 2560, 2688, 2816, 1219, 1220, 1221, 1222, 1223] s0 s' ∧ v = none) := by
  intro n
  induction n with
  | zero => intro s x2 hG f b_x2  hm; exfalso; omega
  | succ n ih =>
    intro s x2 hG f b_x2  hm
    refine x_A k3_2 (fun _ => rfl) ?_
    refine x_bipush k3_3 (by decide +kernel) ?_
    refine x_ic_ge k3_5 (t := 61) rfl (by first | exact x_rb b_x2 rfl rfl | exact ⟨by omega, by omega⟩) ⟨by decide, by decide⟩ (fun c343 => ?_) (fun c343 => ?_)
    · skip
      exact x_vret k3_61 rfl ⟨hG, f, rfl⟩
    · skip
      refine x_A k3_8 (fun _ => rfl) ?_
      refine x_getI k3_9 (f := 5) rfl (q := 177) (n := 7) (kd := 7) ⟨by decide, rfl⟩ (by decide) rfl ?_
      refine x_top (fun z344 e_z344 => ?_)
      have g_z344 : (0 : Int) ≤ s 177 5 ∧ s 177 5 ≤ 5 := hG 177 5
      refine x_if_ne k3_12 (t := 61) rfl (by first | exact x_rbe e_z344 g_z344 rfl rfl | exact x_rb g_z344 rfl rfl | exact ⟨by omega, by omega⟩) (fun c345 => ?_) (fun c345 => ?_)
      · skip
        exact x_vret k3_61 rfl ⟨hG, f, rfl⟩
      · skip
        refine x_A k3_15 (fun _ => rfl) ?_
        refine x_bipush k3_16 (by decide +kernel) ?_
        refine x_callV k3_18 (y := 54) (n := 1) (w0 := 0) (w1 := 1) (as := [vi 40]) (rest := []) (by decide +kernel) (q := 177) (nq := 7) (kq := 7) ⟨by decide, rfl⟩ rfl rfl rfl rfl (xe_mono (C_X6_isSign_177 s hG 40 ⟨by decide, by decide⟩) ?_)
        rintro s347 v ⟨-, t_s347, z346, rfl, g_z346⟩
        rw [t_s347.nil]
        show xe none 3 21 [(0, .ref 218), (1, .ref 177), (2, vi x2)] [vi z346] s 0 0 _
        refine x_if_eq k3_21 (t := 32) rfl (by first | exact x_rbe e_z346 g_z346 rfl rfl | exact x_rb g_z346 rfl rfl | exact ⟨by omega, by omega⟩) (fun c348 => ?_) (fun c348 => ?_)
        · skip
          refine x_A k3_32 (fun _ => rfl) ?_
          refine x_ldcR k3_33 (q := 2001) rfl ?_
          refine x_callV k3_35 (y := 53) (n := 1) (w0 := 0) (w1 := 1) (as := [.ref 2001]) (rest := []) (by decide +kernel) (q := 177) (nq := 7) (kq := 7) ⟨by decide, rfl⟩ rfl rfl rfl rfl (xe_mono (C_X6_isWord_177_2001 s hG) ?_)
          rintro s350 v ⟨-, t_s350, z349, rfl, g_z349⟩
          rw [t_s350.nil]
          show xe none 3 38 [(0, .ref 218), (1, .ref 177), (2, vi x2)] [vi z349] s 0 0 _
          refine x_if_eq k3_38 (t := 50) rfl (by first | exact x_rbe e_z349 g_z349 rfl rfl | exact x_rb g_z349 rfl rfl | exact ⟨by omega, by omega⟩) (fun c351 => ?_) (fun c351 => ?_)
          · skip
            exact x_vret k3_50 rfl ⟨hG, f, rfl⟩
          · skip
            refine x_A k3_41 (fun _ => rfl) ?_
            refine x_bipush k3_42 (by decide +kernel) ?_
            refine x_callV k3_44 (y := 11) (n := 1) (w0 := 0) (w1 := 1) (as := [vi 9]) (rest := []) (by decide +kernel) (q := 218) (nq := 7) (kq := 11) ⟨by decide, rfl⟩ rfl rfl rfl rfl (xe_mono (C_X0_hold_218 s hG 9 ⟨by decide, by decide⟩) ?_)
            rintro s353 v ⟨hG_s353, t_s353, rfl⟩
            have f_s353 : FL [2501, 2502, 2560, 2688, 2816, 1219, 1220, 1221, 1222, 1223] s0 s353 := f.tr t_s353 (by decide +kernel)
            have q354 : s353 177 5 = z344 := (t_s353 177 5 (show 1222 ∉ [2501, 2816] from by decide +kernel)).trans e_z344.symm
            show xe none 3 47 [(0, .ref 218), (1, .ref 177), (2, vi x2)] [] s353 0 0 _
            refine x_goto k3_47 (t := 51) rfl ?_
            refine x_A k3_51 (fun _ => rfl) ?_
            refine x_callV k3_52 (y := 51) (n := 0) (w0 := 0) (w1 := 0) (as := []) (rest := []) (by decide +kernel) (q := 177) (nq := 7) (kq := 7) ⟨by decide, rfl⟩ rfl rfl rfl rfl (xe_mono (C_X6_advance_177 s353 hG_s353) ?_)
            rintro s356 v ⟨hG_s356, t_s356, rfl⟩
            have f_s356 : FL [2501, 2502, 2560, 2688, 2816, 1219, 1220, 1221, 1222, 1223] s0 s356 := f_s353.tr t_s356 (by decide +kernel)
            have q357 : s356 177 5 = z344 := (t_s356 177 5 (show 1222 ∉ [1219, 1220, 1221] from by decide +kernel)).trans q354
            show xe none 3 55 [(0, .ref 218), (1, .ref 177), (2, vi x2)] [] s356 0 0 _
            refine x_iinc k3_55 (ls' := [(2, vi (x2 + 1)), (0, .ref 218), (1, .ref 177)]) rfl (by decide) rfl ?_
            refine x_goto k3_58 (t := 2) rfl ?_
            refine x_ls (l := [(0, .ref 218), (1, .ref 177), (2, vi (x2 + 1))]) (show ([0, 1, 2] : List Nat).Nodup from by decide +kernel) ⟨rfl, rfl, rfl, trivial⟩ ?_
            exact ih s356 (x2 + 1) hG_s356 f_s356 ⟨by omega, by omega⟩  (by omega)
        · skip
          refine x_A k3_24 (fun _ => rfl) ?_
          refine x_A k3_25 (fun _ => rfl) ?_
          refine x_callV k3_26 (y := 4) (n := 1) (w0 := 0) (w1 := 1) (as := [.ref 177]) (rest := []) (by decide +kernel) (q := 218) (nq := 7) (kq := 11) ⟨by decide, rfl⟩ rfl rfl rfl rfl (xe_mono (C_X0_openBracket_218_177 s hG) ?_)
          rintro s359 v ⟨hG_s359, t_s359, rfl⟩
          have f_s359 : FL [2501, 2502, 2560, 2688, 2816, 1219, 1220, 1221, 1222, 1223] s0 s359 := f.tr t_s359 (by decide +kernel)
          show xe none 3 29 [(0, .ref 218), (1, .ref 177), (2, vi x2)] [] s359 0 0 _
          refine x_goto k3_29 (t := 51) rfl ?_
          refine x_A k3_51 (fun _ => rfl) ?_
          refine x_callV k3_52 (y := 51) (n := 0) (w0 := 0) (w1 := 0) (as := []) (rest := []) (by decide +kernel) (q := 177) (nq := 7) (kq := 7) ⟨by decide, rfl⟩ rfl rfl rfl rfl (xe_mono (C_X6_advance_177 s359 hG_s359) ?_)
          rintro s361 v ⟨hG_s361, t_s361, rfl⟩
          have f_s361 : FL [2501, 2502, 2560, 2688, 2816, 1219, 1220, 1221, 1222, 1223] s0 s361 := f_s359.tr t_s361 (by decide +kernel)
          show xe none 3 55 [(0, .ref 218), (1, .ref 177), (2, vi x2)] [] s361 0 0 _
          refine x_iinc k3_55 (ls' := [(2, vi (x2 + 1)), (0, .ref 218), (1, .ref 177)]) rfl (by decide) rfl ?_
          refine x_goto k3_58 (t := 2) rfl ?_
          refine x_ls (l := [(0, .ref 218), (1, .ref 177), (2, vi (x2 + 1))]) (show ([0, 1, 2] : List Nat).Nodup from by decide +kernel) ⟨rfl, rfl, rfl, trivial⟩ ?_
          exact ih s361 (x2 + 1) hG_s361 f_s361 ⟨by omega, by omega⟩  (by omega)
theorem C_X0_readUpToOne_218_177 (s0 : xS) (hG0 : GI s0)  : xe none 3 0 (lv_args 0 [.ref 218, .ref 177]) [] s0 0 0 (fun s' v => GI s' ∧ FL [2501, 2502, 2560, 2688, 2816, 1219, 1220, 1221, 1222, 1223] s0 s' ∧ v = none) := by
  have f0 : FL [2501, 2502, 2560, 2688, 2816, 1219, 1220, 1221, 1222, 1223] s0 s0 := FL.rf
  show xe none 3 0 [(0, .ref 218), (1, .ref 177)] [] s0 0 0 _
  refine x_A k3_0 (fun _ => rfl) ?_
  refine x_istore_n k3_1 (ls' := [(2, vi 0), (0, .ref 218), (1, .ref 177)]) (by decide) rfl ?_
  refine x_ls (l := [(0, .ref 218), (1, .ref 177), (2, vi 0)]) (show ([0, 1, 2] : List Nat).Nodup from by decide +kernel) ⟨rfl, rfl, rfl, trivial⟩ ?_
  exact L_C_X0_readUpToOne_218_177_2 s0   (((100 - 0) + 1 : Int)).toNat s0 0 hG0 f0 ⟨by decide, by decide⟩  (by omega)
theorem L_C_X0_readUpToJoin_218_177_2 (s0 : xS)   : ∀ (n : Nat) (s : xS) (x2 : Int) (hG : GI s) (f : FL [2501, 2502, 2560, 2688, 2816, 1219, 1220, 1221, 1222, 1223] s0 s) (b_x2 : 0 ≤ x2 ∧ x2 ≤ 6)  (hm : (6 - x2) < (n : Int)), xe none 8 2 [(0, .ref 218), (1, .ref 177), (2, vi x2)] [] s 0 0 (fun s' v => GI s' ∧ FL [2501, 2502, 2560, 2688, 2816, 1219, 1220, 1221, 1222, 1223] s0 s' ∧ ∃ z, v = some (vi z) ∧ (0 ≤ z ∧ z ≤ 1)) := by
  intro n
  induction n with
  | zero => intro s x2 hG f b_x2  hm; exfalso; omega
  | succ n ih =>
    intro s x2 hG f b_x2  hm
    refine x_A k8_2 (fun _ => rfl) ?_
    refine x_A k8_3 (fun _ => rfl) ?_
    refine x_ic_gt k8_4 (t := 47) rfl (by first | exact x_rb b_x2 rfl rfl | exact ⟨by omega, by omega⟩) ⟨by decide, by decide⟩ (fun c1077 => ?_) (fun c1077 => ?_)
    · skip
      refine x_A k8_47 (fun _ => rfl) ?_
      refine x_getI k8_48 (f := 5) rfl (q := 177) (n := 7) (kd := 7) ⟨by decide, rfl⟩ (by decide) rfl ?_
      refine x_top (fun z1078 e_z1078 => ?_)
      have g_z1078 : (0 : Int) ≤ s 177 5 ∧ s 177 5 ≤ 5 := hG 177 5
      refine x_if_eq k8_51 (t := 56) rfl (by first | exact x_rbe e_z1078 g_z1078 rfl rfl | exact x_rb g_z1078 rfl rfl | exact ⟨by omega, by omega⟩) (fun c1079 => ?_) (fun c1079 => ?_)
      · skip
        refine x_A k8_56 (fun _ => rfl) ?_
        refine x_getI k8_57 (f := 2) rfl (q := 177) (n := 7) (kd := 7) ⟨by decide, rfl⟩ (by decide) rfl ?_
        refine x_top (fun z1080 e_z1080 => ?_)
        have g_z1080 : (0 : Int) ≤ s 177 2 ∧ s 177 2 ≤ 3 := hG 177 2
        refine x_if_ne k8_60 (t := 72) rfl (by first | exact x_rbe e_z1080 g_z1080 rfl rfl | exact x_rb g_z1080 rfl rfl | exact ⟨by omega, by omega⟩) (fun c1081 => ?_) (fun c1081 => ?_)
        · skip
          refine x_A k8_72 (fun _ => rfl) ?_
          refine x_ldcR k8_73 (q := 2007) rfl ?_
          refine x_callV k8_75 (y := 53) (n := 1) (w0 := 0) (w1 := 1) (as := [.ref 2007]) (rest := []) (by decide +kernel) (q := 177) (nq := 7) (kq := 7) ⟨by decide, rfl⟩ rfl rfl rfl rfl (xe_mono (C_X6_isWord_177_2007 s hG) ?_)
          rintro s1083 v ⟨-, t_s1083, z1082, rfl, g_z1082⟩
          rw [t_s1083.nil]
          show xe none 8 78 [(0, .ref 218), (1, .ref 177), (2, vi x2)] [vi z1082] s 0 0 _
          refine x_if_eq k8_78 (t := 90) rfl (by first | exact x_rbe e_z1082 g_z1082 rfl rfl | exact x_rb g_z1082 rfl rfl | exact ⟨by omega, by omega⟩) (fun c1084 => ?_) (fun c1084 => ?_)
          · skip
            refine x_A k8_90 (fun _ => rfl) ?_
            refine x_ldcR k8_91 (q := 2008) rfl ?_
            refine x_callV k8_93 (y := 53) (n := 1) (w0 := 0) (w1 := 1) (as := [.ref 2008]) (rest := []) (by decide +kernel) (q := 177) (nq := 7) (kq := 7) ⟨by decide, rfl⟩ rfl rfl rfl rfl (xe_mono (C_X6_isWord_177_2008 s hG) ?_)
            rintro s1086 v ⟨-, t_s1086, z1085, rfl, g_z1085⟩
            rw [t_s1086.nil]
            show xe none 8 96 [(0, .ref 218), (1, .ref 177), (2, vi x2)] [vi z1085] s 0 0 _
            refine x_if_eq k8_96 (t := 108) rfl (by first | exact x_rbe e_z1085 g_z1085 rfl rfl | exact x_rb g_z1085 rfl rfl | exact ⟨by omega, by omega⟩) (fun c1087 => ?_) (fun c1087 => ?_)
            · skip
              refine x_A k8_108 (fun _ => rfl) ?_
              refine x_A k8_109 (fun _ => rfl) ?_
              refine x_A k8_110 (fun _ => rfl) ?_
              refine x_getI k8_111 (f := 3) rfl (q := 177) (n := 7) (kd := 7) ⟨by decide, rfl⟩ (by decide) rfl ?_
              refine x_top (fun z1088 e_z1088 => ?_)
              have g_z1088 : (0 : Int) ≤ s 177 3 ∧ s 177 3 ≤ 160 := hG 177 3
              refine x_callV k8_114 (y := 52) (n := 2) (w0 := 0) (w1 := 2) (as := [vi 1, vi z1088]) (rest := []) (by decide +kernel) (q := 177) (nq := 7) (kq := 7) ⟨by decide, rfl⟩ rfl rfl rfl rfl (xe_mono (C_X6_fail_177 s hG 1 ⟨by decide, by decide⟩ z1088 (by first | exact x_rbe e_z1088 g_z1088 rfl rfl | exact x_rb g_z1088 rfl rfl | exact ⟨by omega, by omega⟩)) ?_)
              rintro s1090 v ⟨hG_s1090, t_s1090, rfl, xp_z1089⟩
              have f_s1090 : FL [2501, 2502, 2560, 2688, 2816, 1219, 1220, 1221, 1222, 1223] s0 s1090 := f.tr t_s1090 (by decide +kernel)
              have q1091 : s1090 177 2 = z1080 := (t_s1090 177 2 (show 1219 ∉ [1222, 1223] from by decide +kernel)).trans e_z1080.symm
              have q1092 : s1090 177 3 = z1088 := (t_s1090 177 3 (show 1220 ∉ [1222, 1223] from by decide +kernel)).trans e_z1088.symm
              obtain ⟨z1093, e_z1093⟩ : ∃ z, z = s1090 177 5 := ⟨_, rfl⟩
              have g_z1093 : (0 : Int) ≤ s1090 177 5 ∧ s1090 177 5 ≤ 5 := hG_s1090 177 5
              show xe none 8 117 [(0, .ref 218), (1, .ref 177), (2, vi x2)] [] s1090 0 0 _
              refine x_A k8_117 (fun _ => rfl) ?_
              refine x_getI k8_118 (f := 5) rfl (q := 177) (n := 7) (kd := 7) ⟨by decide, rfl⟩ (by decide) rfl ?_
              rw [e_z1093.symm]
              refine x_if_eq k8_121 (t := 126) rfl (by first | exact x_rbe e_z1093 g_z1093 rfl rfl | exact x_rb g_z1093 rfl rfl | exact ⟨by omega, by omega⟩) (fun c1094 => ?_) (fun c1094 => ?_)
              · skip
                refine x_A k8_126 (fun _ => rfl) ?_
                refine x_callV k8_127 (y := 51) (n := 0) (w0 := 0) (w1 := 0) (as := []) (rest := []) (by decide +kernel) (q := 177) (nq := 7) (kq := 7) ⟨by decide, rfl⟩ rfl rfl rfl rfl (xe_mono (C_X6_advance_177 s1090 hG_s1090) ?_)
                rintro s1096 v ⟨hG_s1096, t_s1096, rfl⟩
                have f_s1096 : FL [2501, 2502, 2560, 2688, 2816, 1219, 1220, 1221, 1222, 1223] s0 s1096 := f_s1090.tr t_s1096 (by decide +kernel)
                have q1097 : s1096 177 5 = z1093 := (t_s1096 177 5 (show 1222 ∉ [1219, 1220, 1221] from by decide +kernel)).trans e_z1093.symm
                show xe none 8 130 [(0, .ref 218), (1, .ref 177), (2, vi x2)] [] s1096 0 0 _
                refine x_A k8_130 (fun _ => rfl) ?_
                exact x_zret k8_131 rfl ⟨by omega, by omega⟩ ⟨hG_s1096, f_s1096, 1, rfl, ⟨by decide, by decide⟩⟩
              · skip
                refine x_A k8_124 (fun _ => rfl) ?_
                exact x_zret k8_125 rfl ⟨by omega, by omega⟩ ⟨hG_s1090, f_s1090, 0, rfl, ⟨by decide, by decide⟩⟩
            · skip
              refine x_A k8_99 (fun _ => rfl) ?_
              refine x_bipush k8_100 (by decide +kernel) ?_
              refine x_callV k8_102 (y := 10) (n := 1) (w0 := 0) (w1 := 1) (as := [vi 7]) (rest := []) (by decide +kernel) (q := 218) (nq := 7) (kq := 11) ⟨by decide, rfl⟩ rfl rfl rfl rfl (xe_mono (C_X0_joinBy_218 s hG 7 ⟨by decide, by decide⟩) ?_)
              rintro s1099 v ⟨hG_s1099, t_s1099, rfl⟩
              have f_s1099 : FL [2501, 2502, 2560, 2688, 2816, 1219, 1220, 1221, 1222, 1223] s0 s1099 := f.tr t_s1099 (by decide +kernel)
              have q1100 : s1099 177 5 = z1078 := (t_s1099 177 5 (show 1222 ∉ [2501, 2560, 2688, 2816] from by decide +kernel)).trans e_z1078.symm
              have q1101 : s1099 177 2 = z1080 := (t_s1099 177 2 (show 1219 ∉ [2501, 2560, 2688, 2816] from by decide +kernel)).trans e_z1080.symm
              show xe none 8 105 [(0, .ref 218), (1, .ref 177), (2, vi x2)] [] s1099 0 0 _
              refine x_goto k8_105 (t := 117) rfl ?_
              refine x_A k8_117 (fun _ => rfl) ?_
              refine x_getI k8_118 (f := 5) rfl (q := 177) (n := 7) (kd := 7) ⟨by decide, rfl⟩ (by decide) rfl ?_
              rw [q1100]
              refine x_if_eq k8_121 (t := 126) rfl (by first | exact x_rbe e_z1078 g_z1078 rfl rfl | exact x_rb g_z1078 rfl rfl | exact ⟨by omega, by omega⟩) (fun c1102 => ?_) (fun c1102 => by exfalso; omega)
              refine x_A k8_126 (fun _ => rfl) ?_
              refine x_callV k8_127 (y := 51) (n := 0) (w0 := 0) (w1 := 0) (as := []) (rest := []) (by decide +kernel) (q := 177) (nq := 7) (kq := 7) ⟨by decide, rfl⟩ rfl rfl rfl rfl (xe_mono (C_X6_advance_177 s1099 hG_s1099) ?_)
              rintro s1104 v ⟨hG_s1104, t_s1104, rfl⟩
              have f_s1104 : FL [2501, 2502, 2560, 2688, 2816, 1219, 1220, 1221, 1222, 1223] s0 s1104 := f_s1099.tr t_s1104 (by decide +kernel)
              have q1105 : s1104 177 5 = z1078 := (t_s1104 177 5 (show 1222 ∉ [1219, 1220, 1221] from by decide +kernel)).trans q1100
              show xe none 8 130 [(0, .ref 218), (1, .ref 177), (2, vi x2)] [] s1104 0 0 _
              refine x_A k8_130 (fun _ => rfl) ?_
              exact x_zret k8_131 rfl ⟨by omega, by omega⟩ ⟨hG_s1104, f_s1104, 1, rfl, ⟨by decide, by decide⟩⟩
          · skip
            refine x_A k8_81 (fun _ => rfl) ?_
            refine x_bipush k8_82 (by decide +kernel) ?_
            refine x_callV k8_84 (y := 10) (n := 1) (w0 := 0) (w1 := 1) (as := [vi 8]) (rest := []) (by decide +kernel) (q := 218) (nq := 7) (kq := 11) ⟨by decide, rfl⟩ rfl rfl rfl rfl (xe_mono (C_X0_joinBy_218 s hG 8 ⟨by decide, by decide⟩) ?_)
            rintro s1107 v ⟨hG_s1107, t_s1107, rfl⟩
            have f_s1107 : FL [2501, 2502, 2560, 2688, 2816, 1219, 1220, 1221, 1222, 1223] s0 s1107 := f.tr t_s1107 (by decide +kernel)
            have q1108 : s1107 177 5 = z1078 := (t_s1107 177 5 (show 1222 ∉ [2501, 2560, 2688, 2816] from by decide +kernel)).trans e_z1078.symm
            have q1109 : s1107 177 2 = z1080 := (t_s1107 177 2 (show 1219 ∉ [2501, 2560, 2688, 2816] from by decide +kernel)).trans e_z1080.symm
            show xe none 8 87 [(0, .ref 218), (1, .ref 177), (2, vi x2)] [] s1107 0 0 _
            refine x_goto k8_87 (t := 117) rfl ?_
            refine x_A k8_117 (fun _ => rfl) ?_
            refine x_getI k8_118 (f := 5) rfl (q := 177) (n := 7) (kd := 7) ⟨by decide, rfl⟩ (by decide) rfl ?_
            rw [q1108]
            refine x_if_eq k8_121 (t := 126) rfl (by first | exact x_rbe e_z1078 g_z1078 rfl rfl | exact x_rb g_z1078 rfl rfl | exact ⟨by omega, by omega⟩) (fun c1110 => ?_) (fun c1110 => by exfalso; omega)
            refine x_A k8_126 (fun _ => rfl) ?_
            refine x_callV k8_127 (y := 51) (n := 0) (w0 := 0) (w1 := 0) (as := []) (rest := []) (by decide +kernel) (q := 177) (nq := 7) (kq := 7) ⟨by decide, rfl⟩ rfl rfl rfl rfl (xe_mono (C_X6_advance_177 s1107 hG_s1107) ?_)
            rintro s1112 v ⟨hG_s1112, t_s1112, rfl⟩
            have f_s1112 : FL [2501, 2502, 2560, 2688, 2816, 1219, 1220, 1221, 1222, 1223] s0 s1112 := f_s1107.tr t_s1112 (by decide +kernel)
            have q1113 : s1112 177 5 = z1078 := (t_s1112 177 5 (show 1222 ∉ [1219, 1220, 1221] from by decide +kernel)).trans q1108
            show xe none 8 130 [(0, .ref 218), (1, .ref 177), (2, vi x2)] [] s1112 0 0 _
            refine x_A k8_130 (fun _ => rfl) ?_
            exact x_zret k8_131 rfl ⟨by omega, by omega⟩ ⟨hG_s1112, f_s1112, 1, rfl, ⟨by decide, by decide⟩⟩
        · skip
          refine x_A k8_63 (fun _ => rfl) ?_
          refine x_getI k8_64 (f := 5) rfl (q := 218) (n := 7) (kd := 11) ⟨by decide, rfl⟩ (by decide) rfl ?_
          refine x_top (fun z1114 e_z1114 => ?_)
          have g_z1114 : (-2147483648) ≤ s 218 5 ∧ s 218 5 ≤ 2147483647 := hG 218 5
          refine x_if_ne k8_67 (t := 72) rfl (by first | exact x_rbe e_z1114 g_z1114 rfl rfl | exact x_rb g_z1114 rfl rfl | exact ⟨by omega, by omega⟩) (fun c1115 => ?_) (fun c1115 => ?_)
          · skip
            refine x_A k8_72 (fun _ => rfl) ?_
            refine x_ldcR k8_73 (q := 2007) rfl ?_
            refine x_callV k8_75 (y := 53) (n := 1) (w0 := 0) (w1 := 1) (as := [.ref 2007]) (rest := []) (by decide +kernel) (q := 177) (nq := 7) (kq := 7) ⟨by decide, rfl⟩ rfl rfl rfl rfl (xe_mono (C_X6_isWord_177_2007 s hG) ?_)
            rintro s1117 v ⟨-, t_s1117, z1116, rfl, g_z1116⟩
            rw [t_s1117.nil]
            show xe none 8 78 [(0, .ref 218), (1, .ref 177), (2, vi x2)] [vi z1116] s 0 0 _
            refine x_if_eq k8_78 (t := 90) rfl (by first | exact x_rbe e_z1116 g_z1116 rfl rfl | exact x_rb g_z1116 rfl rfl | exact ⟨by omega, by omega⟩) (fun c1118 => ?_) (fun c1118 => ?_)
            · skip
              refine x_A k8_90 (fun _ => rfl) ?_
              refine x_ldcR k8_91 (q := 2008) rfl ?_
              refine x_callV k8_93 (y := 53) (n := 1) (w0 := 0) (w1 := 1) (as := [.ref 2008]) (rest := []) (by decide +kernel) (q := 177) (nq := 7) (kq := 7) ⟨by decide, rfl⟩ rfl rfl rfl rfl (xe_mono (C_X6_isWord_177_2008 s hG) ?_)
              rintro s1120 v ⟨-, t_s1120, z1119, rfl, g_z1119⟩
              rw [t_s1120.nil]
              show xe none 8 96 [(0, .ref 218), (1, .ref 177), (2, vi x2)] [vi z1119] s 0 0 _
              refine x_if_eq k8_96 (t := 108) rfl (by first | exact x_rbe e_z1119 g_z1119 rfl rfl | exact x_rb g_z1119 rfl rfl | exact ⟨by omega, by omega⟩) (fun c1121 => ?_) (fun c1121 => ?_)
              · skip
                refine x_A k8_108 (fun _ => rfl) ?_
                refine x_A k8_109 (fun _ => rfl) ?_
                refine x_A k8_110 (fun _ => rfl) ?_
                refine x_getI k8_111 (f := 3) rfl (q := 177) (n := 7) (kd := 7) ⟨by decide, rfl⟩ (by decide) rfl ?_
                refine x_top (fun z1122 e_z1122 => ?_)
                have g_z1122 : (0 : Int) ≤ s 177 3 ∧ s 177 3 ≤ 160 := hG 177 3
                refine x_callV k8_114 (y := 52) (n := 2) (w0 := 0) (w1 := 2) (as := [vi 1, vi z1122]) (rest := []) (by decide +kernel) (q := 177) (nq := 7) (kq := 7) ⟨by decide, rfl⟩ rfl rfl rfl rfl (xe_mono (C_X6_fail_177 s hG 1 ⟨by decide, by decide⟩ z1122 (by first | exact x_rbe e_z1122 g_z1122 rfl rfl | exact x_rb g_z1122 rfl rfl | exact ⟨by omega, by omega⟩)) ?_)
                rintro s1124 v ⟨hG_s1124, t_s1124, rfl, xp_z1123⟩
                have f_s1124 : FL [2501, 2502, 2560, 2688, 2816, 1219, 1220, 1221, 1222, 1223] s0 s1124 := f.tr t_s1124 (by decide +kernel)
                have q1125 : s1124 177 2 = z1080 := (t_s1124 177 2 (show 1219 ∉ [1222, 1223] from by decide +kernel)).trans e_z1080.symm
                have q1126 : s1124 218 5 = z1114 := (t_s1124 218 5 (show 2502 ∉ [1222, 1223] from by decide +kernel)).trans e_z1114.symm
                have q1127 : s1124 177 3 = z1122 := (t_s1124 177 3 (show 1220 ∉ [1222, 1223] from by decide +kernel)).trans e_z1122.symm
                obtain ⟨z1128, e_z1128⟩ : ∃ z, z = s1124 177 5 := ⟨_, rfl⟩
                have g_z1128 : (0 : Int) ≤ s1124 177 5 ∧ s1124 177 5 ≤ 5 := hG_s1124 177 5
                show xe none 8 117 [(0, .ref 218), (1, .ref 177), (2, vi x2)] [] s1124 0 0 _
                refine x_A k8_117 (fun _ => rfl) ?_
                refine x_getI k8_118 (f := 5) rfl (q := 177) (n := 7) (kd := 7) ⟨by decide, rfl⟩ (by decide) rfl ?_
                rw [e_z1128.symm]
                refine x_if_eq k8_121 (t := 126) rfl (by first | exact x_rbe e_z1128 g_z1128 rfl rfl | exact x_rb g_z1128 rfl rfl | exact ⟨by omega, by omega⟩) (fun c1129 => ?_) (fun c1129 => ?_)
                · skip
                  refine x_A k8_126 (fun _ => rfl) ?_
                  refine x_callV k8_127 (y := 51) (n := 0) (w0 := 0) (w1 := 0) (as := []) (rest := []) (by decide +kernel) (q := 177) (nq := 7) (kq := 7) ⟨by decide, rfl⟩ rfl rfl rfl rfl (xe_mono (C_X6_advance_177 s1124 hG_s1124) ?_)
                  rintro s1131 v ⟨hG_s1131, t_s1131, rfl⟩
                  have f_s1131 : FL [2501, 2502, 2560, 2688, 2816, 1219, 1220, 1221, 1222, 1223] s0 s1131 := f_s1124.tr t_s1131 (by decide +kernel)
                  have q1132 : s1131 218 5 = z1114 := (t_s1131 218 5 (show 2502 ∉ [1219, 1220, 1221] from by decide +kernel)).trans q1126
                  have q1133 : s1131 177 5 = z1128 := (t_s1131 177 5 (show 1222 ∉ [1219, 1220, 1221] from by decide +kernel)).trans e_z1128.symm
                  show xe none 8 130 [(0, .ref 218), (1, .ref 177), (2, vi x2)] [] s1131 0 0 _
                  refine x_A k8_130 (fun _ => rfl) ?_
                  exact x_zret k8_131 rfl ⟨by omega, by omega⟩ ⟨hG_s1131, f_s1131, 1, rfl, ⟨by decide, by decide⟩⟩
                · skip
                  refine x_A k8_124 (fun _ => rfl) ?_
                  exact x_zret k8_125 rfl ⟨by omega, by omega⟩ ⟨hG_s1124, f_s1124, 0, rfl, ⟨by decide, by decide⟩⟩
              · skip
                refine x_A k8_99 (fun _ => rfl) ?_
                refine x_bipush k8_100 (by decide +kernel) ?_
                refine x_callV k8_102 (y := 10) (n := 1) (w0 := 0) (w1 := 1) (as := [vi 7]) (rest := []) (by decide +kernel) (q := 218) (nq := 7) (kq := 11) ⟨by decide, rfl⟩ rfl rfl rfl rfl (xe_mono (C_X0_joinBy_218 s hG 7 ⟨by decide, by decide⟩) ?_)
                rintro s1135 v ⟨hG_s1135, t_s1135, rfl⟩
                have f_s1135 : FL [2501, 2502, 2560, 2688, 2816, 1219, 1220, 1221, 1222, 1223] s0 s1135 := f.tr t_s1135 (by decide +kernel)
                have q1136 : s1135 177 5 = z1078 := (t_s1135 177 5 (show 1222 ∉ [2501, 2560, 2688, 2816] from by decide +kernel)).trans e_z1078.symm
                have q1137 : s1135 177 2 = z1080 := (t_s1135 177 2 (show 1219 ∉ [2501, 2560, 2688, 2816] from by decide +kernel)).trans e_z1080.symm
                have q1138 : s1135 218 5 = z1114 := (t_s1135 218 5 (show 2502 ∉ [2501, 2560, 2688, 2816] from by decide +kernel)).trans e_z1114.symm
                show xe none 8 105 [(0, .ref 218), (1, .ref 177), (2, vi x2)] [] s1135 0 0 _
                refine x_goto k8_105 (t := 117) rfl ?_
                refine x_A k8_117 (fun _ => rfl) ?_
                refine x_getI k8_118 (f := 5) rfl (q := 177) (n := 7) (kd := 7) ⟨by decide, rfl⟩ (by decide) rfl ?_
                rw [q1136]
                refine x_if_eq k8_121 (t := 126) rfl (by first | exact x_rbe e_z1078 g_z1078 rfl rfl | exact x_rb g_z1078 rfl rfl | exact ⟨by omega, by omega⟩) (fun c1139 => ?_) (fun c1139 => by exfalso; omega)
                refine x_A k8_126 (fun _ => rfl) ?_
                refine x_callV k8_127 (y := 51) (n := 0) (w0 := 0) (w1 := 0) (as := []) (rest := []) (by decide +kernel) (q := 177) (nq := 7) (kq := 7) ⟨by decide, rfl⟩ rfl rfl rfl rfl (xe_mono (C_X6_advance_177 s1135 hG_s1135) ?_)
                rintro s1141 v ⟨hG_s1141, t_s1141, rfl⟩
                have f_s1141 : FL [2501, 2502, 2560, 2688, 2816, 1219, 1220, 1221, 1222, 1223] s0 s1141 := f_s1135.tr t_s1141 (by decide +kernel)
                have q1142 : s1141 177 5 = z1078 := (t_s1141 177 5 (show 1222 ∉ [1219, 1220, 1221] from by decide +kernel)).trans q1136
                have q1143 : s1141 218 5 = z1114 := (t_s1141 218 5 (show 2502 ∉ [1219, 1220, 1221] from by decide +kernel)).trans q1138
                show xe none 8 130 [(0, .ref 218), (1, .ref 177), (2, vi x2)] [] s1141 0 0 _
                refine x_A k8_130 (fun _ => rfl) ?_
                exact x_zret k8_131 rfl ⟨by omega, by omega⟩ ⟨hG_s1141, f_s1141, 1, rfl, ⟨by decide, by decide⟩⟩
            · skip
              refine x_A k8_81 (fun _ => rfl) ?_
              refine x_bipush k8_82 (by decide +kernel) ?_
              refine x_callV k8_84 (y := 10) (n := 1) (w0 := 0) (w1 := 1) (as := [vi 8]) (rest := []) (by decide +kernel) (q := 218) (nq := 7) (kq := 11) ⟨by decide, rfl⟩ rfl rfl rfl rfl (xe_mono (C_X0_joinBy_218 s hG 8 ⟨by decide, by decide⟩) ?_)
              rintro s1145 v ⟨hG_s1145, t_s1145, rfl⟩
              have f_s1145 : FL [2501, 2502, 2560, 2688, 2816, 1219, 1220, 1221, 1222, 1223] s0 s1145 := f.tr t_s1145 (by decide +kernel)
              have q1146 : s1145 177 5 = z1078 := (t_s1145 177 5 (show 1222 ∉ [2501, 2560, 2688, 2816] from by decide +kernel)).trans e_z1078.symm
              have q1147 : s1145 177 2 = z1080 := (t_s1145 177 2 (show 1219 ∉ [2501, 2560, 2688, 2816] from by decide +kernel)).trans e_z1080.symm
              have q1148 : s1145 218 5 = z1114 := (t_s1145 218 5 (show 2502 ∉ [2501, 2560, 2688, 2816] from by decide +kernel)).trans e_z1114.symm
              show xe none 8 87 [(0, .ref 218), (1, .ref 177), (2, vi x2)] [] s1145 0 0 _
              refine x_goto k8_87 (t := 117) rfl ?_
              refine x_A k8_117 (fun _ => rfl) ?_
              refine x_getI k8_118 (f := 5) rfl (q := 177) (n := 7) (kd := 7) ⟨by decide, rfl⟩ (by decide) rfl ?_
              rw [q1146]
              refine x_if_eq k8_121 (t := 126) rfl (by first | exact x_rbe e_z1078 g_z1078 rfl rfl | exact x_rb g_z1078 rfl rfl | exact ⟨by omega, by omega⟩) (fun c1149 => ?_) (fun c1149 => by exfalso; omega)
              refine x_A k8_126 (fun _ => rfl) ?_
              refine x_callV k8_127 (y := 51) (n := 0) (w0 := 0) (w1 := 0) (as := []) (rest := []) (by decide +kernel) (q := 177) (nq := 7) (kq := 7) ⟨by decide, rfl⟩ rfl rfl rfl rfl (xe_mono (C_X6_advance_177 s1145 hG_s1145) ?_)
              rintro s1151 v ⟨hG_s1151, t_s1151, rfl⟩
              have f_s1151 : FL [2501, 2502, 2560, 2688, 2816, 1219, 1220, 1221, 1222, 1223] s0 s1151 := f_s1145.tr t_s1151 (by decide +kernel)
              have q1152 : s1151 177 5 = z1078 := (t_s1151 177 5 (show 1222 ∉ [1219, 1220, 1221] from by decide +kernel)).trans q1146
              have q1153 : s1151 218 5 = z1114 := (t_s1151 218 5 (show 2502 ∉ [1219, 1220, 1221] from by decide +kernel)).trans q1148
              show xe none 8 130 [(0, .ref 218), (1, .ref 177), (2, vi x2)] [] s1151 0 0 _
              refine x_A k8_130 (fun _ => rfl) ?_
              exact x_zret k8_131 rfl ⟨by omega, by omega⟩ ⟨hG_s1151, f_s1151, 1, rfl, ⟨by decide, by decide⟩⟩
          · skip
            refine x_A k8_70 (fun _ => rfl) ?_
            exact x_zret k8_71 rfl ⟨by omega, by omega⟩ ⟨hG, f, 0, rfl, ⟨by decide, by decide⟩⟩
      · skip
        refine x_A k8_54 (fun _ => rfl) ?_
        exact x_zret k8_55 rfl ⟨by omega, by omega⟩ ⟨hG, f, 0, rfl, ⟨by decide, by decide⟩⟩
    · skip
      refine x_A k8_7 (fun _ => rfl) ?_
      refine x_getI k8_8 (f := 5) rfl (q := 177) (n := 7) (kd := 7) ⟨by decide, rfl⟩ (by decide) rfl ?_
      refine x_top (fun z1154 e_z1154 => ?_)
      have g_z1154 : (0 : Int) ≤ s 177 5 ∧ s 177 5 ≤ 5 := hG 177 5
      refine x_if_ne k8_11 (t := 47) rfl (by first | exact x_rbe e_z1154 g_z1154 rfl rfl | exact x_rb g_z1154 rfl rfl | exact ⟨by omega, by omega⟩) (fun c1155 => ?_) (fun c1155 => ?_)
      · skip
        refine x_A k8_47 (fun _ => rfl) ?_
        refine x_getI k8_48 (f := 5) rfl (q := 177) (n := 7) (kd := 7) ⟨by decide, rfl⟩ (by decide) rfl ?_
        rw [e_z1154.symm]
        refine x_if_eq k8_51 (t := 56) rfl (by first | exact x_rbe e_z1154 g_z1154 rfl rfl | exact x_rb g_z1154 rfl rfl | exact ⟨by omega, by omega⟩) (fun c1156 => by exfalso; omega) (fun c1156 => ?_)
        refine x_A k8_54 (fun _ => rfl) ?_
        exact x_zret k8_55 rfl ⟨by omega, by omega⟩ ⟨hG, f, 0, rfl, ⟨by decide, by decide⟩⟩
      · skip
        refine x_A k8_14 (fun _ => rfl) ?_
        refine x_bipush k8_15 (by decide +kernel) ?_
        refine x_callV k8_17 (y := 54) (n := 1) (w0 := 0) (w1 := 1) (as := [vi 41]) (rest := []) (by decide +kernel) (q := 177) (nq := 7) (kq := 7) ⟨by decide, rfl⟩ rfl rfl rfl rfl (xe_mono (C_X6_isSign_177 s hG 41 ⟨by decide, by decide⟩) ?_)
        rintro s1158 v ⟨-, t_s1158, z1157, rfl, g_z1157⟩
        rw [t_s1158.nil]
        show xe none 8 20 [(0, .ref 218), (1, .ref 177), (2, vi x2)] [vi z1157] s 0 0 _
        refine x_if_eq k8_20 (t := 47) rfl (by first | exact x_rbe e_z1157 g_z1157 rfl rfl | exact x_rb g_z1157 rfl rfl | exact ⟨by omega, by omega⟩) (fun c1159 => ?_) (fun c1159 => ?_)
        · skip
          refine x_A k8_47 (fun _ => rfl) ?_
          refine x_getI k8_48 (f := 5) rfl (q := 177) (n := 7) (kd := 7) ⟨by decide, rfl⟩ (by decide) rfl ?_
          rw [e_z1154.symm]
          refine x_if_eq k8_51 (t := 56) rfl (by first | exact x_rbe e_z1154 g_z1154 rfl rfl | exact x_rb g_z1154 rfl rfl | exact ⟨by omega, by omega⟩) (fun c1160 => ?_) (fun c1160 => by exfalso; omega)
          refine x_A k8_56 (fun _ => rfl) ?_
          refine x_getI k8_57 (f := 2) rfl (q := 177) (n := 7) (kd := 7) ⟨by decide, rfl⟩ (by decide) rfl ?_
          refine x_top (fun z1161 e_z1161 => ?_)
          have g_z1161 : (0 : Int) ≤ s 177 2 ∧ s 177 2 ≤ 3 := hG 177 2
          refine x_if_ne k8_60 (t := 72) rfl (by first | exact x_rbe e_z1161 g_z1161 rfl rfl | exact x_rb g_z1161 rfl rfl | exact ⟨by omega, by omega⟩) (fun c1162 => ?_) (fun c1162 => ?_)
          · skip
            refine x_A k8_72 (fun _ => rfl) ?_
            refine x_ldcR k8_73 (q := 2007) rfl ?_
            refine x_callV k8_75 (y := 53) (n := 1) (w0 := 0) (w1 := 1) (as := [.ref 2007]) (rest := []) (by decide +kernel) (q := 177) (nq := 7) (kq := 7) ⟨by decide, rfl⟩ rfl rfl rfl rfl (xe_mono (C_X6_isWord_177_2007 s hG) ?_)
            rintro s1164 v ⟨-, t_s1164, z1163, rfl, g_z1163⟩
            rw [t_s1164.nil]
            show xe none 8 78 [(0, .ref 218), (1, .ref 177), (2, vi x2)] [vi z1163] s 0 0 _
            refine x_if_eq k8_78 (t := 90) rfl (by first | exact x_rbe e_z1163 g_z1163 rfl rfl | exact x_rb g_z1163 rfl rfl | exact ⟨by omega, by omega⟩) (fun c1165 => ?_) (fun c1165 => ?_)
            · skip
              refine x_A k8_90 (fun _ => rfl) ?_
              refine x_ldcR k8_91 (q := 2008) rfl ?_
              refine x_callV k8_93 (y := 53) (n := 1) (w0 := 0) (w1 := 1) (as := [.ref 2008]) (rest := []) (by decide +kernel) (q := 177) (nq := 7) (kq := 7) ⟨by decide, rfl⟩ rfl rfl rfl rfl (xe_mono (C_X6_isWord_177_2008 s hG) ?_)
              rintro s1167 v ⟨-, t_s1167, z1166, rfl, g_z1166⟩
              rw [t_s1167.nil]
              show xe none 8 96 [(0, .ref 218), (1, .ref 177), (2, vi x2)] [vi z1166] s 0 0 _
              refine x_if_eq k8_96 (t := 108) rfl (by first | exact x_rbe e_z1166 g_z1166 rfl rfl | exact x_rb g_z1166 rfl rfl | exact ⟨by omega, by omega⟩) (fun c1168 => ?_) (fun c1168 => ?_)
              · skip
                refine x_A k8_108 (fun _ => rfl) ?_
                refine x_A k8_109 (fun _ => rfl) ?_
                refine x_A k8_110 (fun _ => rfl) ?_
                refine x_getI k8_111 (f := 3) rfl (q := 177) (n := 7) (kd := 7) ⟨by decide, rfl⟩ (by decide) rfl ?_
                refine x_top (fun z1169 e_z1169 => ?_)
                have g_z1169 : (0 : Int) ≤ s 177 3 ∧ s 177 3 ≤ 160 := hG 177 3
                refine x_callV k8_114 (y := 52) (n := 2) (w0 := 0) (w1 := 2) (as := [vi 1, vi z1169]) (rest := []) (by decide +kernel) (q := 177) (nq := 7) (kq := 7) ⟨by decide, rfl⟩ rfl rfl rfl rfl (xe_mono (C_X6_fail_177 s hG 1 ⟨by decide, by decide⟩ z1169 (by first | exact x_rbe e_z1169 g_z1169 rfl rfl | exact x_rb g_z1169 rfl rfl | exact ⟨by omega, by omega⟩)) ?_)
                rintro s1171 v ⟨hG_s1171, t_s1171, rfl, xp_z1170⟩
                have f_s1171 : FL [2501, 2502, 2560, 2688, 2816, 1219, 1220, 1221, 1222, 1223] s0 s1171 := f.tr t_s1171 (by decide +kernel)
                have q1172 : s1171 177 2 = z1161 := (t_s1171 177 2 (show 1219 ∉ [1222, 1223] from by decide +kernel)).trans e_z1161.symm
                have q1173 : s1171 177 3 = z1169 := (t_s1171 177 3 (show 1220 ∉ [1222, 1223] from by decide +kernel)).trans e_z1169.symm
                obtain ⟨z1174, e_z1174⟩ : ∃ z, z = s1171 177 5 := ⟨_, rfl⟩
                have g_z1174 : (0 : Int) ≤ s1171 177 5 ∧ s1171 177 5 ≤ 5 := hG_s1171 177 5
                show xe none 8 117 [(0, .ref 218), (1, .ref 177), (2, vi x2)] [] s1171 0 0 _
                refine x_A k8_117 (fun _ => rfl) ?_
                refine x_getI k8_118 (f := 5) rfl (q := 177) (n := 7) (kd := 7) ⟨by decide, rfl⟩ (by decide) rfl ?_
                rw [e_z1174.symm]
                refine x_if_eq k8_121 (t := 126) rfl (by first | exact x_rbe e_z1174 g_z1174 rfl rfl | exact x_rb g_z1174 rfl rfl | exact ⟨by omega, by omega⟩) (fun c1175 => ?_) (fun c1175 => ?_)
                · skip
                  refine x_A k8_126 (fun _ => rfl) ?_
                  refine x_callV k8_127 (y := 51) (n := 0) (w0 := 0) (w1 := 0) (as := []) (rest := []) (by decide +kernel) (q := 177) (nq := 7) (kq := 7) ⟨by decide, rfl⟩ rfl rfl rfl rfl (xe_mono (C_X6_advance_177 s1171 hG_s1171) ?_)
                  rintro s1177 v ⟨hG_s1177, t_s1177, rfl⟩
                  have f_s1177 : FL [2501, 2502, 2560, 2688, 2816, 1219, 1220, 1221, 1222, 1223] s0 s1177 := f_s1171.tr t_s1177 (by decide +kernel)
                  have q1178 : s1177 177 5 = z1174 := (t_s1177 177 5 (show 1222 ∉ [1219, 1220, 1221] from by decide +kernel)).trans e_z1174.symm
                  show xe none 8 130 [(0, .ref 218), (1, .ref 177), (2, vi x2)] [] s1177 0 0 _
                  refine x_A k8_130 (fun _ => rfl) ?_
                  exact x_zret k8_131 rfl ⟨by omega, by omega⟩ ⟨hG_s1177, f_s1177, 1, rfl, ⟨by decide, by decide⟩⟩
                · skip
                  refine x_A k8_124 (fun _ => rfl) ?_
                  exact x_zret k8_125 rfl ⟨by omega, by omega⟩ ⟨hG_s1171, f_s1171, 0, rfl, ⟨by decide, by decide⟩⟩
              · skip
                refine x_A k8_99 (fun _ => rfl) ?_
                refine x_bipush k8_100 (by decide +kernel) ?_
                refine x_callV k8_102 (y := 10) (n := 1) (w0 := 0) (w1 := 1) (as := [vi 7]) (rest := []) (by decide +kernel) (q := 218) (nq := 7) (kq := 11) ⟨by decide, rfl⟩ rfl rfl rfl rfl (xe_mono (C_X0_joinBy_218 s hG 7 ⟨by decide, by decide⟩) ?_)
                rintro s1180 v ⟨hG_s1180, t_s1180, rfl⟩
                have f_s1180 : FL [2501, 2502, 2560, 2688, 2816, 1219, 1220, 1221, 1222, 1223] s0 s1180 := f.tr t_s1180 (by decide +kernel)
                have q1181 : s1180 177 5 = z1154 := (t_s1180 177 5 (show 1222 ∉ [2501, 2560, 2688, 2816] from by decide +kernel)).trans e_z1154.symm
                have q1182 : s1180 177 2 = z1161 := (t_s1180 177 2 (show 1219 ∉ [2501, 2560, 2688, 2816] from by decide +kernel)).trans e_z1161.symm
                show xe none 8 105 [(0, .ref 218), (1, .ref 177), (2, vi x2)] [] s1180 0 0 _
                refine x_goto k8_105 (t := 117) rfl ?_
                refine x_A k8_117 (fun _ => rfl) ?_
                refine x_getI k8_118 (f := 5) rfl (q := 177) (n := 7) (kd := 7) ⟨by decide, rfl⟩ (by decide) rfl ?_
                rw [q1181]
                refine x_if_eq k8_121 (t := 126) rfl (by first | exact x_rbe e_z1154 g_z1154 rfl rfl | exact x_rb g_z1154 rfl rfl | exact ⟨by omega, by omega⟩) (fun c1183 => ?_) (fun c1183 => by exfalso; omega)
                refine x_A k8_126 (fun _ => rfl) ?_
                refine x_callV k8_127 (y := 51) (n := 0) (w0 := 0) (w1 := 0) (as := []) (rest := []) (by decide +kernel) (q := 177) (nq := 7) (kq := 7) ⟨by decide, rfl⟩ rfl rfl rfl rfl (xe_mono (C_X6_advance_177 s1180 hG_s1180) ?_)
                rintro s1185 v ⟨hG_s1185, t_s1185, rfl⟩
                have f_s1185 : FL [2501, 2502, 2560, 2688, 2816, 1219, 1220, 1221, 1222, 1223] s0 s1185 := f_s1180.tr t_s1185 (by decide +kernel)
                have q1186 : s1185 177 5 = z1154 := (t_s1185 177 5 (show 1222 ∉ [1219, 1220, 1221] from by decide +kernel)).trans q1181
                show xe none 8 130 [(0, .ref 218), (1, .ref 177), (2, vi x2)] [] s1185 0 0 _
                refine x_A k8_130 (fun _ => rfl) ?_
                exact x_zret k8_131 rfl ⟨by omega, by omega⟩ ⟨hG_s1185, f_s1185, 1, rfl, ⟨by decide, by decide⟩⟩
            · skip
              refine x_A k8_81 (fun _ => rfl) ?_
              refine x_bipush k8_82 (by decide +kernel) ?_
              refine x_callV k8_84 (y := 10) (n := 1) (w0 := 0) (w1 := 1) (as := [vi 8]) (rest := []) (by decide +kernel) (q := 218) (nq := 7) (kq := 11) ⟨by decide, rfl⟩ rfl rfl rfl rfl (xe_mono (C_X0_joinBy_218 s hG 8 ⟨by decide, by decide⟩) ?_)
              rintro s1188 v ⟨hG_s1188, t_s1188, rfl⟩
              have f_s1188 : FL [2501, 2502, 2560, 2688, 2816, 1219, 1220, 1221, 1222, 1223] s0 s1188 := f.tr t_s1188 (by decide +kernel)
              have q1189 : s1188 177 5 = z1154 := (t_s1188 177 5 (show 1222 ∉ [2501, 2560, 2688, 2816] from by decide +kernel)).trans e_z1154.symm
              have q1190 : s1188 177 2 = z1161 := (t_s1188 177 2 (show 1219 ∉ [2501, 2560, 2688, 2816] from by decide +kernel)).trans e_z1161.symm
              show xe none 8 87 [(0, .ref 218), (1, .ref 177), (2, vi x2)] [] s1188 0 0 _
              refine x_goto k8_87 (t := 117) rfl ?_
              refine x_A k8_117 (fun _ => rfl) ?_
              refine x_getI k8_118 (f := 5) rfl (q := 177) (n := 7) (kd := 7) ⟨by decide, rfl⟩ (by decide) rfl ?_
              rw [q1189]
              refine x_if_eq k8_121 (t := 126) rfl (by first | exact x_rbe e_z1154 g_z1154 rfl rfl | exact x_rb g_z1154 rfl rfl | exact ⟨by omega, by omega⟩) (fun c1191 => ?_) (fun c1191 => by exfalso; omega)
              refine x_A k8_126 (fun _ => rfl) ?_
              refine x_callV k8_127 (y := 51) (n := 0) (w0 := 0) (w1 := 0) (as := []) (rest := []) (by decide +kernel) (q := 177) (nq := 7) (kq := 7) ⟨by decide, rfl⟩ rfl rfl rfl rfl (xe_mono (C_X6_advance_177 s1188 hG_s1188) ?_)
              rintro s1193 v ⟨hG_s1193, t_s1193, rfl⟩
              have f_s1193 : FL [2501, 2502, 2560, 2688, 2816, 1219, 1220, 1221, 1222, 1223] s0 s1193 := f_s1188.tr t_s1193 (by decide +kernel)
              have q1194 : s1193 177 5 = z1154 := (t_s1193 177 5 (show 1222 ∉ [1219, 1220, 1221] from by decide +kernel)).trans q1189
              show xe none 8 130 [(0, .ref 218), (1, .ref 177), (2, vi x2)] [] s1193 0 0 _
              refine x_A k8_130 (fun _ => rfl) ?_
              exact x_zret k8_131 rfl ⟨by omega, by omega⟩ ⟨hG_s1193, f_s1193, 1, rfl, ⟨by decide, by decide⟩⟩
          · skip
            refine x_A k8_63 (fun _ => rfl) ?_
            refine x_getI k8_64 (f := 5) rfl (q := 218) (n := 7) (kd := 11) ⟨by decide, rfl⟩ (by decide) rfl ?_
            refine x_top (fun z1195 e_z1195 => ?_)
            have g_z1195 : (-2147483648) ≤ s 218 5 ∧ s 218 5 ≤ 2147483647 := hG 218 5
            refine x_if_ne k8_67 (t := 72) rfl (by first | exact x_rbe e_z1195 g_z1195 rfl rfl | exact x_rb g_z1195 rfl rfl | exact ⟨by omega, by omega⟩) (fun c1196 => ?_) (fun c1196 => ?_)
            · skip
              refine x_A k8_72 (fun _ => rfl) ?_
              refine x_ldcR k8_73 (q := 2007) rfl ?_
              refine x_callV k8_75 (y := 53) (n := 1) (w0 := 0) (w1 := 1) (as := [.ref 2007]) (rest := []) (by decide +kernel) (q := 177) (nq := 7) (kq := 7) ⟨by decide, rfl⟩ rfl rfl rfl rfl (xe_mono (C_X6_isWord_177_2007 s hG) ?_)
              rintro s1198 v ⟨-, t_s1198, z1197, rfl, g_z1197⟩
              rw [t_s1198.nil]
              show xe none 8 78 [(0, .ref 218), (1, .ref 177), (2, vi x2)] [vi z1197] s 0 0 _
              refine x_if_eq k8_78 (t := 90) rfl (by first | exact x_rbe e_z1197 g_z1197 rfl rfl | exact x_rb g_z1197 rfl rfl | exact ⟨by omega, by omega⟩) (fun c1199 => ?_) (fun c1199 => ?_)
              · skip
                refine x_A k8_90 (fun _ => rfl) ?_
                refine x_ldcR k8_91 (q := 2008) rfl ?_
                refine x_callV k8_93 (y := 53) (n := 1) (w0 := 0) (w1 := 1) (as := [.ref 2008]) (rest := []) (by decide +kernel) (q := 177) (nq := 7) (kq := 7) ⟨by decide, rfl⟩ rfl rfl rfl rfl (xe_mono (C_X6_isWord_177_2008 s hG) ?_)
                rintro s1201 v ⟨-, t_s1201, z1200, rfl, g_z1200⟩
                rw [t_s1201.nil]
                show xe none 8 96 [(0, .ref 218), (1, .ref 177), (2, vi x2)] [vi z1200] s 0 0 _
                refine x_if_eq k8_96 (t := 108) rfl (by first | exact x_rbe e_z1200 g_z1200 rfl rfl | exact x_rb g_z1200 rfl rfl | exact ⟨by omega, by omega⟩) (fun c1202 => ?_) (fun c1202 => ?_)
                · skip
                  refine x_A k8_108 (fun _ => rfl) ?_
                  refine x_A k8_109 (fun _ => rfl) ?_
                  refine x_A k8_110 (fun _ => rfl) ?_
                  refine x_getI k8_111 (f := 3) rfl (q := 177) (n := 7) (kd := 7) ⟨by decide, rfl⟩ (by decide) rfl ?_
                  refine x_top (fun z1203 e_z1203 => ?_)
                  have g_z1203 : (0 : Int) ≤ s 177 3 ∧ s 177 3 ≤ 160 := hG 177 3
                  refine x_callV k8_114 (y := 52) (n := 2) (w0 := 0) (w1 := 2) (as := [vi 1, vi z1203]) (rest := []) (by decide +kernel) (q := 177) (nq := 7) (kq := 7) ⟨by decide, rfl⟩ rfl rfl rfl rfl (xe_mono (C_X6_fail_177 s hG 1 ⟨by decide, by decide⟩ z1203 (by first | exact x_rbe e_z1203 g_z1203 rfl rfl | exact x_rb g_z1203 rfl rfl | exact ⟨by omega, by omega⟩)) ?_)
                  rintro s1205 v ⟨hG_s1205, t_s1205, rfl, xp_z1204⟩
                  have f_s1205 : FL [2501, 2502, 2560, 2688, 2816, 1219, 1220, 1221, 1222, 1223] s0 s1205 := f.tr t_s1205 (by decide +kernel)
                  have q1206 : s1205 177 2 = z1161 := (t_s1205 177 2 (show 1219 ∉ [1222, 1223] from by decide +kernel)).trans e_z1161.symm
                  have q1207 : s1205 218 5 = z1195 := (t_s1205 218 5 (show 2502 ∉ [1222, 1223] from by decide +kernel)).trans e_z1195.symm
                  have q1208 : s1205 177 3 = z1203 := (t_s1205 177 3 (show 1220 ∉ [1222, 1223] from by decide +kernel)).trans e_z1203.symm
                  obtain ⟨z1209, e_z1209⟩ : ∃ z, z = s1205 177 5 := ⟨_, rfl⟩
                  have g_z1209 : (0 : Int) ≤ s1205 177 5 ∧ s1205 177 5 ≤ 5 := hG_s1205 177 5
                  show xe none 8 117 [(0, .ref 218), (1, .ref 177), (2, vi x2)] [] s1205 0 0 _
                  refine x_A k8_117 (fun _ => rfl) ?_
                  refine x_getI k8_118 (f := 5) rfl (q := 177) (n := 7) (kd := 7) ⟨by decide, rfl⟩ (by decide) rfl ?_
                  rw [e_z1209.symm]
                  refine x_if_eq k8_121 (t := 126) rfl (by first | exact x_rbe e_z1209 g_z1209 rfl rfl | exact x_rb g_z1209 rfl rfl | exact ⟨by omega, by omega⟩) (fun c1210 => ?_) (fun c1210 => ?_)
                  · skip
                    refine x_A k8_126 (fun _ => rfl) ?_
                    refine x_callV k8_127 (y := 51) (n := 0) (w0 := 0) (w1 := 0) (as := []) (rest := []) (by decide +kernel) (q := 177) (nq := 7) (kq := 7) ⟨by decide, rfl⟩ rfl rfl rfl rfl (xe_mono (C_X6_advance_177 s1205 hG_s1205) ?_)
                    rintro s1212 v ⟨hG_s1212, t_s1212, rfl⟩
                    have f_s1212 : FL [2501, 2502, 2560, 2688, 2816, 1219, 1220, 1221, 1222, 1223] s0 s1212 := f_s1205.tr t_s1212 (by decide +kernel)
                    have q1213 : s1212 218 5 = z1195 := (t_s1212 218 5 (show 2502 ∉ [1219, 1220, 1221] from by decide +kernel)).trans q1207
                    have q1214 : s1212 177 5 = z1209 := (t_s1212 177 5 (show 1222 ∉ [1219, 1220, 1221] from by decide +kernel)).trans e_z1209.symm
                    show xe none 8 130 [(0, .ref 218), (1, .ref 177), (2, vi x2)] [] s1212 0 0 _
                    refine x_A k8_130 (fun _ => rfl) ?_
                    exact x_zret k8_131 rfl ⟨by omega, by omega⟩ ⟨hG_s1212, f_s1212, 1, rfl, ⟨by decide, by decide⟩⟩
                  · skip
                    refine x_A k8_124 (fun _ => rfl) ?_
                    exact x_zret k8_125 rfl ⟨by omega, by omega⟩ ⟨hG_s1205, f_s1205, 0, rfl, ⟨by decide, by decide⟩⟩
                · skip
                  refine x_A k8_99 (fun _ => rfl) ?_
                  refine x_bipush k8_100 (by decide +kernel) ?_
                  refine x_callV k8_102 (y := 10) (n := 1) (w0 := 0) (w1 := 1) (as := [vi 7]) (rest := []) (by decide +kernel) (q := 218) (nq := 7) (kq := 11) ⟨by decide, rfl⟩ rfl rfl rfl rfl (xe_mono (C_X0_joinBy_218 s hG 7 ⟨by decide, by decide⟩) ?_)
                  rintro s1216 v ⟨hG_s1216, t_s1216, rfl⟩
                  have f_s1216 : FL [2501, 2502, 2560, 2688, 2816, 1219, 1220, 1221, 1222, 1223] s0 s1216 := f.tr t_s1216 (by decide +kernel)
                  have q1217 : s1216 177 5 = z1154 := (t_s1216 177 5 (show 1222 ∉ [2501, 2560, 2688, 2816] from by decide +kernel)).trans e_z1154.symm
                  have q1218 : s1216 177 2 = z1161 := (t_s1216 177 2 (show 1219 ∉ [2501, 2560, 2688, 2816] from by decide +kernel)).trans e_z1161.symm
                  have q1219 : s1216 218 5 = z1195 := (t_s1216 218 5 (show 2502 ∉ [2501, 2560, 2688, 2816] from by decide +kernel)).trans e_z1195.symm
                  show xe none 8 105 [(0, .ref 218), (1, .ref 177), (2, vi x2)] [] s1216 0 0 _
                  refine x_goto k8_105 (t := 117) rfl ?_
                  refine x_A k8_117 (fun _ => rfl) ?_
                  refine x_getI k8_118 (f := 5) rfl (q := 177) (n := 7) (kd := 7) ⟨by decide, rfl⟩ (by decide) rfl ?_
                  rw [q1217]
                  refine x_if_eq k8_121 (t := 126) rfl (by first | exact x_rbe e_z1154 g_z1154 rfl rfl | exact x_rb g_z1154 rfl rfl | exact ⟨by omega, by omega⟩) (fun c1220 => ?_) (fun c1220 => by exfalso; omega)
                  refine x_A k8_126 (fun _ => rfl) ?_
                  refine x_callV k8_127 (y := 51) (n := 0) (w0 := 0) (w1 := 0) (as := []) (rest := []) (by decide +kernel) (q := 177) (nq := 7) (kq := 7) ⟨by decide, rfl⟩ rfl rfl rfl rfl (xe_mono (C_X6_advance_177 s1216 hG_s1216) ?_)
                  rintro s1222 v ⟨hG_s1222, t_s1222, rfl⟩
                  have f_s1222 : FL [2501, 2502, 2560, 2688, 2816, 1219, 1220, 1221, 1222, 1223] s0 s1222 := f_s1216.tr t_s1222 (by decide +kernel)
                  have q1223 : s1222 177 5 = z1154 := (t_s1222 177 5 (show 1222 ∉ [1219, 1220, 1221] from by decide +kernel)).trans q1217
                  have q1224 : s1222 218 5 = z1195 := (t_s1222 218 5 (show 2502 ∉ [1219, 1220, 1221] from by decide +kernel)).trans q1219
                  show xe none 8 130 [(0, .ref 218), (1, .ref 177), (2, vi x2)] [] s1222 0 0 _
                  refine x_A k8_130 (fun _ => rfl) ?_
                  exact x_zret k8_131 rfl ⟨by omega, by omega⟩ ⟨hG_s1222, f_s1222, 1, rfl, ⟨by decide, by decide⟩⟩
              · skip
                refine x_A k8_81 (fun _ => rfl) ?_
                refine x_bipush k8_82 (by decide +kernel) ?_
                refine x_callV k8_84 (y := 10) (n := 1) (w0 := 0) (w1 := 1) (as := [vi 8]) (rest := []) (by decide +kernel) (q := 218) (nq := 7) (kq := 11) ⟨by decide, rfl⟩ rfl rfl rfl rfl (xe_mono (C_X0_joinBy_218 s hG 8 ⟨by decide, by decide⟩) ?_)
                rintro s1226 v ⟨hG_s1226, t_s1226, rfl⟩
                have f_s1226 : FL [2501, 2502, 2560, 2688, 2816, 1219, 1220, 1221, 1222, 1223] s0 s1226 := f.tr t_s1226 (by decide +kernel)
                have q1227 : s1226 177 5 = z1154 := (t_s1226 177 5 (show 1222 ∉ [2501, 2560, 2688, 2816] from by decide +kernel)).trans e_z1154.symm
                have q1228 : s1226 177 2 = z1161 := (t_s1226 177 2 (show 1219 ∉ [2501, 2560, 2688, 2816] from by decide +kernel)).trans e_z1161.symm
                have q1229 : s1226 218 5 = z1195 := (t_s1226 218 5 (show 2502 ∉ [2501, 2560, 2688, 2816] from by decide +kernel)).trans e_z1195.symm
                show xe none 8 87 [(0, .ref 218), (1, .ref 177), (2, vi x2)] [] s1226 0 0 _
                refine x_goto k8_87 (t := 117) rfl ?_
                refine x_A k8_117 (fun _ => rfl) ?_
                refine x_getI k8_118 (f := 5) rfl (q := 177) (n := 7) (kd := 7) ⟨by decide, rfl⟩ (by decide) rfl ?_
                rw [q1227]
                refine x_if_eq k8_121 (t := 126) rfl (by first | exact x_rbe e_z1154 g_z1154 rfl rfl | exact x_rb g_z1154 rfl rfl | exact ⟨by omega, by omega⟩) (fun c1230 => ?_) (fun c1230 => by exfalso; omega)
                refine x_A k8_126 (fun _ => rfl) ?_
                refine x_callV k8_127 (y := 51) (n := 0) (w0 := 0) (w1 := 0) (as := []) (rest := []) (by decide +kernel) (q := 177) (nq := 7) (kq := 7) ⟨by decide, rfl⟩ rfl rfl rfl rfl (xe_mono (C_X6_advance_177 s1226 hG_s1226) ?_)
                rintro s1232 v ⟨hG_s1232, t_s1232, rfl⟩
                have f_s1232 : FL [2501, 2502, 2560, 2688, 2816, 1219, 1220, 1221, 1222, 1223] s0 s1232 := f_s1226.tr t_s1232 (by decide +kernel)
                have q1233 : s1232 177 5 = z1154 := (t_s1232 177 5 (show 1222 ∉ [1219, 1220, 1221] from by decide +kernel)).trans q1227
                have q1234 : s1232 218 5 = z1195 := (t_s1232 218 5 (show 2502 ∉ [1219, 1220, 1221] from by decide +kernel)).trans q1229
                show xe none 8 130 [(0, .ref 218), (1, .ref 177), (2, vi x2)] [] s1232 0 0 _
                refine x_A k8_130 (fun _ => rfl) ?_
                exact x_zret k8_131 rfl ⟨by omega, by omega⟩ ⟨hG_s1232, f_s1232, 1, rfl, ⟨by decide, by decide⟩⟩
            · skip
              refine x_A k8_70 (fun _ => rfl) ?_
              exact x_zret k8_71 rfl ⟨by omega, by omega⟩ ⟨hG, f, 0, rfl, ⟨by decide, by decide⟩⟩
        · skip
          refine x_A k8_23 (fun _ => rfl) ?_
          refine x_getI k8_24 (f := 5) rfl (q := 218) (n := 7) (kd := 11) ⟨by decide, rfl⟩ (by decide) rfl ?_
          refine x_top (fun z1235 e_z1235 => ?_)
          have g_z1235 : (-2147483648) ≤ s 218 5 ∧ s 218 5 ≤ 2147483647 := hG 218 5
          refine x_if_ne k8_27 (t := 33) rfl (by first | exact x_rbe e_z1235 g_z1235 rfl rfl | exact x_rb g_z1235 rfl rfl | exact ⟨by omega, by omega⟩) (fun c1236 => ?_) (fun c1236 => ?_)
          · skip
            refine x_A k8_33 (fun _ => rfl) ?_
            refine x_callV k8_34 (y := 9) (n := 0) (w0 := 0) (w1 := 0) (as := []) (rest := []) (by decide +kernel) (q := 218) (nq := 7) (kq := 11) ⟨by decide, rfl⟩ rfl rfl rfl rfl (xe_mono (C_X0_closeBracket_218 s hG) ?_)
            rintro s1238 v ⟨hG_s1238, t_s1238, rfl⟩
            have f_s1238 : FL [2501, 2502, 2560, 2688, 2816, 1219, 1220, 1221, 1222, 1223] s0 s1238 := f.tr t_s1238 (by decide +kernel)
            have q1239 : s1238 177 5 = z1154 := (t_s1238 177 5 (show 1222 ∉ [2501, 2502, 2560, 2688] from by decide +kernel)).trans e_z1154.symm
            show xe none 8 37 [(0, .ref 218), (1, .ref 177), (2, vi x2)] [] s1238 0 0 _
            refine x_A k8_37 (fun _ => rfl) ?_
            refine x_callV k8_38 (y := 51) (n := 0) (w0 := 0) (w1 := 0) (as := []) (rest := []) (by decide +kernel) (q := 177) (nq := 7) (kq := 7) ⟨by decide, rfl⟩ rfl rfl rfl rfl (xe_mono (C_X6_advance_177 s1238 hG_s1238) ?_)
            rintro s1241 v ⟨hG_s1241, t_s1241, rfl⟩
            have f_s1241 : FL [2501, 2502, 2560, 2688, 2816, 1219, 1220, 1221, 1222, 1223] s0 s1241 := f_s1238.tr t_s1241 (by decide +kernel)
            have q1242 : s1241 177 5 = z1154 := (t_s1241 177 5 (show 1222 ∉ [1219, 1220, 1221] from by decide +kernel)).trans q1239
            show xe none 8 41 [(0, .ref 218), (1, .ref 177), (2, vi x2)] [] s1241 0 0 _
            refine x_iinc k8_41 (ls' := [(2, vi (x2 + 1)), (0, .ref 218), (1, .ref 177)]) rfl (by decide) rfl ?_
            refine x_goto k8_44 (t := 2) rfl ?_
            refine x_ls (l := [(0, .ref 218), (1, .ref 177), (2, vi (x2 + 1))]) (show ([0, 1, 2] : List Nat).Nodup from by decide +kernel) ⟨rfl, rfl, rfl, trivial⟩ ?_
            exact ih s1241 (x2 + 1) hG_s1241 f_s1241 ⟨by omega, by omega⟩  (by omega)
          · skip
            refine x_goto k8_30 (t := 47) rfl ?_
            refine x_A k8_47 (fun _ => rfl) ?_
            refine x_getI k8_48 (f := 5) rfl (q := 177) (n := 7) (kd := 7) ⟨by decide, rfl⟩ (by decide) rfl ?_
            rw [e_z1154.symm]
            refine x_if_eq k8_51 (t := 56) rfl (by first | exact x_rbe e_z1154 g_z1154 rfl rfl | exact x_rb g_z1154 rfl rfl | exact ⟨by omega, by omega⟩) (fun c1243 => ?_) (fun c1243 => by exfalso; omega)
            refine x_A k8_56 (fun _ => rfl) ?_
            refine x_getI k8_57 (f := 2) rfl (q := 177) (n := 7) (kd := 7) ⟨by decide, rfl⟩ (by decide) rfl ?_
            refine x_top (fun z1244 e_z1244 => ?_)
            have g_z1244 : (0 : Int) ≤ s 177 2 ∧ s 177 2 ≤ 3 := hG 177 2
            refine x_if_ne k8_60 (t := 72) rfl (by first | exact x_rbe e_z1244 g_z1244 rfl rfl | exact x_rb g_z1244 rfl rfl | exact ⟨by omega, by omega⟩) (fun c1245 => ?_) (fun c1245 => ?_)
            · skip
              refine x_A k8_72 (fun _ => rfl) ?_
              refine x_ldcR k8_73 (q := 2007) rfl ?_
              refine x_callV k8_75 (y := 53) (n := 1) (w0 := 0) (w1 := 1) (as := [.ref 2007]) (rest := []) (by decide +kernel) (q := 177) (nq := 7) (kq := 7) ⟨by decide, rfl⟩ rfl rfl rfl rfl (xe_mono (C_X6_isWord_177_2007 s hG) ?_)
              rintro s1247 v ⟨-, t_s1247, z1246, rfl, g_z1246⟩
              rw [t_s1247.nil]
              show xe none 8 78 [(0, .ref 218), (1, .ref 177), (2, vi x2)] [vi z1246] s 0 0 _
              refine x_if_eq k8_78 (t := 90) rfl (by first | exact x_rbe e_z1246 g_z1246 rfl rfl | exact x_rb g_z1246 rfl rfl | exact ⟨by omega, by omega⟩) (fun c1248 => ?_) (fun c1248 => ?_)
              · skip
                refine x_A k8_90 (fun _ => rfl) ?_
                refine x_ldcR k8_91 (q := 2008) rfl ?_
                refine x_callV k8_93 (y := 53) (n := 1) (w0 := 0) (w1 := 1) (as := [.ref 2008]) (rest := []) (by decide +kernel) (q := 177) (nq := 7) (kq := 7) ⟨by decide, rfl⟩ rfl rfl rfl rfl (xe_mono (C_X6_isWord_177_2008 s hG) ?_)
                rintro s1250 v ⟨-, t_s1250, z1249, rfl, g_z1249⟩
                rw [t_s1250.nil]
                show xe none 8 96 [(0, .ref 218), (1, .ref 177), (2, vi x2)] [vi z1249] s 0 0 _
                refine x_if_eq k8_96 (t := 108) rfl (by first | exact x_rbe e_z1249 g_z1249 rfl rfl | exact x_rb g_z1249 rfl rfl | exact ⟨by omega, by omega⟩) (fun c1251 => ?_) (fun c1251 => ?_)
                · skip
                  refine x_A k8_108 (fun _ => rfl) ?_
                  refine x_A k8_109 (fun _ => rfl) ?_
                  refine x_A k8_110 (fun _ => rfl) ?_
                  refine x_getI k8_111 (f := 3) rfl (q := 177) (n := 7) (kd := 7) ⟨by decide, rfl⟩ (by decide) rfl ?_
                  refine x_top (fun z1252 e_z1252 => ?_)
                  have g_z1252 : (0 : Int) ≤ s 177 3 ∧ s 177 3 ≤ 160 := hG 177 3
                  refine x_callV k8_114 (y := 52) (n := 2) (w0 := 0) (w1 := 2) (as := [vi 1, vi z1252]) (rest := []) (by decide +kernel) (q := 177) (nq := 7) (kq := 7) ⟨by decide, rfl⟩ rfl rfl rfl rfl (xe_mono (C_X6_fail_177 s hG 1 ⟨by decide, by decide⟩ z1252 (by first | exact x_rbe e_z1252 g_z1252 rfl rfl | exact x_rb g_z1252 rfl rfl | exact ⟨by omega, by omega⟩)) ?_)
                  rintro s1254 v ⟨hG_s1254, t_s1254, rfl, xp_z1253⟩
                  have f_s1254 : FL [2501, 2502, 2560, 2688, 2816, 1219, 1220, 1221, 1222, 1223] s0 s1254 := f.tr t_s1254 (by decide +kernel)
                  have q1255 : s1254 218 5 = z1235 := (t_s1254 218 5 (show 2502 ∉ [1222, 1223] from by decide +kernel)).trans e_z1235.symm
                  have q1256 : s1254 177 2 = z1244 := (t_s1254 177 2 (show 1219 ∉ [1222, 1223] from by decide +kernel)).trans e_z1244.symm
                  have q1257 : s1254 177 3 = z1252 := (t_s1254 177 3 (show 1220 ∉ [1222, 1223] from by decide +kernel)).trans e_z1252.symm
                  obtain ⟨z1258, e_z1258⟩ : ∃ z, z = s1254 177 5 := ⟨_, rfl⟩
                  have g_z1258 : (0 : Int) ≤ s1254 177 5 ∧ s1254 177 5 ≤ 5 := hG_s1254 177 5
                  show xe none 8 117 [(0, .ref 218), (1, .ref 177), (2, vi x2)] [] s1254 0 0 _
                  refine x_A k8_117 (fun _ => rfl) ?_
                  refine x_getI k8_118 (f := 5) rfl (q := 177) (n := 7) (kd := 7) ⟨by decide, rfl⟩ (by decide) rfl ?_
                  rw [e_z1258.symm]
                  refine x_if_eq k8_121 (t := 126) rfl (by first | exact x_rbe e_z1258 g_z1258 rfl rfl | exact x_rb g_z1258 rfl rfl | exact ⟨by omega, by omega⟩) (fun c1259 => ?_) (fun c1259 => ?_)
                  · skip
                    refine x_A k8_126 (fun _ => rfl) ?_
                    refine x_callV k8_127 (y := 51) (n := 0) (w0 := 0) (w1 := 0) (as := []) (rest := []) (by decide +kernel) (q := 177) (nq := 7) (kq := 7) ⟨by decide, rfl⟩ rfl rfl rfl rfl (xe_mono (C_X6_advance_177 s1254 hG_s1254) ?_)
                    rintro s1261 v ⟨hG_s1261, t_s1261, rfl⟩
                    have f_s1261 : FL [2501, 2502, 2560, 2688, 2816, 1219, 1220, 1221, 1222, 1223] s0 s1261 := f_s1254.tr t_s1261 (by decide +kernel)
                    have q1262 : s1261 218 5 = z1235 := (t_s1261 218 5 (show 2502 ∉ [1219, 1220, 1221] from by decide +kernel)).trans q1255
                    have q1263 : s1261 177 5 = z1258 := (t_s1261 177 5 (show 1222 ∉ [1219, 1220, 1221] from by decide +kernel)).trans e_z1258.symm
                    show xe none 8 130 [(0, .ref 218), (1, .ref 177), (2, vi x2)] [] s1261 0 0 _
                    refine x_A k8_130 (fun _ => rfl) ?_
                    exact x_zret k8_131 rfl ⟨by omega, by omega⟩ ⟨hG_s1261, f_s1261, 1, rfl, ⟨by decide, by decide⟩⟩
                  · skip
                    refine x_A k8_124 (fun _ => rfl) ?_
                    exact x_zret k8_125 rfl ⟨by omega, by omega⟩ ⟨hG_s1254, f_s1254, 0, rfl, ⟨by decide, by decide⟩⟩
                · skip
                  refine x_A k8_99 (fun _ => rfl) ?_
                  refine x_bipush k8_100 (by decide +kernel) ?_
                  refine x_callV k8_102 (y := 10) (n := 1) (w0 := 0) (w1 := 1) (as := [vi 7]) (rest := []) (by decide +kernel) (q := 218) (nq := 7) (kq := 11) ⟨by decide, rfl⟩ rfl rfl rfl rfl (xe_mono (C_X0_joinBy_218 s hG 7 ⟨by decide, by decide⟩) ?_)
                  rintro s1265 v ⟨hG_s1265, t_s1265, rfl⟩
                  have f_s1265 : FL [2501, 2502, 2560, 2688, 2816, 1219, 1220, 1221, 1222, 1223] s0 s1265 := f.tr t_s1265 (by decide +kernel)
                  have q1266 : s1265 177 5 = z1154 := (t_s1265 177 5 (show 1222 ∉ [2501, 2560, 2688, 2816] from by decide +kernel)).trans e_z1154.symm
                  have q1267 : s1265 218 5 = z1235 := (t_s1265 218 5 (show 2502 ∉ [2501, 2560, 2688, 2816] from by decide +kernel)).trans e_z1235.symm
                  have q1268 : s1265 177 2 = z1244 := (t_s1265 177 2 (show 1219 ∉ [2501, 2560, 2688, 2816] from by decide +kernel)).trans e_z1244.symm
                  show xe none 8 105 [(0, .ref 218), (1, .ref 177), (2, vi x2)] [] s1265 0 0 _
                  refine x_goto k8_105 (t := 117) rfl ?_
                  refine x_A k8_117 (fun _ => rfl) ?_
                  refine x_getI k8_118 (f := 5) rfl (q := 177) (n := 7) (kd := 7) ⟨by decide, rfl⟩ (by decide) rfl ?_
                  rw [q1266]
                  refine x_if_eq k8_121 (t := 126) rfl (by first | exact x_rbe e_z1154 g_z1154 rfl rfl | exact x_rb g_z1154 rfl rfl | exact ⟨by omega, by omega⟩) (fun c1269 => ?_) (fun c1269 => by exfalso; omega)
                  refine x_A k8_126 (fun _ => rfl) ?_
                  refine x_callV k8_127 (y := 51) (n := 0) (w0 := 0) (w1 := 0) (as := []) (rest := []) (by decide +kernel) (q := 177) (nq := 7) (kq := 7) ⟨by decide, rfl⟩ rfl rfl rfl rfl (xe_mono (C_X6_advance_177 s1265 hG_s1265) ?_)
                  rintro s1271 v ⟨hG_s1271, t_s1271, rfl⟩
                  have f_s1271 : FL [2501, 2502, 2560, 2688, 2816, 1219, 1220, 1221, 1222, 1223] s0 s1271 := f_s1265.tr t_s1271 (by decide +kernel)
                  have q1272 : s1271 177 5 = z1154 := (t_s1271 177 5 (show 1222 ∉ [1219, 1220, 1221] from by decide +kernel)).trans q1266
                  have q1273 : s1271 218 5 = z1235 := (t_s1271 218 5 (show 2502 ∉ [1219, 1220, 1221] from by decide +kernel)).trans q1267
                  show xe none 8 130 [(0, .ref 218), (1, .ref 177), (2, vi x2)] [] s1271 0 0 _
                  refine x_A k8_130 (fun _ => rfl) ?_
                  exact x_zret k8_131 rfl ⟨by omega, by omega⟩ ⟨hG_s1271, f_s1271, 1, rfl, ⟨by decide, by decide⟩⟩
              · skip
                refine x_A k8_81 (fun _ => rfl) ?_
                refine x_bipush k8_82 (by decide +kernel) ?_
                refine x_callV k8_84 (y := 10) (n := 1) (w0 := 0) (w1 := 1) (as := [vi 8]) (rest := []) (by decide +kernel) (q := 218) (nq := 7) (kq := 11) ⟨by decide, rfl⟩ rfl rfl rfl rfl (xe_mono (C_X0_joinBy_218 s hG 8 ⟨by decide, by decide⟩) ?_)
                rintro s1275 v ⟨hG_s1275, t_s1275, rfl⟩
                have f_s1275 : FL [2501, 2502, 2560, 2688, 2816, 1219, 1220, 1221, 1222, 1223] s0 s1275 := f.tr t_s1275 (by decide +kernel)
                have q1276 : s1275 177 5 = z1154 := (t_s1275 177 5 (show 1222 ∉ [2501, 2560, 2688, 2816] from by decide +kernel)).trans e_z1154.symm
                have q1277 : s1275 218 5 = z1235 := (t_s1275 218 5 (show 2502 ∉ [2501, 2560, 2688, 2816] from by decide +kernel)).trans e_z1235.symm
                have q1278 : s1275 177 2 = z1244 := (t_s1275 177 2 (show 1219 ∉ [2501, 2560, 2688, 2816] from by decide +kernel)).trans e_z1244.symm
                show xe none 8 87 [(0, .ref 218), (1, .ref 177), (2, vi x2)] [] s1275 0 0 _
                refine x_goto k8_87 (t := 117) rfl ?_
                refine x_A k8_117 (fun _ => rfl) ?_
                refine x_getI k8_118 (f := 5) rfl (q := 177) (n := 7) (kd := 7) ⟨by decide, rfl⟩ (by decide) rfl ?_
                rw [q1276]
                refine x_if_eq k8_121 (t := 126) rfl (by first | exact x_rbe e_z1154 g_z1154 rfl rfl | exact x_rb g_z1154 rfl rfl | exact ⟨by omega, by omega⟩) (fun c1279 => ?_) (fun c1279 => by exfalso; omega)
                refine x_A k8_126 (fun _ => rfl) ?_
                refine x_callV k8_127 (y := 51) (n := 0) (w0 := 0) (w1 := 0) (as := []) (rest := []) (by decide +kernel) (q := 177) (nq := 7) (kq := 7) ⟨by decide, rfl⟩ rfl rfl rfl rfl (xe_mono (C_X6_advance_177 s1275 hG_s1275) ?_)
                rintro s1281 v ⟨hG_s1281, t_s1281, rfl⟩
                have f_s1281 : FL [2501, 2502, 2560, 2688, 2816, 1219, 1220, 1221, 1222, 1223] s0 s1281 := f_s1275.tr t_s1281 (by decide +kernel)
                have q1282 : s1281 177 5 = z1154 := (t_s1281 177 5 (show 1222 ∉ [1219, 1220, 1221] from by decide +kernel)).trans q1276
                have q1283 : s1281 218 5 = z1235 := (t_s1281 218 5 (show 2502 ∉ [1219, 1220, 1221] from by decide +kernel)).trans q1277
                show xe none 8 130 [(0, .ref 218), (1, .ref 177), (2, vi x2)] [] s1281 0 0 _
                refine x_A k8_130 (fun _ => rfl) ?_
                exact x_zret k8_131 rfl ⟨by omega, by omega⟩ ⟨hG_s1281, f_s1281, 1, rfl, ⟨by decide, by decide⟩⟩
            · skip
              refine x_A k8_63 (fun _ => rfl) ?_
              refine x_getI k8_64 (f := 5) rfl (q := 218) (n := 7) (kd := 11) ⟨by decide, rfl⟩ (by decide) rfl ?_
              rw [e_z1235.symm]
              refine x_if_ne k8_67 (t := 72) rfl (by first | exact x_rbe e_z1235 g_z1235 rfl rfl | exact x_rb g_z1235 rfl rfl | exact ⟨by omega, by omega⟩) (fun c1284 => by exfalso; omega) (fun c1284 => ?_)
              refine x_A k8_70 (fun _ => rfl) ?_
              exact x_zret k8_71 rfl ⟨by omega, by omega⟩ ⟨hG, f, 0, rfl, ⟨by decide, by decide⟩⟩
theorem C_X0_readUpToJoin_218_177 (s0 : xS) (hG0 : GI s0)  : xe none 8 0 (lv_args 0 [.ref 218, .ref 177]) [] s0 0 0 (fun s' v => GI s' ∧ FL [2501, 2502, 2560, 2688, 2816, 1219, 1220, 1221, 1222, 1223] s0 s' ∧ ∃ z, v = some (vi z) ∧ (0 ≤ z ∧ z ≤ 1)) := by
  have f0 : FL [2501, 2502, 2560, 2688, 2816, 1219, 1220, 1221, 1222, 1223] s0 s0 := FL.rf
  show xe none 8 0 [(0, .ref 218), (1, .ref 177)] [] s0 0 0 _
  refine x_A k8_0 (fun _ => rfl) ?_
  refine x_istore_n k8_1 (ls' := [(2, vi 0), (0, .ref 218), (1, .ref 177)]) (by decide) rfl ?_
  refine x_ls (l := [(0, .ref 218), (1, .ref 177), (2, vi 0)]) (show ([0, 1, 2] : List Nat).Nodup from by decide +kernel) ⟨rfl, rfl, rfl, trivial⟩ ?_
  exact L_C_X0_readUpToJoin_218_177_2 s0   (((6 - 0) + 1 : Int)).toNat s0 0 hG0 f0 ⟨by decide, by decide⟩  (by omega)
theorem L_C_X0_read_218_177_38 (s0 : xS)   : ∀ (n : Nat) (s : xS) (x2 : Int) (x3 : Int) (x1000 : Int) (hG : GI s) (f : FL [2501, 2502, 2560, 2688, 2816, 1219, 1220, 1221, 1222, 1223, 2503] s0 s) (b_x2 : 0 ≤ x2 ∧ x2 ≤ 1) (b_x3 : 0 ≤ x3 ∧ x3 ≤ 100) (b_x1000 : 0 ≤ x1000 ∧ x1000 ≤ 7) (r_2_3 : x2 ≤ x3 + 1) (e_x1000 : x1000 = s 218 6)  (hm : (100 - x3) < (n : Int)), xe none 2 38 [(0, .ref 218), (1, .ref 177), (2, vi x2), (3, vi x3)] [] s 0 0 (fun s' v => GI s' ∧ FL [2501, 2502, 2560, 2688, 2816, 1219, 1220, 1221, 1222, 1223, 2503] s0 s' ∧ v = none) := by
  intro n
  induction n with
  | zero => intro s x2 x3 x1000 hG f b_x2 b_x3 b_x1000 r_2_3 e_x1000  hm; exfalso; omega
  | succ n ih =>
    intro s x2 x3 x1000 hG f b_x2 b_x3 b_x1000 r_2_3 e_x1000  hm
    refine x_A k2_38 (fun _ => rfl) ?_
    refine x_if_eq k2_39 (t := 70) rfl (by first | exact x_rb b_x2 rfl rfl | exact ⟨by omega, by omega⟩) (fun c661 => ?_) (fun c661 => ?_)
    · skip
      refine x_A k2_70 (fun _ => rfl) ?_
      refine x_getI k2_71 (f := 5) rfl (q := 177) (n := 7) (kd := 7) ⟨by decide, rfl⟩ (by decide) rfl ?_
      refine x_top (fun z662 e_z662 => ?_)
      have g_z662 : (0 : Int) ≤ s 177 5 ∧ s 177 5 ≤ 5 := hG 177 5
      refine x_if_eq k2_74 (t := 78) rfl (by first | exact x_rbe e_z662 g_z662 rfl rfl | exact x_rb g_z662 rfl rfl | exact ⟨by omega, by omega⟩) (fun c663 => ?_) (fun c663 => ?_)
      · skip
        refine x_A k2_78 (fun _ => rfl) ?_
        refine x_bipush k2_79 (by decide +kernel) ?_
        refine x_callV k2_81 (y := 12) (n := 1) (w0 := 0) (w1 := 1) (as := [vi 7]) (rest := []) (by decide +kernel) (q := 218) (nq := 7) (kq := 11) ⟨by decide, rfl⟩ rfl rfl rfl rfl (xe_mono (C_X0_releaseDownTo_218 s hG 7 ⟨by decide, by decide⟩) ?_)
        rintro s665 v ⟨hG_s665, t_s665, rfl⟩
        have f_s665 : FL [2501, 2502, 2560, 2688, 2816, 1219, 1220, 1221, 1222, 1223, 2503] s0 s665 := f.tr t_s665 (by decide +kernel)
        have q666 : s665 218 6 = x1000 := (t_s665 218 6 (show 2503 ∉ [2501, 2560, 2688] from by decide +kernel)).trans e_x1000.symm
        have q667 : s665 177 5 = z662 := (t_s665 177 5 (show 1222 ∉ [2501, 2560, 2688] from by decide +kernel)).trans e_z662.symm
        show xe none 2 84 [(0, .ref 218), (1, .ref 177), (2, vi x2), (3, vi x3)] [] s665 0 0 _
        refine x_A k2_84 (fun _ => rfl) ?_
        refine x_A k2_85 (fun _ => rfl) ?_
        refine x_getI k2_86 (f := 6) rfl (q := 218) (n := 7) (kd := 11) ⟨by decide, rfl⟩ (by decide) rfl ?_
        rw [q666]
        refine x_A k2_89 (fun _ => rfl) ?_
        refine x_iadd k2_90 ?_
        refine x_top (fun z668 e_z668 => ?_)
        refine x_putI k2_91 (f := 6) rfl (q := 218) (n := 7) (kd := 11) ⟨by decide, rfl⟩ rfl rfl rfl ?_
        refine x_nh (fun s669 e_s669 => ?_)
        have hG_s669 : GI s669 := by rw [e_s669]; exact hG_s665.up (show 0 ≤ z668 ∧ z668 ≤ 8 from (by first | exact x_rbe e_z668 g_z668 rfl rfl | exact x_rb g_z668 rfl rfl | exact ⟨by omega, by omega⟩))
        have f_s669 : FL [2501, 2502, 2560, 2688, 2816, 1219, 1220, 1221, 1222, 1223, 2503] s0 s669 := by rw [e_s669]; exact f_s665.up (show 2503 ∈ [2501, 2502, 2560, 2688, 2816, 1219, 1220, 1221, 1222, 1223, 2503] from by decide +kernel)
        have q670 : s669 177 5 = z662 := by rw [e_s669, x_up_q (by decide)]; exact q667
        have q671 : s669 218 6 = z668 := by rw [e_s669]; exact x_up_same
        exact x_vret k2_94 rfl ⟨hG_s669, f_s669, rfl⟩
      · skip
        exact x_vret k2_77 rfl ⟨hG, f, rfl⟩
    · skip
      refine x_A k2_42 (fun _ => rfl) ?_
      refine x_bipush k2_43 (by decide +kernel) ?_
      refine x_ic_ge k2_45 (t := 70) rfl (by first | exact x_rb b_x3 rfl rfl | exact ⟨by omega, by omega⟩) ⟨by decide, by decide⟩ (fun c672 => ?_) (fun c672 => ?_)
      · skip
        refine x_A k2_70 (fun _ => rfl) ?_
        refine x_getI k2_71 (f := 5) rfl (q := 177) (n := 7) (kd := 7) ⟨by decide, rfl⟩ (by decide) rfl ?_
        refine x_top (fun z673 e_z673 => ?_)
        have g_z673 : (0 : Int) ≤ s 177 5 ∧ s 177 5 ≤ 5 := hG 177 5
        refine x_if_eq k2_74 (t := 78) rfl (by first | exact x_rbe e_z673 g_z673 rfl rfl | exact x_rb g_z673 rfl rfl | exact ⟨by omega, by omega⟩) (fun c674 => ?_) (fun c674 => ?_)
        · skip
          refine x_A k2_78 (fun _ => rfl) ?_
          refine x_bipush k2_79 (by decide +kernel) ?_
          refine x_callV k2_81 (y := 12) (n := 1) (w0 := 0) (w1 := 1) (as := [vi 7]) (rest := []) (by decide +kernel) (q := 218) (nq := 7) (kq := 11) ⟨by decide, rfl⟩ rfl rfl rfl rfl (xe_mono (C_X0_releaseDownTo_218 s hG 7 ⟨by decide, by decide⟩) ?_)
          rintro s676 v ⟨hG_s676, t_s676, rfl⟩
          have f_s676 : FL [2501, 2502, 2560, 2688, 2816, 1219, 1220, 1221, 1222, 1223, 2503] s0 s676 := f.tr t_s676 (by decide +kernel)
          have q677 : s676 218 6 = x1000 := (t_s676 218 6 (show 2503 ∉ [2501, 2560, 2688] from by decide +kernel)).trans e_x1000.symm
          have q678 : s676 177 5 = z673 := (t_s676 177 5 (show 1222 ∉ [2501, 2560, 2688] from by decide +kernel)).trans e_z673.symm
          show xe none 2 84 [(0, .ref 218), (1, .ref 177), (2, vi x2), (3, vi x3)] [] s676 0 0 _
          refine x_A k2_84 (fun _ => rfl) ?_
          refine x_A k2_85 (fun _ => rfl) ?_
          refine x_getI k2_86 (f := 6) rfl (q := 218) (n := 7) (kd := 11) ⟨by decide, rfl⟩ (by decide) rfl ?_
          rw [q677]
          refine x_A k2_89 (fun _ => rfl) ?_
          refine x_iadd k2_90 ?_
          refine x_top (fun z679 e_z679 => ?_)
          refine x_putI k2_91 (f := 6) rfl (q := 218) (n := 7) (kd := 11) ⟨by decide, rfl⟩ rfl rfl rfl ?_
          refine x_nh (fun s680 e_s680 => ?_)
          have hG_s680 : GI s680 := by rw [e_s680]; exact hG_s676.up (show 0 ≤ z679 ∧ z679 ≤ 8 from (by first | exact x_rbe e_z679 g_z679 rfl rfl | exact x_rb g_z679 rfl rfl | exact ⟨by omega, by omega⟩))
          have f_s680 : FL [2501, 2502, 2560, 2688, 2816, 1219, 1220, 1221, 1222, 1223, 2503] s0 s680 := by rw [e_s680]; exact f_s676.up (show 2503 ∈ [2501, 2502, 2560, 2688, 2816, 1219, 1220, 1221, 1222, 1223, 2503] from by decide +kernel)
          have q681 : s680 177 5 = z673 := by rw [e_s680, x_up_q (by decide)]; exact q678
          have q682 : s680 218 6 = z679 := by rw [e_s680]; exact x_up_same
          exact x_vret k2_94 rfl ⟨hG_s680, f_s680, rfl⟩
        · skip
          exact x_vret k2_77 rfl ⟨hG, f, rfl⟩
      · skip
        refine x_A k2_48 (fun _ => rfl) ?_
        refine x_A k2_49 (fun _ => rfl) ?_
        refine x_callV k2_50 (y := 3) (n := 1) (w0 := 0) (w1 := 1) (as := [.ref 177]) (rest := []) (by decide +kernel) (q := 218) (nq := 7) (kq := 11) ⟨by decide, rfl⟩ rfl rfl rfl rfl (xe_mono (C_X0_readUpToOne_218_177 s hG) ?_)
        rintro s684 v ⟨hG_s684, t_s684, rfl⟩
        have f_s684 : FL [2501, 2502, 2560, 2688, 2816, 1219, 1220, 1221, 1222, 1223, 2503] s0 s684 := f.tr t_s684 (by decide +kernel)
        have q685 : s684 218 6 = x1000 := (t_s684 218 6 (show 2503 ∉ [2501, 2502, 2560, 2688, 2816, 1219, 1220, 1221, 1222, 1223] from by decide +kernel)).trans e_x1000.symm
        show xe none 2 53 [(0, .ref 218), (1, .ref 177), (2, vi x2), (3, vi x3)] [] s684 0 0 _
        refine x_A k2_53 (fun _ => rfl) ?_
        refine x_A k2_54 (fun _ => rfl) ?_
        refine x_callV k2_55 (y := 5) (n := 1) (w0 := 0) (w1 := 1) (as := [.ref 177]) (rest := []) (by decide +kernel) (q := 218) (nq := 7) (kq := 11) ⟨by decide, rfl⟩ rfl rfl rfl rfl (xe_mono (C_X0_readOne_218_177 s684 hG_s684) ?_)
        rintro s687 v ⟨hG_s687, t_s687, rfl⟩
        have f_s687 : FL [2501, 2502, 2560, 2688, 2816, 1219, 1220, 1221, 1222, 1223, 2503] s0 s687 := f_s684.tr t_s687 (by decide +kernel)
        have q688 : s687 218 6 = x1000 := (t_s687 218 6 (show 2503 ∉ [2560, 2688, 1219, 1220, 1221, 1222, 1223] from by decide +kernel)).trans q685
        show xe none 2 58 [(0, .ref 218), (1, .ref 177), (2, vi x2), (3, vi x3)] [] s687 0 0 _
        refine x_A k2_58 (fun _ => rfl) ?_
        refine x_A k2_59 (fun _ => rfl) ?_
        refine x_callV k2_60 (y := 8) (n := 1) (w0 := 0) (w1 := 1) (as := [.ref 177]) (rest := []) (by decide +kernel) (q := 218) (nq := 7) (kq := 11) ⟨by decide, rfl⟩ rfl rfl rfl rfl (xe_mono (C_X0_readUpToJoin_218_177 s687 hG_s687) ?_)
        rintro s690 v ⟨hG_s690, t_s690, z689, rfl, g_z689⟩
        have f_s690 : FL [2501, 2502, 2560, 2688, 2816, 1219, 1220, 1221, 1222, 1223, 2503] s0 s690 := f_s687.tr t_s690 (by decide +kernel)
        have q691 : s690 218 6 = x1000 := (t_s690 218 6 (show 2503 ∉ [2501, 2502, 2560, 2688, 2816, 1219, 1220, 1221, 1222, 1223] from by decide +kernel)).trans q688
        show xe none 2 63 [(0, .ref 218), (1, .ref 177), (2, vi x2), (3, vi x3)] [vi z689] s690 0 0 _
        refine x_istore_n k2_63 (ls' := [(2, vi z689), (0, .ref 218), (1, .ref 177), (3, vi x3)]) (by decide) rfl ?_
        refine x_iinc k2_64 (ls' := [(3, vi (x3 + 1)), (2, vi z689), (0, .ref 218), (1, .ref 177)]) rfl (by decide) rfl ?_
        refine x_goto k2_67 (t := 38) rfl ?_
        refine x_ls (l := [(0, .ref 218), (1, .ref 177), (2, vi z689), (3, vi (x3 + 1))]) (show ([0, 1, 2, 3] : List Nat).Nodup from by decide +kernel) ⟨rfl, rfl, rfl, rfl, trivial⟩ ?_
        exact ih s690 z689 (x3 + 1) x1000 hG_s690 f_s690 (by first | exact x_rbe e_z689 g_z689 rfl rfl | exact x_rb g_z689 rfl rfl | exact ⟨by omega, by omega⟩) ⟨by omega, by omega⟩ (by first | exact x_rb b_x1000 rfl rfl | exact ⟨by omega, by omega⟩) (by omega) (q691).symm  (by omega)
theorem C_X0_read_218_177 (s0 : xS) (hG0 : GI s0)  : xe none 2 0 (lv_args 0 [.ref 218, .ref 177]) [] s0 0 0 (fun s' v => GI s' ∧ FL [2501, 2502, 2560, 2688, 2816, 1219, 1220, 1221, 1222, 1223, 2503] s0 s' ∧ v = none) := by
  have f0 : FL [2501, 2502, 2560, 2688, 2816, 1219, 1220, 1221, 1222, 1223, 2503] s0 s0 := FL.rf
  show xe none 2 0 [(0, .ref 218), (1, .ref 177)] [] s0 0 0 _
  refine x_A k2_0 (fun _ => rfl) ?_
  refine x_callV k2_1 (y := 48) (n := 0) (w0 := 0) (w1 := 0) (as := []) (rest := []) (by decide +kernel) (q := 177) (nq := 7) (kq := 7) ⟨by decide, rfl⟩ rfl rfl rfl rfl (xe_mono (C_X6_startReading_177 s0 hG0) ?_)
  rintro s693 v ⟨hG_s693, t_s693, rfl⟩
  have f_s693 : FL [2501, 2502, 2560, 2688, 2816, 1219, 1220, 1221, 1222, 1223, 2503] s0 s693 := f0.tr t_s693 (by decide +kernel)
  show xe none 2 4 [(0, .ref 218), (1, .ref 177)] [] s693 0 0 _
  refine x_A k2_4 (fun _ => rfl) ?_
  refine x_getI k2_5 (f := 6) rfl (q := 218) (n := 7) (kd := 11) ⟨by decide, rfl⟩ (by decide) rfl ?_
  refine x_top (fun z694 e_z694 => ?_)
  have g_z694 : (0 : Int) ≤ s693 218 6 ∧ s693 218 6 ≤ 8 := hG_s693 218 6
  refine x_bipush k2_8 (by decide +kernel) ?_
  refine x_ic_lt k2_10 (t := 14) rfl (by first | exact x_rbe e_z694 g_z694 rfl rfl | exact x_rb g_z694 rfl rfl | exact ⟨by omega, by omega⟩) ⟨by decide, by decide⟩ (fun c695 => ?_) (fun c695 => ?_)
  · skip
    refine x_A k2_14 (fun _ => rfl) ?_
    refine x_getR k2_15 (f := 0) rfl (q := 218) (n := 7) (kd := 11) ⟨by decide, rfl⟩ (q2 := 219) (by decide) rfl ?_
    refine x_A k2_18 (fun _ => rfl) ?_
    refine x_getI k2_19 (f := 6) rfl (q := 218) (n := 7) (kd := 11) ⟨by decide, rfl⟩ (by decide) rfl ?_
    rw [e_z694.symm]
    refine x_A k2_22 (fun _ => rfl) ?_
    refine x_iast k2_23 (q := 219) (n := 8) ⟨by decide, rfl⟩ (by decide) (by first | exact x_rbel e_z694 g_z694 rfl rfl | exact x_rbl g_z694 rfl rfl | exact ⟨by omega, by omega⟩) ?_
    refine x_nh (fun s696 e_s696 => ?_)
    have hG_s696 : GI s696 := by rw [e_s696]; exact hG_s693.up (show 0 ≤ 0 ∧ 0 ≤ 100 from ⟨by decide, by decide⟩)
    have f_s696 : FL [2501, 2502, 2560, 2688, 2816, 1219, 1220, 1221, 1222, 1223, 2503] s0 s696 := by rw [e_s696]; exact f_s693.up (show 2560 ∈ [2501, 2502, 2560, 2688, 2816, 1219, 1220, 1221, 1222, 1223, 2503] from by decide +kernel)
    have q697 : s696 218 6 = z694 := by rw [e_s696, x_up_q (by decide)]; exact e_z694.symm
    have q698 : s696 219 z694.toNat = 0 := by rw [e_s696]; exact x_up_same
    refine x_A k2_24 (fun _ => rfl) ?_
    refine x_A k2_25 (fun _ => rfl) ?_
    refine x_putI k2_26 (f := 4) rfl (q := 218) (n := 7) (kd := 11) ⟨by decide, rfl⟩ rfl rfl rfl ?_
    refine x_nh (fun s699 e_s699 => ?_)
    have hG_s699 : GI s699 := by rw [e_s699]; exact hG_s696.up (show 0 ≤ 0 ∧ 0 ≤ 100 from ⟨by decide, by decide⟩)
    have f_s699 : FL [2501, 2502, 2560, 2688, 2816, 1219, 1220, 1221, 1222, 1223, 2503] s0 s699 := by rw [e_s699]; exact f_s696.up (show 2501 ∈ [2501, 2502, 2560, 2688, 2816, 1219, 1220, 1221, 1222, 1223, 2503] from by decide +kernel)
    have q700 : s699 218 6 = z694 := by rw [e_s699, x_up_i (by decide)]; exact q697
    have q701 : s699 218 4 = 0 := by rw [e_s699]; exact x_up_same
    have q702 : s699 219 z694.toNat = 0 := by rw [e_s699, x_up_q (by first | decide | omega)]; exact q698
    refine x_A k2_29 (fun _ => rfl) ?_
    refine x_A k2_30 (fun _ => rfl) ?_
    refine x_putI k2_31 (f := 5) rfl (q := 218) (n := 7) (kd := 11) ⟨by decide, rfl⟩ rfl rfl rfl ?_
    refine x_nh (fun s703 e_s703 => ?_)
    have hG_s703 : GI s703 := by rw [e_s703]; exact hG_s699.up (show (-2147483648) ≤ 0 ∧ 0 ≤ 2147483647 from ⟨by decide, by decide⟩)
    have f_s703 : FL [2501, 2502, 2560, 2688, 2816, 1219, 1220, 1221, 1222, 1223, 2503] s0 s703 := by rw [e_s703]; exact f_s699.up (show 2502 ∈ [2501, 2502, 2560, 2688, 2816, 1219, 1220, 1221, 1222, 1223, 2503] from by decide +kernel)
    have q704 : s703 218 6 = z694 := by rw [e_s703, x_up_i (by decide)]; exact q700
    have q705 : s703 218 4 = 0 := by rw [e_s703, x_up_i (by decide)]; exact q701
    have q706 : s703 218 5 = 0 := by rw [e_s703]; exact x_up_same
    have q707 : s703 219 z694.toNat = 0 := by rw [e_s703, x_up_q (by first | decide | omega)]; exact q702
    refine x_A k2_34 (fun _ => rfl) ?_
    refine x_istore_n k2_35 (ls' := [(2, vi 1), (0, .ref 218), (1, .ref 177)]) (by decide) rfl ?_
    refine x_A k2_36 (fun _ => rfl) ?_
    refine x_istore_n k2_37 (ls' := [(3, vi 0), (2, vi 1), (0, .ref 218), (1, .ref 177)]) (by decide) rfl ?_
    refine x_ls (l := [(0, .ref 218), (1, .ref 177), (2, vi 1), (3, vi 0)]) (show ([0, 1, 2, 3] : List Nat).Nodup from by decide +kernel) ⟨rfl, rfl, rfl, rfl, trivial⟩ ?_
    exact L_C_X0_read_218_177_38 s0   (((100 - 0) + 1 : Int)).toNat s703 1 0 z694 hG_s703 f_s703 ⟨by decide, by decide⟩ ⟨by decide, by decide⟩ (by first | exact x_rbe e_z694 g_z694 rfl rfl | exact x_rb g_z694 rfl rfl | exact ⟨by omega, by omega⟩) (by omega) (q704).symm  (by omega)
  · skip
    exact x_vret k2_13 rfl ⟨hG_s693, f_s693, rfl⟩
theorem C_X10_ask_0 (s0 : xS) (hG0 : GI s0)  : xe none 110 0 (lv_args 0 [.ref 0]) [] s0 0 0 (fun s' v => GI s' ∧ FL [2501, 2502, 2560, 2688, 2816, 1219, 1220, 1221, 1222, 1223, 2503, 12, 1218] s0 s' ∧ ∃ z, v = some (vi z) ∧ ((-2147483648) ≤ z ∧ z ≤ 2147483647)) := by
  have f0 : FL [2501, 2502, 2560, 2688, 2816, 1219, 1220, 1221, 1222, 1223, 2503, 12, 1218] s0 s0 := FL.rf
  show xe none 110 0 [(0, .ref 0)] [] s0 0 0 _
  refine x_A k110_0 (fun _ => rfl) ?_
  refine x_getR k110_1 (f := 3) rfl (q := 0) (n := 12) (kd := 3) ⟨by decide, rfl⟩ (q2 := 177) (by decide) rfl ?_
  refine x_getI k110_4 (f := 1) rfl (q := 177) (n := 7) (kd := 7) ⟨by decide, rfl⟩ (by decide) rfl ?_
  refine x_top (fun z1 e_z1 => ?_)
  have g_z1 : (0 : Int) ≤ s0 177 1 ∧ s0 177 1 ≤ 160 := hG0 177 1
  refine x_bipush k110_7 (by decide +kernel) ?_
  refine x_ic_le k110_9 (t := 16) rfl (by first | exact x_rbe e_z1 g_z1 rfl rfl | exact x_rb g_z1 rfl rfl | exact ⟨by omega, by omega⟩) ⟨by decide, by decide⟩ (fun c2 => ?_) (fun c2 => ?_)
  · skip
    refine x_A k110_16 (fun _ => rfl) ?_
    refine x_getR k110_17 (f := 7) rfl (q := 0) (n := 12) (kd := 3) ⟨by decide, rfl⟩ (q2 := 218) (by decide) rfl ?_
    refine x_getI k110_20 (f := 6) rfl (q := 218) (n := 7) (kd := 11) ⟨by decide, rfl⟩ (by decide) rfl ?_
    refine x_top (fun z3 e_z3 => ?_)
    have g_z3 : (0 : Int) ≤ s0 218 6 ∧ s0 218 6 ≤ 8 := hG0 218 6
    refine x_bipush k110_23 (by decide +kernel) ?_
    refine x_ic_lt k110_25 (t := 32) rfl (by first | exact x_rbe e_z3 g_z3 rfl rfl | exact x_rb g_z3 rfl rfl | exact ⟨by omega, by omega⟩) ⟨by decide, by decide⟩ (fun c4 => ?_) (fun c4 => ?_)
    · skip
      refine x_A k110_32 (fun _ => rfl) ?_
      refine x_getR k110_33 (f := 7) rfl (q := 0) (n := 12) (kd := 3) ⟨by decide, rfl⟩ (q2 := 218) (by decide) rfl ?_
      refine x_getI k110_36 (f := 6) rfl (q := 218) (n := 7) (kd := 11) ⟨by decide, rfl⟩ (by decide) rfl ?_
      rw [e_z3.symm]
      refine x_istore_n k110_39 (ls' := [(1, vi z3), (0, .ref 0)]) (by decide) rfl ?_
      refine x_A k110_40 (fun _ => rfl) ?_
      refine x_getR k110_41 (f := 7) rfl (q := 0) (n := 12) (kd := 3) ⟨by decide, rfl⟩ (q2 := 218) (by decide) rfl ?_
      refine x_A k110_44 (fun _ => rfl) ?_
      refine x_getR k110_45 (f := 3) rfl (q := 0) (n := 12) (kd := 3) ⟨by decide, rfl⟩ (q2 := 177) (by decide) rfl ?_
      refine x_callV k110_48 (y := 2) (n := 1) (w0 := 0) (w1 := 1) (as := [.ref 177]) (rest := []) (by decide +kernel) (q := 218) (nq := 7) (kq := 11) ⟨by decide, rfl⟩ rfl rfl rfl rfl (xe_mono (C_X0_read_218_177 s0 hG0) ?_)
      rintro s6 v ⟨hG_s6, t_s6, rfl⟩
      have f_s6 : FL [2501, 2502, 2560, 2688, 2816, 1219, 1220, 1221, 1222, 1223, 2503, 12, 1218] s0 s6 := f0.tr t_s6 (by decide +kernel)
      have q7 : s6 177 1 = z1 := (t_s6 177 1 (show 1218 ∉ [2501, 2502, 2560, 2688, 2816, 1219, 1220, 1221, 1222, 1223, 2503] from by decide +kernel)).trans e_z1.symm
      show xe none 110 51 [(1, vi z3), (0, .ref 0)] [] s6 0 0 _
      refine x_A k110_51 (fun _ => rfl) ?_
      refine x_A k110_52 (fun _ => rfl) ?_
      refine x_callV k110_53 (y := 128) (n := 1) (w0 := 0) (w1 := 1) (as := [vi z3]) (rest := []) (by decide +kernel) (q := 0) (nq := 12) (kq := 3) ⟨by decide, rfl⟩ rfl rfl rfl rfl (xe_mono (C_X10_afterReading_0 s6 hG_s6 z3 (by first | exact x_rbe e_z3 g_z3 rfl rfl | exact x_rb g_z3 rfl rfl | exact ⟨by omega, by omega⟩)) ?_)
      rintro s9 v ⟨hG_s9, t_s9, z8, rfl, g_z8⟩
      have f_s9 : FL [2501, 2502, 2560, 2688, 2816, 1219, 1220, 1221, 1222, 1223, 2503, 12, 1218] s0 s9 := f_s6.tr t_s9 (by decide +kernel)
      show xe none 110 56 [(1, vi z3), (0, .ref 0)] [vi z8] s9 0 0 _
      exact x_iret k110_56 rfl ⟨hG_s9, f_s9, z8, rfl, (by first | exact x_rbe e_z8 g_z8 rfl rfl | exact x_rb g_z8 rfl rfl | exact ⟨by omega, by omega⟩)⟩
    · skip
      refine x_sipush k110_28 (by decide +kernel) ?_
      exact x_iret k110_31 rfl ⟨hG0, f0, (-1004), rfl, ⟨by decide, by decide⟩⟩
  · skip
    refine x_sipush k110_12 (by decide +kernel) ?_
    exact x_iret k110_15 rfl ⟨hG0, f0, (-1003), rfl, ⟨by decide, by decide⟩⟩
