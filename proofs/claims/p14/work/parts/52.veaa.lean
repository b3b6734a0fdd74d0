set_option maxHeartbeats 8000000 in
theorem L_E_X11_whyWrong_256_88 (s0 : xS) (hJ0 : J s0) (hG0 : GI s0) (a : Int) (b_a : 0 ≤ a ∧ a ≤ 119) (pR : R1 s0) (pT : TR s0) (pG1 : G1 s0) (pG3 : G3 s0) (pf : FrZ s0 s0 (s0 268 a.toNat)) (pa : a < s0 256 10) (pw_ : ∀ j : Int, 0 ≤ j → j < a → (s0 277 j.toNat = 0 ↔ wrC s0 j = 0))  : ∀ (n : Nat) (s : xS) (x1 : Int) (x2 : Int) (x3 : Int) (x4 : Int) (hG : GI s) (f : FL [] s0 s) (b_x1 : 0 ≤ x1 ∧ x1 ≤ 119) (b_x2 : 0 ≤ x2 ∧ x2 ≤ 9) (b_x3 : 0 ≤ x3 ∧ x3 ≤ 120) (b_x4 : 0 ≤ x4 ∧ x4 ≤ 119) (r_3_4 : x3 ≤ x4 + 0) (r_4_1 : x4 ≤ x1 + 0) (w_0 : x1 = a ∧ x3 ≤ x4 ∧ x4 ≤ a) (w_1 : ¬ noC s0 (s0 55 a.toNat) (s0 52 a.toNat) (s0 54 a.toNat)) (w_2 : ¬ twC s0 (s0 55 a.toNat) (s0 54 a.toNat)) (w_3 : x3 = ctp (fun j : Nat => s0 51 j = s0 51 a.toNat ∧ wrC s0 (j : Int) = 0) x4.toNat) (w_4 : thC s0 (s0 55 a.toNat) (s0 52 a.toNat))  (hm : (119 - x4) < (n : Int)), xe none 165 88 [(0, .ref 256), (1, vi x1), (2, vi x2), (3, vi x3), (4, vi x4)] [] s 0 0 (fun s' v => GI s' ∧ FL [] s0 s' ∧ ∃ z, v = some (vi z) ∧ (0 ≤ z ∧ z ≤ 4) ∧ (z = wrC s0 a)) := by
  intro n
  induction n with
  | zero => intro s x1 x2 x3 x4 hG f b_x1 b_x2 b_x3 b_x4 r_3_4 r_4_1 w_0 w_1 w_2 w_3 w_4  hm; exfalso; omega
  | succ n ih =>
    intro s x1 x2 x3 x4 hG f b_x1 b_x2 b_x3 b_x4 r_3_4 r_4_1 w_0 w_1 w_2 w_3 w_4  hm
    obtain ⟨⟨y51, y52, y54, y55⟩, y46, ytd, ynow⟩ := pG3.2 a (by omega) (by omega) (by have q := pG1.1; omega)
    have gE : (0 : Int) ≤ s0 268 a.toNat ∧ s0 268 a.toNat ≤ 9 := hG0 268 a.toNat
    refine x_A k165_88 (fun _ => rfl) ?_
    refine x_A k165_90 (fun _ => rfl) ?_
    refine x_ic_ge k165_91 (t := 134) rfl (by first | exact x_rb b_x4 rfl rfl | exact ⟨by omega, by omega⟩) (by first | exact x_rb b_x1 rfl rfl | exact ⟨by omega, by omega⟩) (fun c714 => ?_) (fun c714 => ?_)
    · skip
      refine x_A k165_134 (fun _ => rfl) ?_
      refine x_A k165_135 (fun _ => rfl) ?_
      refine x_getI k165_136 (f := 26) rfl (q := 256) (n := 62) (kd := 15) ⟨by decide, rfl⟩ (by decide) rfl ?_
      refine x_top (fun z715 e_z715 => ?_)
      have g_z715 : (-2147483648) ≤ s 256 26 ∧ s 256 26 ≤ 2147483647 := hG 256 26
      refine x_ic_lt k165_139 (t := 146) rfl (by first | exact x_rb b_x3 rfl rfl | exact ⟨by omega, by omega⟩) (by first | exact x_rbe e_z715 g_z715 rfl rfl | exact x_rb g_z715 rfl rfl | exact ⟨by omega, by omega⟩) (fun c716 => ?_) (fun c716 => ?_)
      · skip
        refine x_A k165_146 (fun _ => rfl) ?_
        exact x_iret k165_147 rfl ⟨hG, f, 0, rfl, ⟨by decide, by decide⟩, (by rw [← (wrC_eq (w := fun j => s0 277 j.toNat) (by omega) (fun j hj => pw_ (j : Int) (by omega) (by omega)))]; exact ((why_4 (w := fun j => s0 277 j.toNat) (n := x3) (mo := z715) rfl rfl rfl w_4 w_1 w_2 (by rw [show x3 = _ from w_3, show x4.toNat = a.toNat by omega]; exact ctp_cg _ (fun j hj => and_congr Iff.rfl (pw_ (j : Int) (by omega) (by omega)).symm)) (by have q := (pf.se pR).2; rw [y55, ← q, ← f.nil]; exact e_z715)).2 (by omega)).symm)⟩
      · skip
        refine x_A k165_142 (fun _ => rfl) ?_
        refine x_goto k165_143 (t := 147) rfl ?_
        exact x_iret k165_147 rfl ⟨hG, f, 4, rfl, ⟨by decide, by decide⟩, (by rw [← (wrC_eq (w := fun j => s0 277 j.toNat) (by omega) (fun j hj => pw_ (j : Int) (by omega) (by omega)))]; exact ((why_4 (w := fun j => s0 277 j.toNat) (n := x3) (mo := z715) rfl rfl rfl w_4 w_1 w_2 (by rw [show x3 = _ from w_3, show x4.toNat = a.toNat by omega]; exact ctp_cg _ (fun j hj => and_congr Iff.rfl (pw_ (j : Int) (by omega) (by omega)).symm)) (by have q := (pf.se pR).2; rw [y55, ← q, ← f.nil]; exact e_z715)).1 (by omega)).symm)⟩
    · skip
      refine x_A k165_94 (fun _ => rfl) ?_
      refine x_A k165_95 (fun _ => rfl) ?_
      refine x_getR k165_96 (f := 11) rfl (q := 256) (n := 62) (kd := 15) ⟨by decide, rfl⟩ (q2 := 264) (by decide) rfl ?_
      refine x_A k165_99 (fun _ => rfl) ?_
      refine x_iald k165_101 (q := 264) (n := 120) ⟨by decide, rfl⟩ (by decide) (by first | exact x_rbl b_x4 rfl rfl | exact ⟨by omega, by omega⟩) ?_
      refine x_top (fun z717 e_z717 => ?_)
      have g_z717 : (0 : Int) ≤ s 264 x4.toNat ∧ s 264 x4.toNat ≤ 39 := hG 264 x4.toNat
      refine x_A k165_102 (fun _ => rfl) ?_
      refine x_getR k165_103 (f := 11) rfl (q := 256) (n := 62) (kd := 15) ⟨by decide, rfl⟩ (q2 := 264) (by decide) rfl ?_
      refine x_A k165_106 (fun _ => rfl) ?_
      refine x_iald k165_107 (q := 264) (n := 120) ⟨by decide, rfl⟩ (by decide) (by first | exact x_rbl b_x1 rfl rfl | exact ⟨by omega, by omega⟩) ?_
      refine x_top (fun z718 e_z718 => ?_)
      have g_z718 : (0 : Int) ≤ s 264 x1.toNat ∧ s 264 x1.toNat ≤ 39 := hG 264 x1.toNat
      refine x_ic_ne k165_108 (t := 125) rfl (by first | exact x_rbe e_z717 g_z717 rfl rfl | exact x_rb g_z717 rfl rfl | exact ⟨by omega, by omega⟩) (by first | exact x_rbe e_z718 g_z718 rfl rfl | exact x_rb g_z718 rfl rfl | exact ⟨by omega, by omega⟩) (fun c719 => ?_) (fun c719 => ?_)
      · skip
        refine x_A k165_125 (fun _ => rfl) ?_
        refine x_iadd k165_126 ?_
        refine x_top (fun z720 e_z720 => ?_)
        refine x_istore_n k165_127 (ls' := [(3, vi z720), (0, .ref 256), (1, vi x1), (2, vi x2), (4, vi x4)]) (by decide) rfl ?_
        refine x_iinc k165_128 (ls' := [(4, vi (x4 + 1)), (3, vi z720), (0, .ref 256), (1, vi x1), (2, vi x2)]) rfl (by decide) rfl ?_
        refine x_goto k165_131 (t := 88) rfl ?_
        refine x_ls (l := [(0, .ref 256), (1, vi x1), (2, vi x2), (3, vi z720), (4, vi (x4 + 1))]) (show ([0, 1, 2, 3, 4] : List Nat).Nodup from by decide) ⟨rfl, rfl, rfl, rfl, rfl, trivial⟩ ?_
        exact ih s x1 x2 z720 (x4 + 1) hG f (by first | exact x_rb b_x1 rfl rfl | exact ⟨by omega, by omega⟩) (by first | exact x_rb b_x2 rfl rfl | exact ⟨by omega, by omega⟩) (by first | exact x_rbe e_z720 g_z720 rfl rfl | exact x_rb g_z720 rfl rfl | exact ⟨by omega, by omega⟩) ⟨by omega, by omega⟩ (by omega) (by omega) (by omega) w_1 w_2 (by have cs := ctp_s (fun j : Nat => s0 51 j = s0 51 a.toNat ∧ wrC s0 (j : Int) = 0) (k := x4) (by omega); rw [show ((x4.toNat : Nat) : Int) = x4 by omega] at cs; have g3 := (pG3.2 x4 (by omega) (by omega) (by have q := pG1.1; omega)).1.1; have w3 := pw_ x4 (by omega) (by omega); have e1 : s0 264 x4.toNat = z717 := (by rw [← f.nil]; exact e_z717.symm); have e2 : s0 264 a.toNat = z718 := (by rw [← f.nil, ← show x1 = a by omega]; exact e_z718.symm); have q := cs.2 (fun q => by have q1 := q.1; omega); omega) w_4  (by omega)
      · skip
        refine x_A k165_111 (fun _ => rfl) ?_
        refine x_getR k165_112 (f := 27) rfl (q := 256) (n := 62) (kd := 15) ⟨by decide, rfl⟩ (q2 := 277) (by decide) rfl ?_
        refine x_A k165_115 (fun _ => rfl) ?_
        refine x_iald k165_117 (q := 277) (n := 120) ⟨by decide, rfl⟩ (by decide) (by first | exact x_rbl b_x4 rfl rfl | exact ⟨by omega, by omega⟩) ?_
        refine x_top (fun z721 e_z721 => ?_)
        have g_z721 : (0 : Int) ≤ s 277 x4.toNat ∧ s 277 x4.toNat ≤ 4 := hG 277 x4.toNat
        refine x_if_ne k165_118 (t := 125) rfl (by first | exact x_rbe e_z721 g_z721 rfl rfl | exact x_rb g_z721 rfl rfl | exact ⟨by omega, by omega⟩) (fun c722 => ?_) (fun c722 => ?_)
        · skip
          refine x_A k165_125 (fun _ => rfl) ?_
          refine x_iadd k165_126 ?_
          refine x_top (fun z723 e_z723 => ?_)
          refine x_istore_n k165_127 (ls' := [(3, vi z723), (0, .ref 256), (1, vi x1), (2, vi x2), (4, vi x4)]) (by decide) rfl ?_
          refine x_iinc k165_128 (ls' := [(4, vi (x4 + 1)), (3, vi z723), (0, .ref 256), (1, vi x1), (2, vi x2)]) rfl (by decide) rfl ?_
          refine x_goto k165_131 (t := 88) rfl ?_
          refine x_ls (l := [(0, .ref 256), (1, vi x1), (2, vi x2), (3, vi z723), (4, vi (x4 + 1))]) (show ([0, 1, 2, 3, 4] : List Nat).Nodup from by decide) ⟨rfl, rfl, rfl, rfl, rfl, trivial⟩ ?_
          exact ih s x1 x2 z723 (x4 + 1) hG f (by first | exact x_rb b_x1 rfl rfl | exact ⟨by omega, by omega⟩) (by first | exact x_rb b_x2 rfl rfl | exact ⟨by omega, by omega⟩) (by first | exact x_rbe e_z723 g_z723 rfl rfl | exact x_rb g_z723 rfl rfl | exact ⟨by omega, by omega⟩) ⟨by omega, by omega⟩ (by omega) (by omega) (by omega) w_1 w_2 (by have cs := ctp_s (fun j : Nat => s0 51 j = s0 51 a.toNat ∧ wrC s0 (j : Int) = 0) (k := x4) (by omega); rw [show ((x4.toNat : Nat) : Int) = x4 by omega] at cs; have g3 := (pG3.2 x4 (by omega) (by omega) (by have q := pG1.1; omega)).1.1; have w3 := pw_ x4 (by omega) (by omega); have e1 : s0 264 x4.toNat = z717 := (by rw [← f.nil]; exact e_z717.symm); have e2 : s0 264 a.toNat = z718 := (by rw [← f.nil, ← show x1 = a by omega]; exact e_z718.symm); have e3 : s0 277 x4.toNat = z721 := (by rw [← f.nil]; exact e_z721.symm); have q := cs.2 (fun q => by have q2 := w3.mpr q.2; omega); omega) w_4  (by omega)
        · skip
          refine x_A k165_121 (fun _ => rfl) ?_
          refine x_goto k165_122 (t := 126) rfl ?_
          refine x_iadd k165_126 ?_
          refine x_top (fun z724 e_z724 => ?_)
          refine x_istore_n k165_127 (ls' := [(3, vi z724), (0, .ref 256), (1, vi x1), (2, vi x2), (4, vi x4)]) (by decide) rfl ?_
          refine x_iinc k165_128 (ls' := [(4, vi (x4 + 1)), (3, vi z724), (0, .ref 256), (1, vi x1), (2, vi x2)]) rfl (by decide) rfl ?_
          refine x_goto k165_131 (t := 88) rfl ?_
          refine x_ls (l := [(0, .ref 256), (1, vi x1), (2, vi x2), (3, vi z724), (4, vi (x4 + 1))]) (show ([0, 1, 2, 3, 4] : List Nat).Nodup from by decide) ⟨rfl, rfl, rfl, rfl, rfl, trivial⟩ ?_
          exact ih s x1 x2 z724 (x4 + 1) hG f (by first | exact x_rb b_x1 rfl rfl | exact ⟨by omega, by omega⟩) (by first | exact x_rb b_x2 rfl rfl | exact ⟨by omega, by omega⟩) (by first | exact x_rbe e_z724 g_z724 rfl rfl | exact x_rb g_z724 rfl rfl | exact ⟨by omega, by omega⟩) ⟨by omega, by omega⟩ (by omega) (by omega) (by omega) w_1 w_2 (by have cs := ctp_s (fun j : Nat => s0 51 j = s0 51 a.toNat ∧ wrC s0 (j : Int) = 0) (k := x4) (by omega); rw [show ((x4.toNat : Nat) : Int) = x4 by omega] at cs; have g3 := (pG3.2 x4 (by omega) (by omega) (by have q := pG1.1; omega)).1.1; have w3 := pw_ x4 (by omega) (by omega); have e1 : s0 264 x4.toNat = z717 := (by rw [← f.nil]; exact e_z717.symm); have e2 : s0 264 a.toNat = z718 := (by rw [← f.nil, ← show x1 = a by omega]; exact e_z718.symm); have e3 : s0 277 x4.toNat = z721 := (by rw [← f.nil]; exact e_z721.symm); have q := cs.1 ⟨by omega, w3.mp (by omega)⟩; omega) w_4  (by omega)
set_option maxHeartbeats 8000000 in
theorem L_E_X11_whyWrong_256_25 (s0 : xS) (hJ0 : J s0) (hG0 : GI s0) (a : Int) (b_a : 0 ≤ a ∧ a ≤ 119) (pR : R1 s0) (pT : TR s0) (pG1 : G1 s0) (pG3 : G3 s0) (pf : FrZ s0 s0 (s0 268 a.toNat)) (pa : a < s0 256 10) (pw_ : ∀ j : Int, 0 ≤ j → j < a → (s0 277 j.toNat = 0 ↔ wrC s0 j = 0))  : ∀ (n : Nat) (s : xS) (x1 : Int) (x2 : Int) (x3 : Int) (hG : GI s) (f : FL [] s0 s) (b_x1 : 0 ≤ x1 ∧ x1 ≤ 119) (b_x2 : 0 ≤ x2 ∧ x2 ≤ 9) (b_x3 : 0 ≤ x3 ∧ x3 ≤ 6) (w_0 : x1 = a ∧ x2 = s0 268 a.toNat) (w_1 : ∀ i : Nat, (i : Int) < x3 → ¬ (fun i : Nat => bi (s0 54 a.toNat) i = true ∧ naR s0 i (s0 52 a.toNat) (s0 55 a.toNat)) i) (w_2 : thC s0 (s0 55 a.toNat) (s0 52 a.toNat))  (hm : (6 - x3) < (n : Int)), xe none 165 25 [(0, .ref 256), (1, vi x1), (2, vi x2), (3, vi x3)] [] s 0 0 (fun s' v => GI s' ∧ FL [] s0 s' ∧ ∃ z, v = some (vi z) ∧ (0 ≤ z ∧ z ≤ 4) ∧ (z = wrC s0 a)) := by
  intro n
  induction n with
  | zero => intro s x1 x2 x3 hG f b_x1 b_x2 b_x3 w_0 w_1 w_2  hm; exfalso; omega
  | succ n ih =>
    intro s x1 x2 x3 hG f b_x1 b_x2 b_x3 w_0 w_1 w_2  hm
    obtain ⟨⟨y51, y52, y54, y55⟩, y46, ytd, ynow⟩ := pG3.2 a (by omega) (by omega) (by have q := pG1.1; omega)
    have gE : (0 : Int) ≤ s0 268 a.toNat ∧ s0 268 a.toNat ≤ 9 := hG0 268 a.toNat
    refine x_A k165_25 (fun _ => rfl) ?_
    refine x_bipush k165_26 (by decide +kernel) ?_
    refine x_ic_ge k165_28 (t := 68) rfl (by first | exact x_rb b_x3 rfl rfl | exact ⟨by omega, by omega⟩) ⟨by decide, by decide⟩ (fun c725 => ?_) (fun c725 => ?_)
    · skip
      have hno : ¬ noC s0 (s0 55 a.toNat) (s0 52 a.toNat) (s0 54 a.toNat) := by
        rintro ⟨i, hi, q1, q2⟩
        exact w_1 i (by omega) ⟨q1, (pR.na hJ0 hG0 _ _ _).mpr q2⟩
      refine x_A k165_68 (fun _ => rfl) ?_
      refine x_A k165_69 (fun _ => rfl) ?_
      refine x_getR k165_70 (f := 14) rfl (q := 256) (n := 62) (kd := 15) ⟨by decide, rfl⟩ (q2 := 267) (by decide) rfl ?_
      refine x_A k165_73 (fun _ => rfl) ?_
      refine x_iald k165_74 (q := 267) (n := 120) ⟨by decide, rfl⟩ (by decide) (by first | exact x_rbl b_x1 rfl rfl | exact ⟨by omega, by omega⟩) ?_
      refine x_top (fun z726 e_z726 => ?_)
      have g_z726 : (0 : Int) ≤ s 267 x1.toNat ∧ s 267 x1.toNat ≤ 63 := hG 267 x1.toNat
      refine x_callV k165_75 (y := 163) (n := 1) (w0 := 0) (w1 := 1) (as := [vi z726]) (rest := []) (by decide +kernel) (q := 256) (nq := 62) (kq := 15) ⟨by decide, rfl⟩ rfl rfl rfl rfl (xe_mono (E_X11_isBarred_256 s hG (hJ0.fl f (by decide)) z726 (by first | exact x_rbe e_z726 g_z726 rfl rfl | exact x_rb g_z726 rfl rfl | exact ⟨by omega, by omega⟩) (s0 268 a.toNat) (pR.fl f (by decide)) (by rw [f.nil]; exact pf)) ?_)
      rintro s728 v ⟨-, t_s728, z727, rfl, g_z727, xp_z727⟩
      rw [t_s728.nil]
      try rw [t_s728.nil] at xp_z727
      show xe none 165 78 [(0, .ref 256), (1, vi x1), (2, vi x2), (3, vi x3)] [vi z727] s 0 0 _
      have e54 : s0 54 a.toNat = z726 := by rw [y54, ← show x1 = a by omega, ← f.nil]; exact e_z726.symm
      have tb := xp_z727
      rw [f.nil, ← y55, ← e54] at tb
      refine x_if_eq k165_78 (t := 83) rfl (by first | exact x_rbe e_z727 g_z727 rfl rfl | exact x_rb g_z727 rfl rfl | exact ⟨by omega, by omega⟩) (fun c729 => ?_) (fun c729 => ?_)
      · skip
        refine x_A k165_83 (fun _ => rfl) ?_
        refine x_istore_n k165_84 (ls' := [(3, vi 0), (0, .ref 256), (1, vi x1), (2, vi x2)]) (by decide) rfl ?_
        refine x_A k165_85 (fun _ => rfl) ?_
        refine x_istore k165_86 (ls' := [(4, vi 0), (3, vi 0), (0, .ref 256), (1, vi x1), (2, vi x2)]) (by decide) rfl ?_
        refine x_ls (l := [(0, .ref 256), (1, vi x1), (2, vi x2), (3, vi 0), (4, vi 0)]) (show ([0, 1, 2, 3, 4] : List Nat).Nodup from by decide) ⟨rfl, rfl, rfl, rfl, rfl, trivial⟩ ?_
        exact L_E_X11_whyWrong_256_88 s0 hJ0 hG0 a b_a pR pT pG1 pG3 pf pa pw_  (((119 - 0) + 1 : Int)).toNat s x1 x2 0 0 hG f (by first | exact x_rb b_x1 rfl rfl | exact ⟨by omega, by omega⟩) (by first | exact x_rb b_x2 rfl rfl | exact ⟨by omega, by omega⟩) ⟨by decide, by decide⟩ ⟨by decide, by decide⟩ (by omega) (by omega) (by omega) hno (fun q => (tb.resolve_left (fun w => by omega)).2 q) (show _ = _ from rfl) w_2  (by omega)
      · skip
        refine x_A k165_81 (fun _ => rfl) ?_
        exact x_iret k165_82 rfl ⟨hG, f, 3, rfl, ⟨by decide, by decide⟩, (by rw [← (wrC_eq (w := fun j => s0 277 j.toNat) (by omega) (fun j hj => pw_ (j : Int) (by omega) (by omega)))]; exact (why_3 rfl rfl rfl w_2 hno (tb.resolve_right (fun w => by omega)).2).symm)⟩
    · skip
      refine x_A k165_31 (fun _ => rfl) ?_
      refine x_getR k165_32 (f := 14) rfl (q := 256) (n := 62) (kd := 15) ⟨by decide, rfl⟩ (q2 := 267) (by decide) rfl ?_
      refine x_A k165_35 (fun _ => rfl) ?_
      refine x_iald k165_36 (q := 267) (n := 120) ⟨by decide, rfl⟩ (by decide) (by first | exact x_rbl b_x1 rfl rfl | exact ⟨by omega, by omega⟩) ?_
      refine x_top (fun z730 e_z730 => ?_)
      have g_z730 : (0 : Int) ≤ s 267 x1.toNat ∧ s 267 x1.toNat ≤ 63 := hG 267 x1.toNat
      refine x_A k165_37 (fun _ => rfl) ?_
      refine x_ishr_b k165_38 ⟨by omega, by omega⟩ (fun z731 i_z731 u_z731 => ?_)
      have g_z731 := i_z731
      unfold in32 at g_z731
      refine x_A k165_39 (fun _ => rfl) ?_
      refine x_iand_b k165_40 (fun z732 i_z732 u_z732 => ?_)
      have g_z732 := i_z732
      unfold in32 at g_z732
      refine x_A k165_41 (fun _ => rfl) ?_
      have kb0 := bi_atr (by omega) u_z731 i_z732 u_z732
      refine x_ic_ne k165_42 (t := 62) rfl (by first | exact x_rbe e_z732 g_z732 rfl rfl | exact x_rb g_z732 rfl rfl | exact ⟨by omega, by omega⟩) ⟨by decide, by decide⟩ (fun c733 => ?_) (fun c733 => ?_)
      · skip
        refine x_iinc k165_62 (ls' := [(3, vi (x3 + 1)), (0, .ref 256), (1, vi x1), (2, vi x2)]) rfl (by decide) rfl ?_
        refine x_goto k165_65 (t := 25) rfl ?_
        refine x_ls (l := [(0, .ref 256), (1, vi x1), (2, vi x2), (3, vi (x3 + 1))]) (show ([0, 1, 2, 3] : List Nat).Nodup from by decide) ⟨rfl, rfl, rfl, rfl, trivial⟩ ?_
        exact ih s x1 x2 (x3 + 1) hG f (by first | exact x_rb b_x1 rfl rfl | exact ⟨by omega, by omega⟩) (by first | exact x_rb b_x2 rfl rfl | exact ⟨by omega, by omega⟩) ⟨by omega, by omega⟩ (by omega) (no_st w_1 (by omega) (fun q => by have q1 := q.1; rw [y54, ← show x1 = a by omega, ← f.nil, e_z730.symm, (kb0.resolve_right (fun w => by omega)).2] at q1; cases q1)) w_2  (by omega)
      · skip
        refine x_A k165_45 (fun _ => rfl) ?_
        refine x_A k165_46 (fun _ => rfl) ?_
        refine x_A k165_47 (fun _ => rfl) ?_
        refine x_getR k165_48 (f := 12) rfl (q := 256) (n := 62) (kd := 15) ⟨by decide, rfl⟩ (q2 := 265) (by decide) rfl ?_
        refine x_A k165_51 (fun _ => rfl) ?_
        refine x_iald k165_52 (q := 265) (n := 120) ⟨by decide, rfl⟩ (by decide) (by first | exact x_rbl b_x1 rfl rfl | exact ⟨by omega, by omega⟩) ?_
        refine x_top (fun z734 e_z734 => ?_)
        have g_z734 : (0 : Int) ≤ s 265 x1.toNat ∧ s 265 x1.toNat ≤ 39 := hG 265 x1.toNat
        refine x_A k165_53 (fun _ => rfl) ?_
        have kb := bi_atr (by omega) u_z731 i_z732 u_z732
        have e54 : s0 54 a.toNat = z730 := by rw [y54, ← show x1 = a by omega, ← f.nil]; exact e_z730.symm
        have e52 : s0 52 a.toNat = z734 := by rw [y52, ← show x1 = a by omega, ← f.nil]; exact e_z734.symm
        have e55 : s0 55 a.toNat = x2 := by omega
        refine x_callV k165_54 (y := 164) (n := 3) (w0 := 0) (w1 := 3) (as := [vi x3, vi z734, vi x2]) (rest := []) (by decide +kernel) (q := 256) (nq := 62) (kq := 15) ⟨by decide, rfl⟩ rfl rfl rfl rfl (xe_mono (E_X11_isAllowed_256 s hG (hJ0.fl f (by decide)) x3 (by first | exact x_rb b_x3 rfl rfl | exact ⟨by omega, by omega⟩) z734 (by first | exact x_rbe e_z734 g_z734 rfl rfl | exact x_rb g_z734 rfl rfl | exact ⟨by omega, by omega⟩) x2 (by first | exact x_rb b_x2 rfl rfl | exact ⟨by omega, by omega⟩) (pR.fl f (by decide)) (pT.fl (hG0 256 1).2 f (by decide)) (by rw [f.nil, show x2 = s0 268 a.toNat by omega]; exact pf) (by rw [f.nil, ← e55, ← e52]; exact ytd)) ?_)
        rintro s736 v ⟨-, t_s736, z735, rfl, g_z735, xp_z735⟩
        rw [t_s736.nil]
        try rw [t_s736.nil] at xp_z735
        show xe none 165 57 [(0, .ref 256), (1, vi x1), (2, vi x2), (3, vi x3)] [vi z735] s 0 0 _
        refine x_if_ne k165_57 (t := 62) rfl (by first | exact x_rbe e_z735 g_z735 rfl rfl | exact x_rb g_z735 rfl rfl | exact ⟨by omega, by omega⟩) (fun c737 => ?_) (fun c737 => ?_)
        · skip
          refine x_iinc k165_62 (ls' := [(3, vi (x3 + 1)), (0, .ref 256), (1, vi x1), (2, vi x2)]) rfl (by decide) rfl ?_
          refine x_goto k165_65 (t := 25) rfl ?_
          refine x_ls (l := [(0, .ref 256), (1, vi x1), (2, vi x2), (3, vi (x3 + 1))]) (show ([0, 1, 2, 3] : List Nat).Nodup from by decide) ⟨rfl, rfl, rfl, rfl, trivial⟩ ?_
          exact ih s x1 x2 (x3 + 1) hG f (by first | exact x_rb b_x1 rfl rfl | exact ⟨by omega, by omega⟩) (by first | exact x_rb b_x2 rfl rfl | exact ⟨by omega, by omega⟩) ⟨by omega, by omega⟩ (by omega) (no_st w_1 (by omega) (fun q => (xp_z735.resolve_right (fun w => by omega)).2 (by have q2 := q.2; rw [e52, e55, show ((x3.toNat : Nat) : Int) = x3 by omega] at q2; rw [f.nil]; exact q2))) w_2  (by omega)
        · skip
          refine x_A k165_60 (fun _ => rfl) ?_
          exact x_iret k165_61 rfl ⟨hG, f, 2, rfl, ⟨by decide, by decide⟩, (by rw [← (wrC_eq (w := fun j => s0 277 j.toNat) (by omega) (fun j hj => pw_ (j : Int) (by omega) (by omega)))]; exact (why_2 rfl rfl rfl w_2 ⟨x3.toNat, by omega, by rw [e54]; exact (kb.resolve_left (fun w => by omega)).2, (pR.na hJ0 hG0 _ _ _).mp (by rw [e52, e55, show ((x3.toNat : Nat) : Int) = x3 by omega]; have q := (xp_z735.resolve_left (fun w => by omega)).2; rw [f.nil] at q; exact q)⟩).symm)⟩
set_option maxHeartbeats 8000000 in
theorem E_X11_whyWrong_256 (s0 : xS) (hG0 : GI s0) (hJ0 : J s0) (a : Int) (b_a : 0 ≤ a ∧ a ≤ 119) (pR : R1 s0) (pT : TR s0) (pG1 : G1 s0) (pG3 : G3 s0) (pf : FrZ s0 s0 (s0 268 a.toNat)) (pa : a < s0 256 10) (pw_ : ∀ j : Int, 0 ≤ j → j < a → (s0 277 j.toNat = 0 ↔ wrC s0 j = 0)) : xe none 165 0 (lv_args 0 [.ref 256, vi a]) [] s0 0 0 (fun s' v => GI s' ∧ FL [] s0 s' ∧ ∃ z, v = some (vi z) ∧ (0 ≤ z ∧ z ≤ 4) ∧ (z = wrC s0 a)) := by
  have f0 : FL [] s0 s0 := FL.rf
  show xe none 165 0 [(0, .ref 256), (1, vi a)] [] s0 0 0 _
  obtain ⟨⟨y51, y52, y54, y55⟩, y46, ytd, ynow⟩ := pG3.2 a (by omega) (by omega) (by have q := pG1.1; omega)
  refine x_A k165_0 (fun _ => rfl) ?_
  refine x_getR k165_1 (f := 15) rfl (q := 256) (n := 62) (kd := 15) ⟨by decide, rfl⟩ (q2 := 268) (by decide) rfl ?_
  refine x_A k165_4 (fun _ => rfl) ?_
  refine x_iald k165_5 (q := 268) (n := 120) ⟨by decide, rfl⟩ (by decide) (by first | exact x_rbl b_a rfl rfl | exact ⟨by omega, by omega⟩) ?_
  refine x_top (fun z738 e_z738 => ?_)
  have g_z738 : (0 : Int) ≤ s0 268 a.toNat ∧ s0 268 a.toNat ≤ 9 := hG0 268 a.toNat
  refine x_istore_n k165_6 (ls' := [(2, vi z738), (0, .ref 256), (1, vi a)]) (by decide) rfl ?_
  refine x_A k165_7 (fun _ => rfl) ?_
  refine x_A k165_8 (fun _ => rfl) ?_
  refine x_getR k165_9 (f := 12) rfl (q := 256) (n := 62) (kd := 15) ⟨by decide, rfl⟩ (q2 := 265) (by decide) rfl ?_
  refine x_A k165_12 (fun _ => rfl) ?_
  refine x_iald k165_13 (q := 265) (n := 120) ⟨by decide, rfl⟩ (by decide) (by first | exact x_rbl b_a rfl rfl | exact ⟨by omega, by omega⟩) ?_
  refine x_top (fun z739 e_z739 => ?_)
  have g_z739 : (0 : Int) ≤ s0 265 a.toNat ∧ s0 265 a.toNat ≤ 39 := hG0 265 a.toNat
  refine x_A k165_14 (fun _ => rfl) ?_
  obtain ⟨z740, e_z740⟩ : ∃ z, z = s0 256 1 := ⟨_, rfl⟩
  have g_z740 : (1 : Int) ≤ s0 256 1 ∧ s0 256 1 ≤ 40 := hG0 256 1
  refine x_callV k165_15 (y := 142) (n := 2) (w0 := 0) (w1 := 2) (as := [vi z739, vi z738]) (rest := []) (by decide +kernel) (q := 256) (nq := 62) (kq := 15) ⟨by decide, rfl⟩ rfl rfl rfl rfl (xe_mono (C_X11_isThere_256 s0 hG0 z739 (by first | exact x_rbe e_z739 g_z739 rfl rfl | exact x_rb g_z739 rfl rfl | exact ⟨by omega, by omega⟩) z738 (by first | exact x_rbe e_z738 g_z738 rfl rfl | exact x_rb g_z738 rfl rfl | exact ⟨by omega, by omega⟩)) ?_)
  rintro s742 v ⟨h_s742, z741, rfl, hz_z741⟩
  rw [h_s742]
  rcases hz_z741 with ⟨c_z741, e_z741, m_z741⟩ | ⟨e_z741, m_z741⟩
  · rw [e_z741]
    show xe none 165 18 [(2, vi z738), (0, .ref 256), (1, vi a)] [vi 1] s0 0 0 _
    have th : thC s0 (s0 55 a.toNat) (s0 52 a.toNat) := by rw [y55, y52, e_z738.symm, e_z739.symm]; exact (pT.1.th hG0 _ _).mpr ⟨by omega, by omega, by omega⟩
    refine x_if_ne k165_18 (t := 23) rfl ⟨by decide, by decide⟩ (fun c743 => ?_) (fun c743 => by exfalso; omega)
    refine x_A k165_23 (fun _ => rfl) ?_
    refine x_istore_n k165_24 (ls' := [(3, vi 0), (2, vi z738), (0, .ref 256), (1, vi a)]) (by decide) rfl ?_
    refine x_ls (l := [(0, .ref 256), (1, vi a), (2, vi z738), (3, vi 0)]) (show ([0, 1, 2, 3] : List Nat).Nodup from by decide) ⟨rfl, rfl, rfl, rfl, trivial⟩ ?_
    exact L_E_X11_whyWrong_256_25 s0 hJ0 hG0 a b_a pR pT pG1 pG3 pf pa pw_  (((6 - 0) + 1 : Int)).toNat s0 a z738 0 hG0 f0 (by first | exact x_rb b_a rfl rfl | exact ⟨by omega, by omega⟩) (by first | exact x_rbe e_z738 g_z738 rfl rfl | exact x_rb g_z738 rfl rfl | exact ⟨by omega, by omega⟩) ⟨by decide, by decide⟩ (by omega) (fun i hi => by omega) th  (by omega)
  · rw [e_z741]
    show xe none 165 18 [(2, vi z738), (0, .ref 256), (1, vi a)] [vi 0] s0 0 0 _
    have nth : ¬ thC s0 (s0 55 a.toNat) (s0 52 a.toNat) := by rw [y55, y52, e_z738.symm, e_z739.symm]; exact fun q => by have w := (pT.1.th hG0 _ _).mp q; omega
    refine x_if_ne k165_18 (t := 23) rfl ⟨by decide, by decide⟩ (fun c744 => by exfalso; omega) (fun c744 => ?_)
    refine x_A k165_21 (fun _ => rfl) ?_
    exact x_iret k165_22 rfl ⟨hG0, f0, 1, rfl, ⟨by decide, by decide⟩, (by rw [← (wrC_eq (w := fun j => s0 277 j.toNat) (by omega) (fun j hj => pw_ (j : Int) (by omega) (by omega)))]; exact (why_1 (keys := 0) rfl rfl nth).symm)⟩
