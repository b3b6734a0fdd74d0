set_option maxHeartbeats 8000000 in
theorem E_X8_whyWrong_243 (s0 : xS) (hG0 : GI s0) (a : Int) (b_a : 0 ≤ a ∧ a ≤ 119) (b : Int) (b_b : 0 ≤ b ∧ b ≤ 9) (pb : b = s0 55 a.toNat) (pF : Fo s0 s0 244 b) (pr : ∀ p : Int, 0 ≤ p → p ≤ 39 → s0 249 p.toNat = ctp (fun j : Nat => s0 51 j = p ∧ s0 252 ((j : Int)).toNat = 0) a.toNat) : xe none 75 0 (lv_args 0 [.ref 243, vi a, vi b]) [] s0 0 0 (fun s' v => GI s' ∧ FL [] s0 s' ∧ ∃ z, v = some (vi z) ∧ (0 ≤ z ∧ z ≤ 4) ∧ (z = whyC s0 (fun j => s0 252 j.toNat) a)) := by
  have f0 : FL [] s0 s0 := FL.rf
  show xe none 75 0 [(0, .ref 243), (1, vi a), (2, vi b)] [] s0 0 0 _
  refine x_A k75_0 (fun _ => rfl) ?_
  refine x_getR k75_1 (f := 1) rfl (q := 243) (n := 13) (kd := 13) ⟨by decide, rfl⟩ (q2 := 50) (by decide) rfl ?_
  refine x_getR k75_4 (f := 1) rfl (q := 50) (n := 7) (kd := 6) ⟨by decide, rfl⟩ (q2 := 52) (by decide) rfl ?_
  refine x_A k75_7 (fun _ => rfl) ?_
  refine x_iald k75_8 (q := 52) (n := 120) ⟨by decide, rfl⟩ (by decide) (by first | exact x_rbl b_a rfl rfl | exact ⟨by omega, by omega⟩) ?_
  refine x_top (fun z1 e_z1 => ?_)
  have g_z1 : (0 : Int) ≤ s0 52 a.toNat ∧ s0 52 a.toNat ≤ 39 := hG0 52 a.toNat
  refine x_istore_n k75_9 (ls' := [(3, vi z1), (0, .ref 243), (1, vi a), (2, vi b)]) (by decide) rfl ?_
  refine x_A k75_10 (fun _ => rfl) ?_
  refine x_getR k75_11 (f := 1) rfl (q := 243) (n := 13) (kd := 13) ⟨by decide, rfl⟩ (q2 := 50) (by decide) rfl ?_
  refine x_getR k75_14 (f := 3) rfl (q := 50) (n := 7) (kd := 6) ⟨by decide, rfl⟩ (q2 := 54) (by decide) rfl ?_
  refine x_A k75_17 (fun _ => rfl) ?_
  refine x_iald k75_18 (q := 54) (n := 120) ⟨by decide, rfl⟩ (by decide) (by first | exact x_rbl b_a rfl rfl | exact ⟨by omega, by omega⟩) ?_
  refine x_top (fun z2 e_z2 => ?_)
  have g_z2 : (0 : Int) ≤ s0 54 a.toNat ∧ s0 54 a.toNat ≤ 63 := hG0 54 a.toNat
  refine x_istore k75_19 (ls' := [(4, vi z2), (3, vi z1), (0, .ref 243), (1, vi a), (2, vi b)]) (by decide) rfl ?_
  refine x_A k75_21 (fun _ => rfl) ?_
  refine x_getR k75_22 (f := 0) rfl (q := 243) (n := 13) (kd := 13) ⟨by decide, rfl⟩ (q2 := 1) (by decide) rfl ?_
  refine x_A k75_25 (fun _ => rfl) ?_
  refine x_A k75_26 (fun _ => rfl) ?_
  obtain ⟨z3, e_z3⟩ : ∃ z, z = s0 1 4 := ⟨_, rfl⟩
  have g_z3 : (1 : Int) ≤ s0 1 4 ∧ s0 1 4 ≤ 40 := hG0 1 4
  refine x_callV k75_27 (y := 64) (n := 2) (w0 := 0) (w1 := 2) (as := [vi z1, vi b]) (rest := []) (by decide +kernel) (q := 1) (nq := 5) (kq := 4) ⟨by decide, rfl⟩ rfl rfl rfl rfl (xe_mono (E_X7_isThere_1 s0 hG0 z1 (by first | exact x_rbe e_z1 g_z1 rfl rfl | exact x_rb g_z1 rfl rfl | exact ⟨by omega, by omega⟩) b (by first | exact x_rb b_b rfl rfl | exact ⟨by omega, by omega⟩)) ?_)
  rintro s5 v ⟨h_s5, z4, rfl, hz_z4⟩
  rw [h_s5]
  rcases hz_z4 with ⟨c_z4, e_z4, m_z4⟩ | ⟨e_z4, m_z4⟩
  · rw [e_z4]
    show xe none 75 30 [(4, vi z2), (3, vi z1), (0, .ref 243), (1, vi a), (2, vi b)] [vi 1] s0 0 0 _
    have th : thC s0 b z1 := ⟨by omega, by omega⟩
    refine x_if_ne k75_30 (t := 35) rfl ⟨by decide, by decide⟩ (fun c6 => ?_) (fun c6 => by exfalso; omega)
    refine x_A k75_35 (fun _ => rfl) ?_
    refine x_if_eq k75_37 (t := 63) rfl (by first | exact x_rbe e_z2 g_z2 rfl rfl | exact x_rb g_z2 rfl rfl | exact ⟨by omega, by omega⟩) (fun c7 => ?_) (fun c7 => ?_)
    · skip
      have hno : ¬ noC s0 b z1 z2 := by rw [show z2 = 0 by omega]; exact noC_0
      refine x_A k75_63 (fun _ => rfl) ?_
      refine x_if_eq k75_65 (t := 82) rfl (by first | exact x_rbe e_z2 g_z2 rfl rfl | exact x_rb g_z2 rfl rfl | exact ⟨by omega, by omega⟩) (fun c8 => ?_) (fun c8 => by exfalso; omega)
      have htw : ¬ twC s0 b z2 := by rw [show z2 = 0 by omega]; exact twC_0
      refine x_A k75_82 (fun _ => rfl) ?_
      refine x_getR k75_83 (f := 4) rfl (q := 243) (n := 13) (kd := 13) ⟨by decide, rfl⟩ (q2 := 249) (by decide) rfl ?_
      refine x_A k75_86 (fun _ => rfl) ?_
      refine x_getR k75_87 (f := 1) rfl (q := 243) (n := 13) (kd := 13) ⟨by decide, rfl⟩ (q2 := 50) (by decide) rfl ?_
      refine x_getR k75_90 (f := 0) rfl (q := 50) (n := 7) (kd := 6) ⟨by decide, rfl⟩ (q2 := 51) (by decide) rfl ?_
      refine x_A k75_93 (fun _ => rfl) ?_
      refine x_iald k75_94 (q := 51) (n := 120) ⟨by decide, rfl⟩ (by decide) (by first | exact x_rbl b_a rfl rfl | exact ⟨by omega, by omega⟩) ?_
      refine x_top (fun z9 e_z9 => ?_)
      have g_z9 : (0 : Int) ≤ s0 51 a.toNat ∧ s0 51 a.toNat ≤ 39 := hG0 51 a.toNat
      refine x_iald k75_95 (q := 249) (n := 40) ⟨by decide, rfl⟩ (by decide) (by first | exact x_rbel e_z9 g_z9 rfl rfl | exact x_rbl g_z9 rfl rfl | exact ⟨by omega, by omega⟩) ?_
      refine x_top (fun z10 e_z10 => ?_)
      have g_z10 : (-2147483648) ≤ s0 249 z9.toNat ∧ s0 249 z9.toNat ≤ 2147483647 := hG0 249 z9.toNat
      refine x_A k75_96 (fun _ => rfl) ?_
      refine x_getR k75_97 (f := 3) rfl (q := 243) (n := 13) (kd := 13) ⟨by decide, rfl⟩ (q2 := 244) (by decide) rfl ?_
      refine x_getI k75_100 (f := 0) rfl (q := 244) (n := 8) (kd := 14) ⟨by decide, rfl⟩ (by decide) rfl ?_
      refine x_top (fun z11 e_z11 => ?_)
      have g_z11 : (-2147483648) ≤ s0 244 0 ∧ s0 244 0 ≤ 2147483647 := hG0 244 0
      refine x_ic_lt k75_103 (t := 108) rfl (by first | exact x_rbe e_z10 g_z10 rfl rfl | exact x_rb g_z10 rfl rfl | exact ⟨by omega, by omega⟩) (by first | exact x_rbe e_z11 g_z11 rfl rfl | exact x_rb g_z11 rfl rfl | exact ⟨by omega, by omega⟩) (fun c12 => ?_) (fun c12 => ?_)
      · skip
        refine x_A k75_108 (fun _ => rfl) ?_
        exact x_iret k75_109 rfl ⟨hG0, f0, 0, rfl, ⟨by decide, by decide⟩, ((why_4 (w := fun j => s0 252 j.toNat) (n := z10) (mo := z11) pb e_z1 e_z2 th hno htw (by rw [← e_z10.symm, ← e_z9]; exact pr z9 (by omega) (by omega)) (by have q := pF.fos.2.1; show z11 = moC s0 b; unfold moC; rw [← q]; omega)).2 (by omega)).symm⟩
      · skip
        refine x_A k75_106 (fun _ => rfl) ?_
        exact x_iret k75_107 rfl ⟨hG0, f0, 4, rfl, ⟨by decide, by decide⟩, ((why_4 (w := fun j => s0 252 j.toNat) (n := z10) (mo := z11) pb e_z1 e_z2 th hno htw (by rw [← e_z10.symm, ← e_z9]; exact pr z9 (by omega) (by omega)) (by have q := pF.fos.2.1; show z11 = moC s0 b; unfold moC; rw [← q]; omega)).1 (by omega)).symm⟩
    · skip
      refine x_A k75_40 (fun _ => rfl) ?_
      refine x_getR k75_41 (f := 3) rfl (q := 243) (n := 13) (kd := 13) ⟨by decide, rfl⟩ (q2 := 244) (by decide) rfl ?_
      refine x_A k75_44 (fun _ => rfl) ?_
      refine x_A k75_46 (fun _ => rfl) ?_
      refine x_getR k75_47 (f := 0) rfl (q := 243) (n := 13) (kd := 13) ⟨by decide, rfl⟩ (q2 := 1) (by decide) rfl ?_
      refine x_A k75_50 (fun _ => rfl) ?_
      refine x_A k75_51 (fun _ => rfl) ?_
      refine x_callV k75_52 (y := 65) (n := 2) (w0 := 2) (w1 := 2) (as := [vi z1, vi b]) (rest := [vi z2, .ref 244]) (by decide +kernel) (q := 1) (nq := 5) (kq := 4) ⟨by decide, rfl⟩ rfl rfl rfl rfl (xe_mono (E_X7_pathUp_1 s0 hG0 z1 (by first | exact x_rbe e_z1 g_z1 rfl rfl | exact x_rb g_z1 rfl rfl | exact ⟨by omega, by omega⟩) b (by first | exact x_rb b_b rfl rfl | exact ⟨by omega, by omega⟩)) ?_)
      rintro s14 v ⟨-, t_s14, z13, rfl, b_z13, xp_z13⟩
      rw [t_s14.nil]
      try rw [t_s14.nil] at xp_z13
      show xe none 75 55 [(4, vi z2), (3, vi z1), (0, .ref 243), (1, vi a), (2, vi b)] [vj z13, vi z2, .ref 244] s0 0 0 _
      refine x_callV k75_55 (y := 20) (n := 2) (w0 := 0) (w1 := 3) (as := [vi z2, vj z13]) (rest := []) (by decide +kernel) (q := 244) (nq := 8) (kq := 14) ⟨by decide, rfl⟩ rfl rfl rfl rfl (xe_mono (E_X1_disallows_244 s0 hG0 z2 (by first | exact x_rbe e_z2 g_z2 rfl rfl | exact x_rb g_z2 rfl rfl | exact ⟨by omega, by omega⟩) z13 b_z13) ?_)
      rintro s16 v ⟨-, t_s16, z15, rfl, g_z15, xp_z15⟩
      rw [t_s16.nil]
      try rw [t_s16.nil] at xp_z15
      show xe none 75 58 [(4, vi z2), (3, vi z1), (0, .ref 243), (1, vi a), (2, vi b)] [vi z15] s0 0 0 _
      have dn : dsF s0 244 z2 _ ↔ noC s0 b z1 z2 := dsF.no pF hG0 (Or.inr rfl) xp_z13
      refine x_if_eq k75_58 (t := 63) rfl (by first | exact x_rbe e_z15 g_z15 rfl rfl | exact x_rb g_z15 rfl rfl | exact ⟨by omega, by omega⟩) (fun c17 => ?_) (fun c17 => ?_)
      · skip
        have hno : ¬ noC s0 b z1 z2 := fun q => (xp_z15.resolve_left (fun w => by omega)).2 (dn.mpr q)
        refine x_A k75_63 (fun _ => rfl) ?_
        refine x_if_eq k75_65 (t := 82) rfl (by first | exact x_rbe e_z2 g_z2 rfl rfl | exact x_rb g_z2 rfl rfl | exact ⟨by omega, by omega⟩) (fun c18 => by exfalso; omega) (fun c18 => ?_)
        refine x_A k75_68 (fun _ => rfl) ?_
        refine x_getR k75_69 (f := 3) rfl (q := 243) (n := 13) (kd := 13) ⟨by decide, rfl⟩ (q2 := 244) (by decide) rfl ?_
        refine x_A k75_72 (fun _ => rfl) ?_
        refine x_callV k75_74 (y := 21) (n := 1) (w0 := 0) (w1 := 1) (as := [vi z2]) (rest := []) (by decide +kernel) (q := 244) (nq := 8) (kq := 14) ⟨by decide, rfl⟩ rfl rfl rfl rfl (xe_mono (E_X1_barsTwo_244 s0 hG0 z2 (by first | exact x_rbe e_z2 g_z2 rfl rfl | exact x_rb g_z2 rfl rfl | exact ⟨by omega, by omega⟩)) ?_)
        rintro s20 v ⟨-, t_s20, z19, rfl, g_z19, xp_z19⟩
        rw [t_s20.nil]
        try rw [t_s20.nil] at xp_z19
        show xe none 75 77 [(4, vi z2), (3, vi z1), (0, .ref 243), (1, vi a), (2, vi b)] [vi z19] s0 0 0 _
        refine x_if_eq k75_77 (t := 82) rfl (by first | exact x_rbe e_z19 g_z19 rfl rfl | exact x_rb g_z19 rfl rfl | exact ⟨by omega, by omega⟩) (fun c21 => ?_) (fun c21 => ?_)
        · skip
          have htw : ¬ twC s0 b z2 := fun q => (xp_z19.resolve_left (fun w => by omega)).2 ((bsF.tw pF).mpr q)
          refine x_A k75_82 (fun _ => rfl) ?_
          refine x_getR k75_83 (f := 4) rfl (q := 243) (n := 13) (kd := 13) ⟨by decide, rfl⟩ (q2 := 249) (by decide) rfl ?_
          refine x_A k75_86 (fun _ => rfl) ?_
          refine x_getR k75_87 (f := 1) rfl (q := 243) (n := 13) (kd := 13) ⟨by decide, rfl⟩ (q2 := 50) (by decide) rfl ?_
          refine x_getR k75_90 (f := 0) rfl (q := 50) (n := 7) (kd := 6) ⟨by decide, rfl⟩ (q2 := 51) (by decide) rfl ?_
          refine x_A k75_93 (fun _ => rfl) ?_
          refine x_iald k75_94 (q := 51) (n := 120) ⟨by decide, rfl⟩ (by decide) (by first | exact x_rbl b_a rfl rfl | exact ⟨by omega, by omega⟩) ?_
          refine x_top (fun z22 e_z22 => ?_)
          have g_z22 : (0 : Int) ≤ s0 51 a.toNat ∧ s0 51 a.toNat ≤ 39 := hG0 51 a.toNat
          refine x_iald k75_95 (q := 249) (n := 40) ⟨by decide, rfl⟩ (by decide) (by first | exact x_rbel e_z22 g_z22 rfl rfl | exact x_rbl g_z22 rfl rfl | exact ⟨by omega, by omega⟩) ?_
          refine x_top (fun z23 e_z23 => ?_)
          have g_z23 : (-2147483648) ≤ s0 249 z22.toNat ∧ s0 249 z22.toNat ≤ 2147483647 := hG0 249 z22.toNat
          refine x_A k75_96 (fun _ => rfl) ?_
          refine x_getR k75_97 (f := 3) rfl (q := 243) (n := 13) (kd := 13) ⟨by decide, rfl⟩ (q2 := 244) (by decide) rfl ?_
          refine x_getI k75_100 (f := 0) rfl (q := 244) (n := 8) (kd := 14) ⟨by decide, rfl⟩ (by decide) rfl ?_
          refine x_top (fun z24 e_z24 => ?_)
          have g_z24 : (-2147483648) ≤ s0 244 0 ∧ s0 244 0 ≤ 2147483647 := hG0 244 0
          refine x_ic_lt k75_103 (t := 108) rfl (by first | exact x_rbe e_z23 g_z23 rfl rfl | exact x_rb g_z23 rfl rfl | exact ⟨by omega, by omega⟩) (by first | exact x_rbe e_z24 g_z24 rfl rfl | exact x_rb g_z24 rfl rfl | exact ⟨by omega, by omega⟩) (fun c25 => ?_) (fun c25 => ?_)
          · skip
            refine x_A k75_108 (fun _ => rfl) ?_
            exact x_iret k75_109 rfl ⟨hG0, f0, 0, rfl, ⟨by decide, by decide⟩, ((why_4 (w := fun j => s0 252 j.toNat) (n := z23) (mo := z24) pb e_z1 e_z2 th hno htw (by rw [← e_z23.symm, ← e_z22]; exact pr z22 (by omega) (by omega)) (by have q := pF.fos.2.1; show z24 = moC s0 b; unfold moC; rw [← q]; omega)).2 (by omega)).symm⟩
          · skip
            refine x_A k75_106 (fun _ => rfl) ?_
            exact x_iret k75_107 rfl ⟨hG0, f0, 4, rfl, ⟨by decide, by decide⟩, ((why_4 (w := fun j => s0 252 j.toNat) (n := z23) (mo := z24) pb e_z1 e_z2 th hno htw (by rw [← e_z23.symm, ← e_z22]; exact pr z22 (by omega) (by omega)) (by have q := pF.fos.2.1; show z24 = moC s0 b; unfold moC; rw [← q]; omega)).1 (by omega)).symm⟩
        · skip
          refine x_A k75_80 (fun _ => rfl) ?_
          exact x_iret k75_81 rfl ⟨hG0, f0, 3, rfl, ⟨by decide, by decide⟩, (why_3 (w := fun j => s0 252 j.toNat) pb e_z1 e_z2 th hno ((bsF.tw pF).mp (xp_z19.resolve_right (fun w => by omega)).2)).symm⟩
      · skip
        refine x_A k75_61 (fun _ => rfl) ?_
        exact x_iret k75_62 rfl ⟨hG0, f0, 2, rfl, ⟨by decide, by decide⟩, (why_2 (w := fun j => s0 252 j.toNat) pb e_z1 e_z2 th (dn.mp (xp_z15.resolve_right (fun w => by omega)).2)).symm⟩
  · rw [e_z4]
    show xe none 75 30 [(4, vi z2), (3, vi z1), (0, .ref 243), (1, vi a), (2, vi b)] [vi 0] s0 0 0 _
    have nth : ¬ thC s0 b z1 := fun q => m_z4 ⟨q.1.1, q.1.2, q.2⟩
    refine x_if_ne k75_30 (t := 35) rfl ⟨by decide, by decide⟩ (fun c26 => by exfalso; omega) (fun c26 => ?_)
    refine x_A k75_33 (fun _ => rfl) ?_
    exact x_iret k75_34 rfl ⟨hG0, f0, 1, rfl, ⟨by decide, by decide⟩, (why_1 (keys := 0) (w := fun j => s0 252 j.toNat) pb e_z1 nth).symm⟩
set_option maxHeartbeats 8000000 in
theorem L_E249_J7_fill_53178_249_c0_5 (s0 : xS)   : ∀ (n : Nat) (s : xS) (x1 : Int) (x2 : Int) (x3 : Int) (hG : GI s) (f : FL [3648] s0 s) (b_x1 : 0 ≤ x1 ∧ x1 ≤ 0) (b_x2 : 0 ≤ x2 ∧ x2 ≤ 40) (b_x3 : 40 ≤ x3 ∧ x3 ≤ 40) (r_3_2 : x3 ≤ x2 + 40) (r_3_1 : x3 ≤ x1 + 40) (r_1_3 : x1 ≤ x3 + (-40)) (r_1_2 : x1 ≤ x2 + 0) (w_0 : x3 = 40) (w_1 : x1 = 0) (w_2 : ∀ j : Nat, (j : Int) < x2 → s 249 j = 0)  (hm : (40 - x2) < (n : Int)), xe none 229 5 [(0, .ref 249), (1, vi x1), (2, vi x2), (3, vi x3)] [] s 0 0 (fun s' v => GI s' ∧ FL [3648] s0 s' ∧ v = none ∧ (∀ j : Nat, (j : Int) < 40 → s' 249 j = 0)) := by
  intro n
  induction n with
  | zero => intro s x1 x2 x3 hG f b_x1 b_x2 b_x3 r_3_2 r_3_1 r_1_3 r_1_2 w_0 w_1 w_2  hm; exfalso; omega
  | succ n ih =>
    intro s x1 x2 x3 hG f b_x1 b_x2 b_x3 r_3_2 r_3_1 r_1_3 r_1_2 w_0 w_1 w_2  hm
    refine x_A k229_5 (fun _ => rfl) ?_
    refine x_A k229_6 (fun _ => rfl) ?_
    refine x_ic_ge k229_7 (t := 20) rfl (by first | exact x_rb b_x2 rfl rfl | exact ⟨by omega, by omega⟩) (by first | exact x_rb b_x3 rfl rfl | exact ⟨by omega, by omega⟩) (fun c56 => ?_) (fun c56 => ?_)
    · skip
      exact x_vret k229_20 rfl ⟨hG, f, rfl, (fun j hj => w_2 j (by omega))⟩
    · skip
      refine x_A k229_10 (fun _ => rfl) ?_
      refine x_A k229_11 (fun _ => rfl) ?_
      refine x_A k229_12 (fun _ => rfl) ?_
      refine x_iast k229_13 (q := 249) (n := 40) ⟨by decide, rfl⟩ (by decide) (by first | exact x_rbl b_x2 rfl rfl | exact ⟨by omega, by omega⟩) ?_
      refine x_nh (fun s57 e_s57 => ?_)
      have hG_s57 : GI s57 := by rw [e_s57]; exact hG.up (show (-2147483648) ≤ x1 ∧ x1 ≤ 2147483647 from (by first | exact x_rb b_x1 rfl rfl | exact ⟨by omega, by omega⟩))
      have f_s57 : FL [3648] s0 s57 := by rw [e_s57]; exact f.up (show 3648 ∈ [3648] from by decide)
      have q58 : s57 249 x2.toNat = x1 := by rw [e_s57]; exact x_up_same
      refine x_iinc k229_14 (ls' := [(2, vi (x2 + 1)), (0, .ref 249), (1, vi x1), (3, vi x3)]) rfl (by decide) rfl ?_
      refine x_goto k229_17 (t := 5) rfl ?_
      refine x_ls (l := [(0, .ref 249), (1, vi x1), (2, vi (x2 + 1)), (3, vi x3)]) (show ([0, 1, 2, 3] : List Nat).Nodup from by decide) ⟨rfl, rfl, rfl, rfl, trivial⟩ ?_
      exact ih s57 x1 (x2 + 1) x3 hG_s57 f_s57 (by first | exact x_rb b_x1 rfl rfl | exact ⟨by omega, by omega⟩) ⟨by omega, by omega⟩ (by first | exact x_rb b_x3 rfl rfl | exact ⟨by omega, by omega⟩) (by omega) (by omega) (by omega) (by omega) (by omega) (by omega) (by rw [e_s57, show x1 = 0 by omega]; exact fl_z w_2 (by omega))  (by omega)
set_option maxHeartbeats 8000000 in
theorem E249_J7_fill_53178_249_c0 (s0 : xS) (hG0 : GI s0) (a : Int) (b_a : 0 ≤ a ∧ a ≤ 0) : xe none 229 0 (lv_args 0 [.ref 249, vi a]) [] s0 0 0 (fun s' v => GI s' ∧ FL [3648] s0 s' ∧ v = none ∧ (∀ j : Nat, (j : Int) < 40 → s' 249 j = 0)) := by
  have f0 : FL [3648] s0 s0 := FL.rf
  show xe none 229 0 [(0, .ref 249), (1, vi a)] [] s0 0 0 _
  refine x_A k229_0 (fun _ => rfl) ?_
  refine x_istore_n k229_1 (ls' := [(2, vi 0), (0, .ref 249), (1, vi a)]) (by decide) rfl ?_
  refine x_A k229_2 (fun _ => rfl) ?_
  refine x_alen k229_3 (q := 249) (t := 20) (n := 40) (kd := 0) ⟨by decide, rfl⟩ (by decide) ?_
  refine x_top (fun z59 e_z59 => ?_)
  refine x_istore_n k229_4 (ls' := [(3, vi z59), (2, vi 0), (0, .ref 249), (1, vi a)]) (by decide) rfl ?_
  refine x_ls (l := [(0, .ref 249), (1, vi a), (2, vi 0), (3, vi z59)]) (show ([0, 1, 2, 3] : List Nat).Nodup from by decide) ⟨rfl, rfl, rfl, rfl, trivial⟩ ?_
  exact L_E249_J7_fill_53178_249_c0_5 s0   (((40 - 0) + 1 : Int)).toNat s0 a 0 z59 hG0 f0 (by first | exact x_rb b_a rfl rfl | exact ⟨by omega, by omega⟩) ⟨by decide, by decide⟩ (by first | exact x_rbe e_z59 g_z59 rfl rfl | exact x_rb g_z59 rfl rfl | exact ⟨by omega, by omega⟩) (by omega) (by omega) (by omega) (by omega) (by omega) (by omega) (fun j hj => by omega)  (by omega)
