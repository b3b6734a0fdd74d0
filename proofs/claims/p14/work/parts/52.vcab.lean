set_option maxHeartbeats 8000000 in
theorem L_E_X8_judge_243_25 (s0 : xS) (hJ0 : J s0) (hG0 : GI s0) (pR : R1 s0) (pv : s0 243 11 ≠ 0 → VJ s0 s0)  : ∀ (n : Nat) (s : xS) (x1 : Int) (x2 : Int) (x1000 : Int) (x1001 : Int) (hG : GI s) (f : FL [3329, 3334, 3335, 3336, 3392, 3456, 3520, 3584, 3276, 3648, 3712, 3776, 3840] s0 s) (b_x1 : (-1) ≤ x1 ∧ x1 ≤ 9) (b_x2 : 0 ≤ x2 ∧ x2 ≤ 120) (b_x1000 : 0 ≤ x1000 ∧ x1000 ≤ 120) (b_x1001 : 1 ≤ x1001 ∧ x1001 ≤ 1) (r_1001_2 : x1001 ≤ x2 + 1) (r_1001_1 : x1001 ≤ x1 + 2) (r_2_1000 : x2 ≤ x1000 + 0) (w_0 : x1000 = s0 50 6 ∧ x2 ≤ x1000 ∧ -1 ≤ x1) (w_1 : x1001 = 1) (w_2 : 0 ≤ x1 → Fo s s0 244 x1) (w_3 : VJn s s0 x2) (w_4 : RTn s s0 x2) (e_x1000 : x1000 = s 50 6) (e_x1001 : x1001 = s 243 11)  (hm : (120 - x2) < (n : Int)), xe none 74 25 [(0, .ref 243), (1, vi x1), (2, vi x2)] [] s 0 0 (fun s' v => GI s' ∧ FL [3329, 3334, 3335, 3336, 3392, 3456, 3520, 3584, 3276, 3648, 3712, 3776, 3840] s0 s' ∧ v = none ∧ (VJ s' s0 ∧ s' 243 11 ≠ 0)) := by
  intro n
  induction n with
  | zero => intro s x1 x2 x1000 x1001 hG f b_x1 b_x2 b_x1000 b_x1001 r_1001_2 r_1001_1 r_2_1000 w_0 w_1 w_2 w_3 w_4 e_x1000 e_x1001  hm; exfalso; omega
  | succ n ih =>
    intro s x1 x2 x1000 x1001 hG f b_x1 b_x2 b_x1000 b_x1001 r_1001_2 r_1001_1 r_2_1000 w_0 w_1 w_2 w_3 w_4 e_x1000 e_x1001  hm
    refine x_A k74_25 (fun _ => rfl) ?_
    refine x_A k74_26 (fun _ => rfl) ?_
    refine x_getR k74_27 (f := 1) rfl (q := 243) (n := 13) (kd := 13) ⟨by decide, rfl⟩ (q2 := 50) (by decide) rfl ?_
    refine x_getI k74_30 (f := 6) rfl (q := 50) (n := 7) (kd := 6) ⟨by decide, rfl⟩ (by decide) rfl ?_
    refine x_rw (e_x1000.symm) ?_
    refine x_ic_ge k74_33 (t := 175) rfl (by first | exact x_rb b_x2 rfl rfl | exact ⟨by omega, by omega⟩) (by first | exact x_rb b_x1000 rfl rfl | exact ⟨by omega, by omega⟩) (fun c4447 => ?_) (fun c4447 => ?_)
    · skip
      exact x_vret k74_175 rfl ⟨hG, f, rfl, ⟨fun g g0 g1 => w_3 g g0 (by omega), by omega⟩⟩
    · skip
      refine x_A k74_36 (fun _ => rfl) ?_
      refine x_getR k74_37 (f := 1) rfl (q := 243) (n := 13) (kd := 13) ⟨by decide, rfl⟩ (q2 := 50) (by decide) rfl ?_
      refine x_getR k74_40 (f := 4) rfl (q := 50) (n := 7) (kd := 6) ⟨by decide, rfl⟩ (q2 := 55) (by decide) rfl ?_
      refine x_A k74_43 (fun _ => rfl) ?_
      refine x_iald k74_44 (q := 55) (n := 120) ⟨by decide, rfl⟩ (by decide) (by first | exact x_rbl b_x2 rfl rfl | exact ⟨by omega, by omega⟩) ?_
      refine x_top (fun z4448 e_z4448 => ?_)
      have g_z4448 : (0 : Int) ≤ s 55 x2.toNat ∧ s 55 x2.toNat ≤ 9 := hG 55 x2.toNat
      refine x_istore_n k74_45 (ls' := [(3, vi z4448), (0, .ref 243), (1, vi x1), (2, vi x2)]) (by decide) rfl ?_
      refine x_A k74_46 (fun _ => rfl) ?_
      refine x_A k74_47 (fun _ => rfl) ?_
      refine x_ic_eq k74_48 (t := 63) rfl (by first | exact x_rbe e_z4448 g_z4448 rfl rfl | exact x_rb g_z4448 rfl rfl | exact ⟨by omega, by omega⟩) (by first | exact x_rb b_x1 rfl rfl | exact ⟨by omega, by omega⟩) (fun c4449 => ?_) (fun c4449 => ?_)
      · skip
        have fo_ : Fo s s0 244 z4448 := by have w := w_2 (by omega); rw [show x1 = z4448 by omega] at w; exact w
        refine x_A k74_63 (fun _ => rfl) ?_
        refine x_istore_n k74_64 (ls' := [(1, vi z4448), (3, vi z4448), (0, .ref 243), (2, vi x2)]) (by decide) rfl ?_
        refine x_A k74_65 (fun _ => rfl) ?_
        refine x_getR k74_66 (f := 7) rfl (q := 243) (n := 13) (kd := 13) ⟨by decide, rfl⟩ (q2 := 252) (by decide) rfl ?_
        refine x_A k74_69 (fun _ => rfl) ?_
        have ve_ : VE s s0 := FL.ve f hG0 (by decide)
        have e51_ : s 51 = s0 51 := ve_.2.2.2.2.1
        refine x_A k74_70 (fun _ => rfl) ?_
        refine x_A k74_71 (fun _ => rfl) ?_
        refine x_A k74_72 (fun _ => rfl) ?_
        refine x_callV k74_73 (y := 75) (n := 2) (w0 := 2) (w1 := 2) (as := [vi x2, vi z4448]) (rest := [vi x2, .ref 252]) (by decide +kernel) (q := 243) (nq := 13) (kq := 13) ⟨by decide, rfl⟩ rfl rfl rfl rfl (xe_mono (E_X8_whyWrong_243 s hG x2 (by first | exact x_rb b_x2 rfl rfl | exact ⟨by omega, by omega⟩) z4448 (by first | exact x_rbe e_z4448 g_z4448 rfl rfl | exact x_rb g_z4448 rfl rfl | exact ⟨by omega, by omega⟩) (e_z4448.symm).symm (Fo.ve fo_ ve_.sy) (RTn.pr w_4 w_3 e51_)) ?_)
        rintro s4451 v ⟨-, t_s4451, z4450, rfl, g_z4450, xp_z4450⟩
        rw [t_s4451.nil]
        try rw [t_s4451.nil] at xp_z4450
        show xe none 74 76 [(1, vi z4448), (3, vi z4448), (0, .ref 243), (2, vi x2)] [vi z4450, vi x2, .ref 252] s 0 0 _
        have ew_ : z4450 = wrC s0 x2 := xp_z4450.trans (why_wr ve_ w_3 (by omega))
        refine x_iast k74_76 (q := 252) (n := 120) ⟨by decide, rfl⟩ (by decide) (by first | exact x_rbl b_x2 rfl rfl | exact ⟨by omega, by omega⟩) ?_
        refine x_nh (fun s4452 e_s4452 => ?_)
        have hG_s4452 : GI s4452 := by rw [e_s4452]; exact hG.up (show 0 ≤ z4450 ∧ z4450 ≤ 4 from (by first | exact x_rbe e_z4450 g_z4450 rfl rfl | exact x_rb g_z4450 rfl rfl | exact ⟨by omega, by omega⟩))
        have f_s4452 : FL [3329, 3334, 3335, 3336, 3392, 3456, 3520, 3584, 3276, 3648, 3712, 3776, 3840] s0 s4452 := by rw [e_s4452]; exact f.up (show 3840 ∈ [3329, 3334, 3335, 3336, 3392, 3456, 3520, 3584, 3276, 3648, 3712, 3776, 3840] from by decide)
        have q4453 : s4452 50 6 = x1000 := by rw [e_s4452, x_up_q (by decide)]; exact e_x1000.symm
        have q4454 : s4452 243 11 = x1001 := by rw [e_s4452, x_up_q (by decide)]; exact e_x1001.symm
        have q4455 : s4452 55 x2.toNat = z4448 := by rw [e_s4452, x_up_q (by first | decide | omega)]; exact e_z4448.symm
        have q4456 : s4452 252 x2.toNat = z4450 := by rw [e_s4452]; exact x_up_same
        have RTj_s4452 : RTn s4452 s0 x2 := by rw [e_s4452]; exact RTn.up w_4 (show 3840 ∉ [3648] from by decide)
        have FOj_s4452 : Fo s4452 s0 244 z4448 := by rw [e_s4452]; exact Fo.up fo_ (show 3840 ∉ LFO from by decide)
        refine x_A k74_77 (fun _ => rfl) ?_
        refine x_getR k74_78 (f := 1) rfl (q := 243) (n := 13) (kd := 13) ⟨by decide, rfl⟩ (q2 := 50) (by decide) rfl ?_
        refine x_getR k74_81 (f := 3) rfl (q := 50) (n := 7) (kd := 6) ⟨by decide, rfl⟩ (q2 := 54) (by decide) rfl ?_
        refine x_A k74_84 (fun _ => rfl) ?_
        refine x_iald k74_85 (q := 54) (n := 120) ⟨by decide, rfl⟩ (by decide) (by first | exact x_rbl b_x2 rfl rfl | exact ⟨by omega, by omega⟩) ?_
        refine x_top (fun z4457 e_z4457 => ?_)
        have g_z4457 : (0 : Int) ≤ s4452 54 x2.toNat ∧ s4452 54 x2.toNat ≤ 63 := hG_s4452 54 x2.toNat
        refine x_istore k74_86 (ls' := [(4, vi z4457), (1, vi z4448), (3, vi z4448), (0, .ref 243), (2, vi x2)]) (by decide) rfl ?_
        refine x_A k74_88 (fun _ => rfl) ?_
        refine x_getR k74_89 (f := 5) rfl (q := 243) (n := 13) (kd := 13) ⟨by decide, rfl⟩ (q2 := 250) (by decide) rfl ?_
        refine x_A k74_92 (fun _ => rfl) ?_
        refine x_A k74_93 (fun _ => rfl) ?_
        refine x_if_eq k74_95 (t := 115) rfl (by first | exact x_rbe e_z4457 g_z4457 rfl rfl | exact x_rb g_z4457 rfl rfl | exact ⟨by omega, by omega⟩) (fun c4458 => ?_) (fun c4458 => ?_)
        · skip
          refine x_A k74_115 (fun _ => rfl) ?_
          have k54_ : s0 54 x2.toNat = z4457 := by rw [← f_s4452 54 _ (show 960 ∉ [3329, 3334, 3335, 3336, 3392, 3456, 3520, 3584, 3276, 3648, 3712, 3776, 3840] from by decide)]; exact e_z4457.symm
          have k55_ : s0 55 x2.toNat = z4448 := by rw [← f_s4452 55 _ (show 1024 ∉ [3329, 3334, 3335, 3336, 3392, 3456, 3520, 3584, 3276, 3648, 3712, 3776, 3840] from by decide)]; exact q4455
          have et_ : (0 : Int) = 1 ↔ tuC s0 x2 := ⟨fun q => by omega, fun ⟨i, _, q, _⟩ => by rw [k54_, show z4457 = 0 by omega] at q; exact (bi_z0 q).elim⟩
          refine x_bast k74_116 (q := 250) (n := 120) ⟨by decide, rfl⟩ (by decide) (by first | exact x_rbl b_x2 rfl rfl | exact ⟨by omega, by omega⟩) ⟨by omega, by omega⟩ ?_
          refine x_nh (fun s4459 e_s4459 => ?_)
          have hG_s4459 : GI s4459 := by rw [e_s4459]; exact hG_s4452.up (show 0 ≤ 0 ∧ 0 ≤ 1 from ⟨by decide, by decide⟩)
          have f_s4459 : FL [3329, 3334, 3335, 3336, 3392, 3456, 3520, 3584, 3276, 3648, 3712, 3776, 3840] s0 s4459 := by rw [e_s4459]; exact f_s4452.up (show 3712 ∈ [3329, 3334, 3335, 3336, 3392, 3456, 3520, 3584, 3276, 3648, 3712, 3776, 3840] from by decide)
          have q4460 : s4459 50 6 = x1000 := by rw [e_s4459, x_up_q (by decide)]; exact q4453
          have q4461 : s4459 243 11 = x1001 := by rw [e_s4459, x_up_q (by decide)]; exact q4454
          have q4462 : s4459 55 x2.toNat = z4448 := by rw [e_s4459, x_up_q (by first | decide | omega)]; exact q4455
          have q4463 : s4459 252 x2.toNat = z4450 := by rw [e_s4459, x_up_q (by first | decide | omega)]; exact q4456
          have q4464 : s4459 54 x2.toNat = z4457 := by rw [e_s4459, x_up_q (by first | decide | omega)]; exact e_z4457.symm
          have q4465 : s4459 250 x2.toNat = 0 := by rw [e_s4459]; exact x_up_same
          have RTj_s4459 : RTn s4459 s0 x2 := by rw [e_s4459]; exact RTn.up RTj_s4452 (show 3712 ∉ [3648] from by decide)
          have FOj_s4459 : Fo s4459 s0 244 z4448 := by rw [e_s4459]; exact Fo.up FOj_s4452 (show 3712 ∉ LFO from by decide)
          refine x_A k74_117 (fun _ => rfl) ?_
          refine x_getR k74_118 (f := 6) rfl (q := 243) (n := 13) (kd := 13) ⟨by decide, rfl⟩ (q2 := 251) (by decide) rfl ?_
          refine x_A k74_121 (fun _ => rfl) ?_
          refine x_A k74_122 (fun _ => rfl) ?_
          refine x_if_ne k74_124 (t := 131) rfl (by first | exact x_rbe e_z4457 g_z4457 rfl rfl | exact x_rb g_z4457 rfl rfl | exact ⟨by omega, by omega⟩) (fun c4466 => by exfalso; omega) (fun c4466 => ?_)
          refine x_A k74_127 (fun _ => rfl) ?_
          refine x_goto k74_128 (t := 141) rfl ?_
          have er_ : (0 : Int) = raC s0 x2 := (ctp_0 6 (fun i _ q => by have q1 := q.1; rw [k54_, show z4457 = 0 by omega] at q1; exact (bi_z0 q1).elim)).symm
          refine x_iast k74_141 (q := 251) (n := 120) ⟨by decide, rfl⟩ (by decide) (by first | exact x_rbl b_x2 rfl rfl | exact ⟨by omega, by omega⟩) ?_
          refine x_nh (fun s4467 e_s4467 => ?_)
          have hG_s4467 : GI s4467 := by rw [e_s4467]; exact hG_s4459.up (show 0 ≤ 0 ∧ 0 ≤ 6 from ⟨by decide, by decide⟩)
          have f_s4467 : FL [3329, 3334, 3335, 3336, 3392, 3456, 3520, 3584, 3276, 3648, 3712, 3776, 3840] s0 s4467 := by rw [e_s4467]; exact f_s4459.up (show 3776 ∈ [3329, 3334, 3335, 3336, 3392, 3456, 3520, 3584, 3276, 3648, 3712, 3776, 3840] from by decide)
          have q4468 : s4467 50 6 = x1000 := by rw [e_s4467, x_up_q (by decide)]; exact q4460
          have q4469 : s4467 243 11 = x1001 := by rw [e_s4467, x_up_q (by decide)]; exact q4461
          have q4470 : s4467 55 x2.toNat = z4448 := by rw [e_s4467, x_up_q (by first | decide | omega)]; exact q4462
          have q4471 : s4467 252 x2.toNat = z4450 := by rw [e_s4467, x_up_q (by first | decide | omega)]; exact q4463
          have q4472 : s4467 54 x2.toNat = z4457 := by rw [e_s4467, x_up_q (by first | decide | omega)]; exact q4464
          have q4473 : s4467 250 x2.toNat = 0 := by rw [e_s4467, x_up_q (by first | decide | omega)]; exact q4465
          have q4474 : s4467 251 x2.toNat = 0 := by rw [e_s4467]; exact x_up_same
          have RTj_s4467 : RTn s4467 s0 x2 := by rw [e_s4467]; exact RTn.up RTj_s4459 (show 3776 ∉ [3648] from by decide)
          have FOj_s4467 : Fo s4467 s0 244 z4448 := by rw [e_s4467]; exact Fo.up FOj_s4459 (show 3776 ∉ LFO from by decide)
          refine x_A k74_142 (fun _ => rfl) ?_
          refine x_getR k74_143 (f := 7) rfl (q := 243) (n := 13) (kd := 13) ⟨by decide, rfl⟩ (q2 := 252) (by decide) rfl ?_
          refine x_A k74_146 (fun _ => rfl) ?_
          refine x_iald k74_147 (q := 252) (n := 120) ⟨by decide, rfl⟩ (by decide) (by first | exact x_rbl b_x2 rfl rfl | exact ⟨by omega, by omega⟩) ?_
          refine x_rw (q4471) ?_
          refine x_if_ne k74_148 (t := 169) rfl (by first | exact x_rbe e_z4450 g_z4450 rfl rfl | exact x_rb g_z4450 rfl rfl | exact ⟨by omega, by omega⟩) (fun c4475 => ?_) (fun c4475 => ?_)
          · skip
            refine x_iinc k74_169 (ls' := [(2, vi (x2 + 1)), (4, vi z4457), (1, vi z4448), (3, vi z4448), (0, .ref 243)]) rfl (by decide) rfl ?_
            refine x_goto k74_172 (t := 25) rfl ?_
            refine x_ls (l := [(0, .ref 243), (1, vi z4448), (2, vi (x2 + 1))]) (show ([0, 1, 2] : List Nat).Nodup from by decide) ⟨rfl, rfl, rfl, trivial⟩ ?_
            exact ih s4467 z4448 (x2 + 1) x1000 x1001 hG_s4467 f_s4467 (by first | exact x_rbe e_z4448 g_z4448 rfl rfl | exact x_rb g_z4448 rfl rfl | exact ⟨by omega, by omega⟩) ⟨by omega, by omega⟩ (by first | exact x_rb b_x1000 rfl rfl | exact ⟨by omega, by omega⟩) (by first | exact x_rb b_x1001 rfl rfl | exact ⟨by omega, by omega⟩) (by omega) (by omega) (by omega) (by omega) (by omega) (fun _ => FOj_s4467) (VJn.add (w := z4450) (t := 0) (r := 0) w_3 (by omega) (fun j => by rw [e_s4467, x_up_q (by decide), e_s4459, x_up_at, e_s4452, x_up_q (by decide)]) (fun j => by rw [e_s4467, x_up_at, e_s4459, x_up_q (by decide), e_s4452, x_up_q (by decide)]) (fun j => by rw [e_s4467, x_up_q (by decide), e_s4459, x_up_q (by decide), e_s4452, x_up_at]) ew_ et_ er_) (RTn.no w_4 (by omega) (by omega) (funext fun j => by rw [e_s4467, x_up_q (by decide), e_s4459, x_up_q (by decide), e_s4452, x_up_q (by decide)])) (q4468).symm (q4469).symm  (by omega)
          · skip
            refine x_A k74_151 (fun _ => rfl) ?_
            refine x_getR k74_152 (f := 4) rfl (q := 243) (n := 13) (kd := 13) ⟨by decide, rfl⟩ (q2 := 249) (by decide) rfl ?_
            refine x_A k74_155 (fun _ => rfl) ?_
            refine x_getR k74_156 (f := 1) rfl (q := 243) (n := 13) (kd := 13) ⟨by decide, rfl⟩ (q2 := 50) (by decide) rfl ?_
            refine x_getR k74_159 (f := 0) rfl (q := 50) (n := 7) (kd := 6) ⟨by decide, rfl⟩ (q2 := 51) (by decide) rfl ?_
            refine x_A k74_162 (fun _ => rfl) ?_
            refine x_iald k74_163 (q := 51) (n := 120) ⟨by decide, rfl⟩ (by decide) (by first | exact x_rbl b_x2 rfl rfl | exact ⟨by omega, by omega⟩) ?_
            refine x_top (fun z4476 e_z4476 => ?_)
            have g_z4476 : (0 : Int) ≤ s4467 51 x2.toNat ∧ s4467 51 x2.toNat ≤ 39 := hG_s4467 51 x2.toNat
            refine x_A k74_164 (fun _ => rfl) ?_
            refine x_iald k74_165 (q := 249) (n := 40) ⟨by decide, rfl⟩ (by decide) (by first | exact x_rbel e_z4476 g_z4476 rfl rfl | exact x_rbl g_z4476 rfl rfl | exact ⟨by omega, by omega⟩) ?_
            refine x_top (fun z4477 e_z4477 => ?_)
            have g_z4477 : (-2147483648) ≤ s4467 249 z4476.toNat ∧ s4467 249 z4476.toNat ≤ 2147483647 := hG_s4467 249 z4476.toNat
            have rb_ := RTn.b RTj_s4467 (p := z4476) (by omega) ⟨by omega, by omega⟩
            rw [e_z4477.symm] at rb_
            have p51_ : s0 51 x2.toNat = z4476 := by rw [← f_s4467 51 _ (show 768 ∉ [3329, 3334, 3335, 3336, 3392, 3456, 3520, 3584, 3276, 3648, 3712, 3776, 3840] from by decide)]; exact e_z4476.symm
            have e249_ : s 249 z4476.toNat = z4477 := (show s4467 249 z4476.toNat = s 249 z4476.toNat from by rw [e_s4467, x_up_q (by decide), e_s4459, x_up_q (by decide), e_s4452, x_up_q (by decide)]).symm.trans (e_z4477.symm)
            refine x_A k74_166 (fun _ => rfl) ?_
            refine x_iadd k74_167 ?_
            refine x_top (fun z4478 e_z4478 => ?_)
            refine x_iast k74_168 (q := 249) (n := 40) ⟨by decide, rfl⟩ (by decide) (by first | exact x_rbel e_z4476 g_z4476 rfl rfl | exact x_rbl g_z4476 rfl rfl | exact ⟨by omega, by omega⟩) ?_
            refine x_nh (fun s4479 e_s4479 => ?_)
            have hG_s4479 : GI s4479 := by rw [e_s4479]; exact hG_s4467.up (show (-2147483648) ≤ z4478 ∧ z4478 ≤ 2147483647 from (by first | exact x_rbe e_z4478 g_z4478 rfl rfl | exact x_rb g_z4478 rfl rfl | exact ⟨by omega, by omega⟩))
            have f_s4479 : FL [3329, 3334, 3335, 3336, 3392, 3456, 3520, 3584, 3276, 3648, 3712, 3776, 3840] s0 s4479 := by rw [e_s4479]; exact f_s4467.up (show 3648 ∈ [3329, 3334, 3335, 3336, 3392, 3456, 3520, 3584, 3276, 3648, 3712, 3776, 3840] from by decide)
            have q4480 : s4479 50 6 = x1000 := by rw [e_s4479, x_up_q (by decide)]; exact q4468
            have q4481 : s4479 243 11 = x1001 := by rw [e_s4479, x_up_q (by decide)]; exact q4469
            have q4482 : s4479 55 x2.toNat = z4448 := by rw [e_s4479, x_up_q (by first | decide | omega)]; exact q4470
            have q4483 : s4479 252 x2.toNat = z4450 := by rw [e_s4479, x_up_q (by first | decide | omega)]; exact q4471
            have q4484 : s4479 54 x2.toNat = z4457 := by rw [e_s4479, x_up_q (by first | decide | omega)]; exact q4472
            have q4485 : s4479 250 x2.toNat = 0 := by rw [e_s4479, x_up_q (by first | decide | omega)]; exact q4473
            have q4486 : s4479 251 x2.toNat = 0 := by rw [e_s4479, x_up_q (by first | decide | omega)]; exact q4474
            have q4487 : s4479 51 x2.toNat = z4476 := by rw [e_s4479, x_up_q (by first | decide | omega)]; exact e_z4476.symm
            have q4488 : s4479 249 z4476.toNat = z4478 := by rw [e_s4479]; exact x_up_same
            have FOj_s4479 : Fo s4479 s0 244 z4448 := by rw [e_s4479]; exact Fo.up FOj_s4467 (show 3648 ∉ LFO from by decide)
            refine x_iinc k74_169 (ls' := [(2, vi (x2 + 1)), (4, vi z4457), (1, vi z4448), (3, vi z4448), (0, .ref 243)]) rfl (by decide) rfl ?_
            refine x_goto k74_172 (t := 25) rfl ?_
            refine x_ls (l := [(0, .ref 243), (1, vi z4448), (2, vi (x2 + 1))]) (show ([0, 1, 2] : List Nat).Nodup from by decide) ⟨rfl, rfl, rfl, trivial⟩ ?_
            exact ih s4479 z4448 (x2 + 1) x1000 x1001 hG_s4479 f_s4479 (by first | exact x_rbe e_z4448 g_z4448 rfl rfl | exact x_rb g_z4448 rfl rfl | exact ⟨by omega, by omega⟩) ⟨by omega, by omega⟩ (by first | exact x_rb b_x1000 rfl rfl | exact ⟨by omega, by omega⟩) (by first | exact x_rb b_x1001 rfl rfl | exact ⟨by omega, by omega⟩) (by omega) (by omega) (by omega) (by omega) (by omega) (fun _ => FOj_s4479) (VJn.add (w := z4450) (t := 0) (r := 0) w_3 (by omega) (fun j => by rw [e_s4479, x_up_q (by decide), e_s4467, x_up_q (by decide), e_s4459, x_up_at, e_s4452, x_up_q (by decide)]) (fun j => by rw [e_s4479, x_up_q (by decide), e_s4467, x_up_at, e_s4459, x_up_q (by decide), e_s4452, x_up_q (by decide)]) (fun j => by rw [e_s4479, x_up_q (by decide), e_s4467, x_up_q (by decide), e_s4459, x_up_q (by decide), e_s4452, x_up_at]) ew_ et_ er_) (RTn.yes (p := z4476) w_4 (by omega) (by omega) p51_ (by omega) (fun j => by rw [e_s4479, x_up_at, e_s4467, x_up_q (by decide), e_s4459, x_up_q (by decide), e_s4452, x_up_q (by decide), show s 249 z4476.toNat + 1 = z4478 by omega])) (q4480).symm (q4481).symm  (by omega)
        · skip
          refine x_A k74_98 (fun _ => rfl) ?_
          refine x_getR k74_99 (f := 3) rfl (q := 243) (n := 13) (kd := 13) ⟨by decide, rfl⟩ (q2 := 244) (by decide) rfl ?_
          refine x_A k74_102 (fun _ => rfl) ?_
          refine x_A k74_104 (fun _ => rfl) ?_
          refine x_callV k74_105 (y := 22) (n := 2) (w0 := 2) (w1 := 2) (as := [vi z4457, vi 1]) (rest := [vi x2, .ref 250]) (by decide +kernel) (q := 244) (nq := 8) (kq := 14) ⟨by decide, rfl⟩ rfl rfl rfl rfl (xe_mono (E_X1_countSense_244 s4452 hG_s4452 z4457 (by first | exact x_rbe e_z4457 g_z4457 rfl rfl | exact x_rb g_z4457 rfl rfl | exact ⟨by omega, by omega⟩) 1 ⟨by decide, by decide⟩) ?_)
          rintro s4490 v ⟨-, t_s4490, z4489, rfl, g_z4489, xp_z4489⟩
          rw [t_s4490.nil]
          try rw [t_s4490.nil] at xp_z4489
          show xe none 74 108 [(4, vi z4457), (1, vi z4448), (3, vi z4448), (0, .ref 243), (2, vi x2)] [vi z4489, vi x2, .ref 250] s4452 0 0 _
          refine x_if_le k74_108 (t := 115) rfl (by first | exact x_rbe e_z4489 g_z4489 rfl rfl | exact x_rb g_z4489 rfl rfl | exact ⟨by omega, by omega⟩) (fun c4491 => ?_) (fun c4491 => ?_)
          · skip
            refine x_A k74_115 (fun _ => rfl) ?_
            have k54_ : s0 54 x2.toNat = z4457 := by rw [← f_s4452 54 _ (show 960 ∉ [3329, 3334, 3335, 3336, 3392, 3456, 3520, 3584, 3276, 3648, 3712, 3776, 3840] from by decide)]; exact e_z4457.symm
            have k55_ : s0 55 x2.toNat = z4448 := by rw [← f_s4452 55 _ (show 1024 ∉ [3329, 3334, 3335, 3336, 3392, 3456, 3520, 3584, 3276, 3648, 3712, 3776, 3840] from by decide)]; exact q4455
            have ct_ := (ctp_ge (P := fun i : Nat => bi (s0 54 x2.toNat) i = true ∧ seC s0 (s0 55 x2.toNat) i = 1) 6).2
            have cq_ : ctp (fun i : Nat => bi (s0 54 x2.toNat) i = true ∧ seC s0 (s0 55 x2.toNat) i = 1) 6 = z4489 := by rw [xp_z4489, k54_, k55_]; exact ctp_cg 6 (fun i hi => and_congr Iff.rfl (by show foF s0 z4448 (z4448 + 1).toNat (i : Int) = 1 ↔ _; rw [← FOj_s4452.1 (i : Int) (by omega) (by omega)]; exact Iff.rfl))
            have et_ : (0 : Int) = 1 ↔ tuC s0 x2 := ⟨fun q => ct_.mp (by omega), fun q => by have w := ct_.mpr q; omega⟩
            refine x_bast k74_116 (q := 250) (n := 120) ⟨by decide, rfl⟩ (by decide) (by first | exact x_rbl b_x2 rfl rfl | exact ⟨by omega, by omega⟩) ⟨by omega, by omega⟩ ?_
            refine x_nh (fun s4492 e_s4492 => ?_)
            have hG_s4492 : GI s4492 := by rw [e_s4492]; exact hG_s4452.up (show 0 ≤ 0 ∧ 0 ≤ 1 from ⟨by decide, by decide⟩)
            have f_s4492 : FL [3329, 3334, 3335, 3336, 3392, 3456, 3520, 3584, 3276, 3648, 3712, 3776, 3840] s0 s4492 := by rw [e_s4492]; exact f_s4452.up (show 3712 ∈ [3329, 3334, 3335, 3336, 3392, 3456, 3520, 3584, 3276, 3648, 3712, 3776, 3840] from by decide)
            have q4493 : s4492 50 6 = x1000 := by rw [e_s4492, x_up_q (by decide)]; exact q4453
            have q4494 : s4492 243 11 = x1001 := by rw [e_s4492, x_up_q (by decide)]; exact q4454
            have q4495 : s4492 55 x2.toNat = z4448 := by rw [e_s4492, x_up_q (by first | decide | omega)]; exact q4455
            have q4496 : s4492 252 x2.toNat = z4450 := by rw [e_s4492, x_up_q (by first | decide | omega)]; exact q4456
            have q4497 : s4492 54 x2.toNat = z4457 := by rw [e_s4492, x_up_q (by first | decide | omega)]; exact e_z4457.symm
            have q4498 : s4492 250 x2.toNat = 0 := by rw [e_s4492]; exact x_up_same
            have RTj_s4492 : RTn s4492 s0 x2 := by rw [e_s4492]; exact RTn.up RTj_s4452 (show 3712 ∉ [3648] from by decide)
            have FOj_s4492 : Fo s4492 s0 244 z4448 := by rw [e_s4492]; exact Fo.up FOj_s4452 (show 3712 ∉ LFO from by decide)
            refine x_A k74_117 (fun _ => rfl) ?_
            refine x_getR k74_118 (f := 6) rfl (q := 243) (n := 13) (kd := 13) ⟨by decide, rfl⟩ (q2 := 251) (by decide) rfl ?_
            refine x_A k74_121 (fun _ => rfl) ?_
            refine x_A k74_122 (fun _ => rfl) ?_
            refine x_if_ne k74_124 (t := 131) rfl (by first | exact x_rbe e_z4457 g_z4457 rfl rfl | exact x_rb g_z4457 rfl rfl | exact ⟨by omega, by omega⟩) (fun c4499 => ?_) (fun c4499 => by exfalso; omega)
            refine x_A k74_131 (fun _ => rfl) ?_
            refine x_getR k74_132 (f := 3) rfl (q := 243) (n := 13) (kd := 13) ⟨by decide, rfl⟩ (q2 := 244) (by decide) rfl ?_
            refine x_A k74_135 (fun _ => rfl) ?_
            refine x_A k74_137 (fun _ => rfl) ?_
            refine x_callV k74_138 (y := 22) (n := 2) (w0 := 2) (w1 := 2) (as := [vi z4457, vi 2]) (rest := [vi x2, .ref 251]) (by decide +kernel) (q := 244) (nq := 8) (kq := 14) ⟨by decide, rfl⟩ rfl rfl rfl rfl (xe_mono (E_X1_countSense_244 s4492 hG_s4492 z4457 (by first | exact x_rbe e_z4457 g_z4457 rfl rfl | exact x_rb g_z4457 rfl rfl | exact ⟨by omega, by omega⟩) 2 ⟨by decide, by decide⟩) ?_)
            rintro s4501 v ⟨-, t_s4501, z4500, rfl, g_z4500, xp_z4500⟩
            rw [t_s4501.nil]
            try rw [t_s4501.nil] at xp_z4500
            show xe none 74 141 [(4, vi z4457), (1, vi z4448), (3, vi z4448), (0, .ref 243), (2, vi x2)] [vi z4500, vi x2, .ref 251] s4492 0 0 _
            have er_ : z4500 = raC s0 x2 := by rw [xp_z4500]; unfold raC; rw [k54_, k55_]; exact ctp_cg 6 (fun i hi => and_congr Iff.rfl (by show _ ↔ foF s0 z4448 (z4448 + 1).toNat (i : Int) = 2; rw [← FOj_s4492.1 (i : Int) (by omega) (by omega)]; exact Iff.rfl))
            refine x_iast k74_141 (q := 251) (n := 120) ⟨by decide, rfl⟩ (by decide) (by first | exact x_rbl b_x2 rfl rfl | exact ⟨by omega, by omega⟩) ?_
            refine x_nh (fun s4502 e_s4502 => ?_)
            have hG_s4502 : GI s4502 := by rw [e_s4502]; exact hG_s4492.up (show 0 ≤ z4500 ∧ z4500 ≤ 6 from (by first | exact x_rbe e_z4500 g_z4500 rfl rfl | exact x_rb g_z4500 rfl rfl | exact ⟨by omega, by omega⟩))
            have f_s4502 : FL [3329, 3334, 3335, 3336, 3392, 3456, 3520, 3584, 3276, 3648, 3712, 3776, 3840] s0 s4502 := by rw [e_s4502]; exact f_s4492.up (show 3776 ∈ [3329, 3334, 3335, 3336, 3392, 3456, 3520, 3584, 3276, 3648, 3712, 3776, 3840] from by decide)
            have q4503 : s4502 50 6 = x1000 := by rw [e_s4502, x_up_q (by decide)]; exact q4493
            have q4504 : s4502 243 11 = x1001 := by rw [e_s4502, x_up_q (by decide)]; exact q4494
            have q4505 : s4502 55 x2.toNat = z4448 := by rw [e_s4502, x_up_q (by first | decide | omega)]; exact q4495
            have q4506 : s4502 252 x2.toNat = z4450 := by rw [e_s4502, x_up_q (by first | decide | omega)]; exact q4496
            have q4507 : s4502 54 x2.toNat = z4457 := by rw [e_s4502, x_up_q (by first | decide | omega)]; exact q4497
            have q4508 : s4502 250 x2.toNat = 0 := by rw [e_s4502, x_up_q (by first | decide | omega)]; exact q4498
            have q4509 : s4502 251 x2.toNat = z4500 := by rw [e_s4502]; exact x_up_same
            have RTj_s4502 : RTn s4502 s0 x2 := by rw [e_s4502]; exact RTn.up RTj_s4492 (show 3776 ∉ [3648] from by decide)
            have FOj_s4502 : Fo s4502 s0 244 z4448 := by rw [e_s4502]; exact Fo.up FOj_s4492 (show 3776 ∉ LFO from by decide)
            refine x_A k74_142 (fun _ => rfl) ?_
            refine x_getR k74_143 (f := 7) rfl (q := 243) (n := 13) (kd := 13) ⟨by decide, rfl⟩ (q2 := 252) (by decide) rfl ?_
            refine x_A k74_146 (fun _ => rfl) ?_
            refine x_iald k74_147 (q := 252) (n := 120) ⟨by decide, rfl⟩ (by decide) (by first | exact x_rbl b_x2 rfl rfl | exact ⟨by omega, by omega⟩) ?_
            refine x_rw (q4506) ?_
            refine x_if_ne k74_148 (t := 169) rfl (by first | exact x_rbe e_z4450 g_z4450 rfl rfl | exact x_rb g_z4450 rfl rfl | exact ⟨by omega, by omega⟩) (fun c4510 => ?_) (fun c4510 => ?_)
            · skip
              refine x_iinc k74_169 (ls' := [(2, vi (x2 + 1)), (4, vi z4457), (1, vi z4448), (3, vi z4448), (0, .ref 243)]) rfl (by decide) rfl ?_
              refine x_goto k74_172 (t := 25) rfl ?_
              refine x_ls (l := [(0, .ref 243), (1, vi z4448), (2, vi (x2 + 1))]) (show ([0, 1, 2] : List Nat).Nodup from by decide) ⟨rfl, rfl, rfl, trivial⟩ ?_
              exact ih s4502 z4448 (x2 + 1) x1000 x1001 hG_s4502 f_s4502 (by first | exact x_rbe e_z4448 g_z4448 rfl rfl | exact x_rb g_z4448 rfl rfl | exact ⟨by omega, by omega⟩) ⟨by omega, by omega⟩ (by first | exact x_rb b_x1000 rfl rfl | exact ⟨by omega, by omega⟩) (by first | exact x_rb b_x1001 rfl rfl | exact ⟨by omega, by omega⟩) (by omega) (by omega) (by omega) (by omega) (by omega) (fun _ => FOj_s4502) (VJn.add (w := z4450) (t := 0) (r := z4500) w_3 (by omega) (fun j => by rw [e_s4502, x_up_q (by decide), e_s4492, x_up_at, e_s4452, x_up_q (by decide)]) (fun j => by rw [e_s4502, x_up_at, e_s4492, x_up_q (by decide), e_s4452, x_up_q (by decide)]) (fun j => by rw [e_s4502, x_up_q (by decide), e_s4492, x_up_q (by decide), e_s4452, x_up_at]) ew_ et_ er_) (RTn.no w_4 (by omega) (by omega) (funext fun j => by rw [e_s4502, x_up_q (by decide), e_s4492, x_up_q (by decide), e_s4452, x_up_q (by decide)])) (q4503).symm (q4504).symm  (by omega)
            · skip
              refine x_A k74_151 (fun _ => rfl) ?_
              refine x_getR k74_152 (f := 4) rfl (q := 243) (n := 13) (kd := 13) ⟨by decide, rfl⟩ (q2 := 249) (by decide) rfl ?_
              refine x_A k74_155 (fun _ => rfl) ?_
              refine x_getR k74_156 (f := 1) rfl (q := 243) (n := 13) (kd := 13) ⟨by decide, rfl⟩ (q2 := 50) (by decide) rfl ?_
              refine x_getR k74_159 (f := 0) rfl (q := 50) (n := 7) (kd := 6) ⟨by decide, rfl⟩ (q2 := 51) (by decide) rfl ?_
              refine x_A k74_162 (fun _ => rfl) ?_
              refine x_iald k74_163 (q := 51) (n := 120) ⟨by decide, rfl⟩ (by decide) (by first | exact x_rbl b_x2 rfl rfl | exact ⟨by omega, by omega⟩) ?_
              refine x_top (fun z4511 e_z4511 => ?_)
              have g_z4511 : (0 : Int) ≤ s4502 51 x2.toNat ∧ s4502 51 x2.toNat ≤ 39 := hG_s4502 51 x2.toNat
              refine x_A k74_164 (fun _ => rfl) ?_
              refine x_iald k74_165 (q := 249) (n := 40) ⟨by decide, rfl⟩ (by decide) (by first | exact x_rbel e_z4511 g_z4511 rfl rfl | exact x_rbl g_z4511 rfl rfl | exact ⟨by omega, by omega⟩) ?_
              refine x_top (fun z4512 e_z4512 => ?_)
              have g_z4512 : (-2147483648) ≤ s4502 249 z4511.toNat ∧ s4502 249 z4511.toNat ≤ 2147483647 := hG_s4502 249 z4511.toNat
              have rb_ := RTn.b RTj_s4502 (p := z4511) (by omega) ⟨by omega, by omega⟩
              rw [e_z4512.symm] at rb_
              have p51_ : s0 51 x2.toNat = z4511 := by rw [← f_s4502 51 _ (show 768 ∉ [3329, 3334, 3335, 3336, 3392, 3456, 3520, 3584, 3276, 3648, 3712, 3776, 3840] from by decide)]; exact e_z4511.symm
              have e249_ : s 249 z4511.toNat = z4512 := (show s4502 249 z4511.toNat = s 249 z4511.toNat from by rw [e_s4502, x_up_q (by decide), e_s4492, x_up_q (by decide), e_s4452, x_up_q (by decide)]).symm.trans (e_z4512.symm)
              refine x_A k74_166 (fun _ => rfl) ?_
              refine x_iadd k74_167 ?_
              refine x_top (fun z4513 e_z4513 => ?_)
              refine x_iast k74_168 (q := 249) (n := 40) ⟨by decide, rfl⟩ (by decide) (by first | exact x_rbel e_z4511 g_z4511 rfl rfl | exact x_rbl g_z4511 rfl rfl | exact ⟨by omega, by omega⟩) ?_
              refine x_nh (fun s4514 e_s4514 => ?_)
              have hG_s4514 : GI s4514 := by rw [e_s4514]; exact hG_s4502.up (show (-2147483648) ≤ z4513 ∧ z4513 ≤ 2147483647 from (by first | exact x_rbe e_z4513 g_z4513 rfl rfl | exact x_rb g_z4513 rfl rfl | exact ⟨by omega, by omega⟩))
              have f_s4514 : FL [3329, 3334, 3335, 3336, 3392, 3456, 3520, 3584, 3276, 3648, 3712, 3776, 3840] s0 s4514 := by rw [e_s4514]; exact f_s4502.up (show 3648 ∈ [3329, 3334, 3335, 3336, 3392, 3456, 3520, 3584, 3276, 3648, 3712, 3776, 3840] from by decide)
              have q4515 : s4514 50 6 = x1000 := by rw [e_s4514, x_up_q (by decide)]; exact q4503
              have q4516 : s4514 243 11 = x1001 := by rw [e_s4514, x_up_q (by decide)]; exact q4504
              have q4517 : s4514 55 x2.toNat = z4448 := by rw [e_s4514, x_up_q (by first | decide | omega)]; exact q4505
              have q4518 : s4514 252 x2.toNat = z4450 := by rw [e_s4514, x_up_q (by first | decide | omega)]; exact q4506
              have q4519 : s4514 54 x2.toNat = z4457 := by rw [e_s4514, x_up_q (by first | decide | omega)]; exact q4507
              have q4520 : s4514 250 x2.toNat = 0 := by rw [e_s4514, x_up_q (by first | decide | omega)]; exact q4508
              have q4521 : s4514 251 x2.toNat = z4500 := by rw [e_s4514, x_up_q (by first | decide | omega)]; exact q4509
              have q4522 : s4514 51 x2.toNat = z4511 := by rw [e_s4514, x_up_q (by first | decide | omega)]; exact e_z4511.symm
              have q4523 : s4514 249 z4511.toNat = z4513 := by rw [e_s4514]; exact x_up_same
              have FOj_s4514 : Fo s4514 s0 244 z4448 := by rw [e_s4514]; exact Fo.up FOj_s4502 (show 3648 ∉ LFO from by decide)
              refine x_iinc k74_169 (ls' := [(2, vi (x2 + 1)), (4, vi z4457), (1, vi z4448), (3, vi z4448), (0, .ref 243)]) rfl (by decide) rfl ?_
              refine x_goto k74_172 (t := 25) rfl ?_
              refine x_ls (l := [(0, .ref 243), (1, vi z4448), (2, vi (x2 + 1))]) (show ([0, 1, 2] : List Nat).Nodup from by decide) ⟨rfl, rfl, rfl, trivial⟩ ?_
              exact ih s4514 z4448 (x2 + 1) x1000 x1001 hG_s4514 f_s4514 (by first | exact x_rbe e_z4448 g_z4448 rfl rfl | exact x_rb g_z4448 rfl rfl | exact ⟨by omega, by omega⟩) ⟨by omega, by omega⟩ (by first | exact x_rb b_x1000 rfl rfl | exact ⟨by omega, by omega⟩) (by first | exact x_rb b_x1001 rfl rfl | exact ⟨by omega, by omega⟩) (by omega) (by omega) (by omega) (by omega) (by omega) (fun _ => FOj_s4514) (VJn.add (w := z4450) (t := 0) (r := z4500) w_3 (by omega) (fun j => by rw [e_s4514, x_up_q (by decide), e_s4502, x_up_q (by decide), e_s4492, x_up_at, e_s4452, x_up_q (by decide)]) (fun j => by rw [e_s4514, x_up_q (by decide), e_s4502, x_up_at, e_s4492, x_up_q (by decide), e_s4452, x_up_q (by decide)]) (fun j => by rw [e_s4514, x_up_q (by decide), e_s4502, x_up_q (by decide), e_s4492, x_up_q (by decide), e_s4452, x_up_at]) ew_ et_ er_) (RTn.yes (p := z4511) w_4 (by omega) (by omega) p51_ (by omega) (fun j => by rw [e_s4514, x_up_at, e_s4502, x_up_q (by decide), e_s4492, x_up_q (by decide), e_s4452, x_up_q (by decide), show s 249 z4511.toNat + 1 = z4513 by omega])) (q4515).symm (q4516).symm  (by omega)
          · skip
            refine x_A k74_111 (fun _ => rfl) ?_
            refine x_goto k74_112 (t := 116) rfl ?_
            have k54_ : s0 54 x2.toNat = z4457 := by rw [← f_s4452 54 _ (show 960 ∉ [3329, 3334, 3335, 3336, 3392, 3456, 3520, 3584, 3276, 3648, 3712, 3776, 3840] from by decide)]; exact e_z4457.symm
            have k55_ : s0 55 x2.toNat = z4448 := by rw [← f_s4452 55 _ (show 1024 ∉ [3329, 3334, 3335, 3336, 3392, 3456, 3520, 3584, 3276, 3648, 3712, 3776, 3840] from by decide)]; exact q4455
            have ct_ := (ctp_ge (P := fun i : Nat => bi (s0 54 x2.toNat) i = true ∧ seC s0 (s0 55 x2.toNat) i = 1) 6).2
            have cq_ : ctp (fun i : Nat => bi (s0 54 x2.toNat) i = true ∧ seC s0 (s0 55 x2.toNat) i = 1) 6 = z4489 := by rw [xp_z4489, k54_, k55_]; exact ctp_cg 6 (fun i hi => and_congr Iff.rfl (by show foF s0 z4448 (z4448 + 1).toNat (i : Int) = 1 ↔ _; rw [← FOj_s4452.1 (i : Int) (by omega) (by omega)]; exact Iff.rfl))
            have et_ : (1 : Int) = 1 ↔ tuC s0 x2 := ⟨fun q => ct_.mp (by omega), fun q => by have w := ct_.mpr q; omega⟩
            refine x_bast k74_116 (q := 250) (n := 120) ⟨by decide, rfl⟩ (by decide) (by first | exact x_rbl b_x2 rfl rfl | exact ⟨by omega, by omega⟩) ⟨by omega, by omega⟩ ?_
            refine x_nh (fun s4524 e_s4524 => ?_)
            have hG_s4524 : GI s4524 := by rw [e_s4524]; exact hG_s4452.up (show 0 ≤ 1 ∧ 1 ≤ 1 from ⟨by decide, by decide⟩)
            have f_s4524 : FL [3329, 3334, 3335, 3336, 3392, 3456, 3520, 3584, 3276, 3648, 3712, 3776, 3840] s0 s4524 := by rw [e_s4524]; exact f_s4452.up (show 3712 ∈ [3329, 3334, 3335, 3336, 3392, 3456, 3520, 3584, 3276, 3648, 3712, 3776, 3840] from by decide)
            have q4525 : s4524 50 6 = x1000 := by rw [e_s4524, x_up_q (by decide)]; exact q4453
            have q4526 : s4524 243 11 = x1001 := by rw [e_s4524, x_up_q (by decide)]; exact q4454
            have q4527 : s4524 55 x2.toNat = z4448 := by rw [e_s4524, x_up_q (by first | decide | omega)]; exact q4455
            have q4528 : s4524 252 x2.toNat = z4450 := by rw [e_s4524, x_up_q (by first | decide | omega)]; exact q4456
            have q4529 : s4524 54 x2.toNat = z4457 := by rw [e_s4524, x_up_q (by first | decide | omega)]; exact e_z4457.symm
            have q4530 : s4524 250 x2.toNat = 1 := by rw [e_s4524]; exact x_up_same
            have RTj_s4524 : RTn s4524 s0 x2 := by rw [e_s4524]; exact RTn.up RTj_s4452 (show 3712 ∉ [3648] from by decide)
            have FOj_s4524 : Fo s4524 s0 244 z4448 := by rw [e_s4524]; exact Fo.up FOj_s4452 (show 3712 ∉ LFO from by decide)
            refine x_A k74_117 (fun _ => rfl) ?_
            refine x_getR k74_118 (f := 6) rfl (q := 243) (n := 13) (kd := 13) ⟨by decide, rfl⟩ (q2 := 251) (by decide) rfl ?_
            refine x_A k74_121 (fun _ => rfl) ?_
            refine x_A k74_122 (fun _ => rfl) ?_
            refine x_if_ne k74_124 (t := 131) rfl (by first | exact x_rbe e_z4457 g_z4457 rfl rfl | exact x_rb g_z4457 rfl rfl | exact ⟨by omega, by omega⟩) (fun c4531 => ?_) (fun c4531 => by exfalso; omega)
            refine x_A k74_131 (fun _ => rfl) ?_
            refine x_getR k74_132 (f := 3) rfl (q := 243) (n := 13) (kd := 13) ⟨by decide, rfl⟩ (q2 := 244) (by decide) rfl ?_
            refine x_A k74_135 (fun _ => rfl) ?_
            refine x_A k74_137 (fun _ => rfl) ?_
            refine x_callV k74_138 (y := 22) (n := 2) (w0 := 2) (w1 := 2) (as := [vi z4457, vi 2]) (rest := [vi x2, .ref 251]) (by decide +kernel) (q := 244) (nq := 8) (kq := 14) ⟨by decide, rfl⟩ rfl rfl rfl rfl (xe_mono (E_X1_countSense_244 s4524 hG_s4524 z4457 (by first | exact x_rbe e_z4457 g_z4457 rfl rfl | exact x_rb g_z4457 rfl rfl | exact ⟨by omega, by omega⟩) 2 ⟨by decide, by decide⟩) ?_)
            rintro s4533 v ⟨-, t_s4533, z4532, rfl, g_z4532, xp_z4532⟩
            rw [t_s4533.nil]
            try rw [t_s4533.nil] at xp_z4532
            show xe none 74 141 [(4, vi z4457), (1, vi z4448), (3, vi z4448), (0, .ref 243), (2, vi x2)] [vi z4532, vi x2, .ref 251] s4524 0 0 _
            have er_ : z4532 = raC s0 x2 := by rw [xp_z4532]; unfold raC; rw [k54_, k55_]; exact ctp_cg 6 (fun i hi => and_congr Iff.rfl (by show _ ↔ foF s0 z4448 (z4448 + 1).toNat (i : Int) = 2; rw [← FOj_s4524.1 (i : Int) (by omega) (by omega)]; exact Iff.rfl))
            refine x_iast k74_141 (q := 251) (n := 120) ⟨by decide, rfl⟩ (by decide) (by first | exact x_rbl b_x2 rfl rfl | exact ⟨by omega, by omega⟩) ?_
            refine x_nh (fun s4534 e_s4534 => ?_)
            have hG_s4534 : GI s4534 := by rw [e_s4534]; exact hG_s4524.up (show 0 ≤ z4532 ∧ z4532 ≤ 6 from (by first | exact x_rbe e_z4532 g_z4532 rfl rfl | exact x_rb g_z4532 rfl rfl | exact ⟨by omega, by omega⟩))
            have f_s4534 : FL [3329, 3334, 3335, 3336, 3392, 3456, 3520, 3584, 3276, 3648, 3712, 3776, 3840] s0 s4534 := by rw [e_s4534]; exact f_s4524.up (show 3776 ∈ [3329, 3334, 3335, 3336, 3392, 3456, 3520, 3584, 3276, 3648, 3712, 3776, 3840] from by decide)
            have q4535 : s4534 50 6 = x1000 := by rw [e_s4534, x_up_q (by decide)]; exact q4525
            have q4536 : s4534 243 11 = x1001 := by rw [e_s4534, x_up_q (by decide)]; exact q4526
            have q4537 : s4534 55 x2.toNat = z4448 := by rw [e_s4534, x_up_q (by first | decide | omega)]; exact q4527
            have q4538 : s4534 252 x2.toNat = z4450 := by rw [e_s4534, x_up_q (by first | decide | omega)]; exact q4528
            have q4539 : s4534 54 x2.toNat = z4457 := by rw [e_s4534, x_up_q (by first | decide | omega)]; exact q4529
            have q4540 : s4534 250 x2.toNat = 1 := by rw [e_s4534, x_up_q (by first | decide | omega)]; exact q4530
            have q4541 : s4534 251 x2.toNat = z4532 := by rw [e_s4534]; exact x_up_same
            have RTj_s4534 : RTn s4534 s0 x2 := by rw [e_s4534]; exact RTn.up RTj_s4524 (show 3776 ∉ [3648] from by decide)
            have FOj_s4534 : Fo s4534 s0 244 z4448 := by rw [e_s4534]; exact Fo.up FOj_s4524 (show 3776 ∉ LFO from by decide)
            refine x_A k74_142 (fun _ => rfl) ?_
            refine x_getR k74_143 (f := 7) rfl (q := 243) (n := 13) (kd := 13) ⟨by decide, rfl⟩ (q2 := 252) (by decide) rfl ?_
            refine x_A k74_146 (fun _ => rfl) ?_
            refine x_iald k74_147 (q := 252) (n := 120) ⟨by decide, rfl⟩ (by decide) (by first | exact x_rbl b_x2 rfl rfl | exact ⟨by omega, by omega⟩) ?_
            refine x_rw (q4538) ?_
            refine x_if_ne k74_148 (t := 169) rfl (by first | exact x_rbe e_z4450 g_z4450 rfl rfl | exact x_rb g_z4450 rfl rfl | exact ⟨by omega, by omega⟩) (fun c4542 => ?_) (fun c4542 => ?_)
            · skip
              refine x_iinc k74_169 (ls' := [(2, vi (x2 + 1)), (4, vi z4457), (1, vi z4448), (3, vi z4448), (0, .ref 243)]) rfl (by decide) rfl ?_
              refine x_goto k74_172 (t := 25) rfl ?_
              refine x_ls (l := [(0, .ref 243), (1, vi z4448), (2, vi (x2 + 1))]) (show ([0, 1, 2] : List Nat).Nodup from by decide) ⟨rfl, rfl, rfl, trivial⟩ ?_
              exact ih s4534 z4448 (x2 + 1) x1000 x1001 hG_s4534 f_s4534 (by first | exact x_rbe e_z4448 g_z4448 rfl rfl | exact x_rb g_z4448 rfl rfl | exact ⟨by omega, by omega⟩) ⟨by omega, by omega⟩ (by first | exact x_rb b_x1000 rfl rfl | exact ⟨by omega, by omega⟩) (by first | exact x_rb b_x1001 rfl rfl | exact ⟨by omega, by omega⟩) (by omega) (by omega) (by omega) (by omega) (by omega) (fun _ => FOj_s4534) (VJn.add (w := z4450) (t := 1) (r := z4532) w_3 (by omega) (fun j => by rw [e_s4534, x_up_q (by decide), e_s4524, x_up_at, e_s4452, x_up_q (by decide)]) (fun j => by rw [e_s4534, x_up_at, e_s4524, x_up_q (by decide), e_s4452, x_up_q (by decide)]) (fun j => by rw [e_s4534, x_up_q (by decide), e_s4524, x_up_q (by decide), e_s4452, x_up_at]) ew_ et_ er_) (RTn.no w_4 (by omega) (by omega) (funext fun j => by rw [e_s4534, x_up_q (by decide), e_s4524, x_up_q (by decide), e_s4452, x_up_q (by decide)])) (q4535).symm (q4536).symm  (by omega)
            · skip
              refine x_A k74_151 (fun _ => rfl) ?_
              refine x_getR k74_152 (f := 4) rfl (q := 243) (n := 13) (kd := 13) ⟨by decide, rfl⟩ (q2 := 249) (by decide) rfl ?_
              refine x_A k74_155 (fun _ => rfl) ?_
              refine x_getR k74_156 (f := 1) rfl (q := 243) (n := 13) (kd := 13) ⟨by decide, rfl⟩ (q2 := 50) (by decide) rfl ?_
              refine x_getR k74_159 (f := 0) rfl (q := 50) (n := 7) (kd := 6) ⟨by decide, rfl⟩ (q2 := 51) (by decide) rfl ?_
              refine x_A k74_162 (fun _ => rfl) ?_
              refine x_iald k74_163 (q := 51) (n := 120) ⟨by decide, rfl⟩ (by decide) (by first | exact x_rbl b_x2 rfl rfl | exact ⟨by omega, by omega⟩) ?_
              refine x_top (fun z4543 e_z4543 => ?_)
              have g_z4543 : (0 : Int) ≤ s4534 51 x2.toNat ∧ s4534 51 x2.toNat ≤ 39 := hG_s4534 51 x2.toNat
              refine x_A k74_164 (fun _ => rfl) ?_
              refine x_iald k74_165 (q := 249) (n := 40) ⟨by decide, rfl⟩ (by decide) (by first | exact x_rbel e_z4543 g_z4543 rfl rfl | exact x_rbl g_z4543 rfl rfl | exact ⟨by omega, by omega⟩) ?_
              refine x_top (fun z4544 e_z4544 => ?_)
              have g_z4544 : (-2147483648) ≤ s4534 249 z4543.toNat ∧ s4534 249 z4543.toNat ≤ 2147483647 := hG_s4534 249 z4543.toNat
              have rb_ := RTn.b RTj_s4534 (p := z4543) (by omega) ⟨by omega, by omega⟩
              rw [e_z4544.symm] at rb_
              have p51_ : s0 51 x2.toNat = z4543 := by rw [← f_s4534 51 _ (show 768 ∉ [3329, 3334, 3335, 3336, 3392, 3456, 3520, 3584, 3276, 3648, 3712, 3776, 3840] from by decide)]; exact e_z4543.symm
              have e249_ : s 249 z4543.toNat = z4544 := (show s4534 249 z4543.toNat = s 249 z4543.toNat from by rw [e_s4534, x_up_q (by decide), e_s4524, x_up_q (by decide), e_s4452, x_up_q (by decide)]).symm.trans (e_z4544.symm)
              refine x_A k74_166 (fun _ => rfl) ?_
              refine x_iadd k74_167 ?_
              refine x_top (fun z4545 e_z4545 => ?_)
              refine x_iast k74_168 (q := 249) (n := 40) ⟨by decide, rfl⟩ (by decide) (by first | exact x_rbel e_z4543 g_z4543 rfl rfl | exact x_rbl g_z4543 rfl rfl | exact ⟨by omega, by omega⟩) ?_
              refine x_nh (fun s4546 e_s4546 => ?_)
              have hG_s4546 : GI s4546 := by rw [e_s4546]; exact hG_s4534.up (show (-2147483648) ≤ z4545 ∧ z4545 ≤ 2147483647 from (by first | exact x_rbe e_z4545 g_z4545 rfl rfl | exact x_rb g_z4545 rfl rfl | exact ⟨by omega, by omega⟩))
              have f_s4546 : FL [3329, 3334, 3335, 3336, 3392, 3456, 3520, 3584, 3276, 3648, 3712, 3776, 3840] s0 s4546 := by rw [e_s4546]; exact f_s4534.up (show 3648 ∈ [3329, 3334, 3335, 3336, 3392, 3456, 3520, 3584, 3276, 3648, 3712, 3776, 3840] from by decide)
              have q4547 : s4546 50 6 = x1000 := by rw [e_s4546, x_up_q (by decide)]; exact q4535
              have q4548 : s4546 243 11 = x1001 := by rw [e_s4546, x_up_q (by decide)]; exact q4536
              have q4549 : s4546 55 x2.toNat = z4448 := by rw [e_s4546, x_up_q (by first | decide | omega)]; exact q4537
              have q4550 : s4546 252 x2.toNat = z4450 := by rw [e_s4546, x_up_q (by first | decide | omega)]; exact q4538
              have q4551 : s4546 54 x2.toNat = z4457 := by rw [e_s4546, x_up_q (by first | decide | omega)]; exact q4539
              have q4552 : s4546 250 x2.toNat = 1 := by rw [e_s4546, x_up_q (by first | decide | omega)]; exact q4540
              have q4553 : s4546 251 x2.toNat = z4532 := by rw [e_s4546, x_up_q (by first | decide | omega)]; exact q4541
              have q4554 : s4546 51 x2.toNat = z4543 := by rw [e_s4546, x_up_q (by first | decide | omega)]; exact e_z4543.symm
              have q4555 : s4546 249 z4543.toNat = z4545 := by rw [e_s4546]; exact x_up_same
              have FOj_s4546 : Fo s4546 s0 244 z4448 := by rw [e_s4546]; exact Fo.up FOj_s4534 (show 3648 ∉ LFO from by decide)
              refine x_iinc k74_169 (ls' := [(2, vi (x2 + 1)), (4, vi z4457), (1, vi z4448), (3, vi z4448), (0, .ref 243)]) rfl (by decide) rfl ?_
              refine x_goto k74_172 (t := 25) rfl ?_
              refine x_ls (l := [(0, .ref 243), (1, vi z4448), (2, vi (x2 + 1))]) (show ([0, 1, 2] : List Nat).Nodup from by decide) ⟨rfl, rfl, rfl, trivial⟩ ?_
              exact ih s4546 z4448 (x2 + 1) x1000 x1001 hG_s4546 f_s4546 (by first | exact x_rbe e_z4448 g_z4448 rfl rfl | exact x_rb g_z4448 rfl rfl | exact ⟨by omega, by omega⟩) ⟨by omega, by omega⟩ (by first | exact x_rb b_x1000 rfl rfl | exact ⟨by omega, by omega⟩) (by first | exact x_rb b_x1001 rfl rfl | exact ⟨by omega, by omega⟩) (by omega) (by omega) (by omega) (by omega) (by omega) (fun _ => FOj_s4546) (VJn.add (w := z4450) (t := 1) (r := z4532) w_3 (by omega) (fun j => by rw [e_s4546, x_up_q (by decide), e_s4534, x_up_q (by decide), e_s4524, x_up_at, e_s4452, x_up_q (by decide)]) (fun j => by rw [e_s4546, x_up_q (by decide), e_s4534, x_up_at, e_s4524, x_up_q (by decide), e_s4452, x_up_q (by decide)]) (fun j => by rw [e_s4546, x_up_q (by decide), e_s4534, x_up_q (by decide), e_s4524, x_up_q (by decide), e_s4452, x_up_at]) ew_ et_ er_) (RTn.yes (p := z4543) w_4 (by omega) (by omega) p51_ (by omega) (fun j => by rw [e_s4546, x_up_at, e_s4534, x_up_q (by decide), e_s4524, x_up_q (by decide), e_s4452, x_up_q (by decide), show s 249 z4543.toNat + 1 = z4545 by omega])) (q4547).symm (q4548).symm  (by omega)
      · skip
        refine x_A k74_51 (fun _ => rfl) ?_
        refine x_getR k74_52 (f := 3) rfl (q := 243) (n := 13) (kd := 13) ⟨by decide, rfl⟩ (q2 := 244) (by decide) rfl ?_
        refine x_A k74_55 (fun _ => rfl) ?_
        refine x_getR k74_56 (f := 2) rfl (q := 243) (n := 13) (kd := 13) ⟨by decide, rfl⟩ (q2 := 179) (by decide) rfl ?_
        refine x_A k74_59 (fun _ => rfl) ?_
        refine x_callV k74_60 (y := 16) (n := 2) (w0 := 0) (w1 := 2) (as := [.ref 179, vi z4448]) (rest := []) (by decide +kernel) (q := 244) (nq := 8) (kq := 14) ⟨by decide, rfl⟩ rfl rfl rfl rfl (xe_mono (E_X1_setTo_244_179 s hG (hJ0.fl f (by decide)) z4448 (by first | exact x_rbe e_z4448 g_z4448 rfl rfl | exact x_rb g_z4448 rfl rfl | exact ⟨by omega, by omega⟩) (pR.fl f (by decide))) ?_)
        rintro s4557 v ⟨hG_s4557, t_s4557, rfl, xp_z4556⟩
        have f_s4557 : FL [3329, 3334, 3335, 3336, 3392, 3456, 3520, 3584, 3276, 3648, 3712, 3776, 3840] s0 s4557 := f.tr t_s4557 (by decide)
        have q4558 : s4557 50 6 = x1000 := (t_s4557 50 6 (show 711 ∉ [3329, 3334, 3335, 3336, 3392, 3456, 3520, 3584] from by decide)).trans e_x1000.symm
        have q4559 : s4557 243 11 = x1001 := (t_s4557 243 11 (show 3276 ∉ [3329, 3334, 3335, 3336, 3392, 3456, 3520, 3584] from by decide)).trans e_x1001.symm
        have q4560 : s4557 55 x2.toNat = z4448 := (t_s4557 55 x2.toNat (show 1024 ∉ [3329, 3334, 3335, 3336, 3392, 3456, 3520, 3584] from by decide)).trans e_z4448.symm
        have VJj_s4557 : VJn s4557 s0 x2 := VJn.fl w_3 t_s4557 (by decide)
        have RTj_s4557 : RTn s4557 s0 x2 := RTn.fl w_4 t_s4557 (by decide)
        show xe none 74 63 [(3, vi z4448), (0, .ref 243), (1, vi x1), (2, vi x2)] [] s4557 0 0 _
        have fo_ : Fo s4557 s0 244 z4448 := Fo.ve xp_z4556 (FL.ve f hG0 (by decide))
        refine x_A k74_63 (fun _ => rfl) ?_
        refine x_istore_n k74_64 (ls' := [(1, vi z4448), (3, vi z4448), (0, .ref 243), (2, vi x2)]) (by decide) rfl ?_
        refine x_A k74_65 (fun _ => rfl) ?_
        refine x_getR k74_66 (f := 7) rfl (q := 243) (n := 13) (kd := 13) ⟨by decide, rfl⟩ (q2 := 252) (by decide) rfl ?_
        refine x_A k74_69 (fun _ => rfl) ?_
        have ve_ : VE s4557 s0 := FL.ve f_s4557 hG0 (by decide)
        have e51_ : s4557 51 = s0 51 := ve_.2.2.2.2.1
        refine x_A k74_70 (fun _ => rfl) ?_
        refine x_A k74_71 (fun _ => rfl) ?_
        refine x_A k74_72 (fun _ => rfl) ?_
        refine x_callV k74_73 (y := 75) (n := 2) (w0 := 2) (w1 := 2) (as := [vi x2, vi z4448]) (rest := [vi x2, .ref 252]) (by decide +kernel) (q := 243) (nq := 13) (kq := 13) ⟨by decide, rfl⟩ rfl rfl rfl rfl (xe_mono (E_X8_whyWrong_243 s4557 hG_s4557 x2 (by first | exact x_rb b_x2 rfl rfl | exact ⟨by omega, by omega⟩) z4448 (by first | exact x_rbe e_z4448 g_z4448 rfl rfl | exact x_rb g_z4448 rfl rfl | exact ⟨by omega, by omega⟩) (q4560).symm (Fo.ve fo_ ve_.sy) (RTn.pr RTj_s4557 VJj_s4557 e51_)) ?_)
        rintro s4562 v ⟨-, t_s4562, z4561, rfl, g_z4561, xp_z4561⟩
        rw [t_s4562.nil]
        try rw [t_s4562.nil] at xp_z4561
        show xe none 74 76 [(1, vi z4448), (3, vi z4448), (0, .ref 243), (2, vi x2)] [vi z4561, vi x2, .ref 252] s4557 0 0 _
        have ew_ : z4561 = wrC s0 x2 := xp_z4561.trans (why_wr ve_ VJj_s4557 (by omega))
        refine x_iast k74_76 (q := 252) (n := 120) ⟨by decide, rfl⟩ (by decide) (by first | exact x_rbl b_x2 rfl rfl | exact ⟨by omega, by omega⟩) ?_
        refine x_nh (fun s4563 e_s4563 => ?_)
        have hG_s4563 : GI s4563 := by rw [e_s4563]; exact hG_s4557.up (show 0 ≤ z4561 ∧ z4561 ≤ 4 from (by first | exact x_rbe e_z4561 g_z4561 rfl rfl | exact x_rb g_z4561 rfl rfl | exact ⟨by omega, by omega⟩))
        have f_s4563 : FL [3329, 3334, 3335, 3336, 3392, 3456, 3520, 3584, 3276, 3648, 3712, 3776, 3840] s0 s4563 := by rw [e_s4563]; exact f_s4557.up (show 3840 ∈ [3329, 3334, 3335, 3336, 3392, 3456, 3520, 3584, 3276, 3648, 3712, 3776, 3840] from by decide)
        have q4564 : s4563 50 6 = x1000 := by rw [e_s4563, x_up_q (by decide)]; exact q4558
        have q4565 : s4563 243 11 = x1001 := by rw [e_s4563, x_up_q (by decide)]; exact q4559
        have q4566 : s4563 55 x2.toNat = z4448 := by rw [e_s4563, x_up_q (by first | decide | omega)]; exact q4560
        have q4567 : s4563 252 x2.toNat = z4561 := by rw [e_s4563]; exact x_up_same
        have RTj_s4563 : RTn s4563 s0 x2 := by rw [e_s4563]; exact RTn.up RTj_s4557 (show 3840 ∉ [3648] from by decide)
        have FOj_s4563 : Fo s4563 s0 244 z4448 := by rw [e_s4563]; exact Fo.up fo_ (show 3840 ∉ LFO from by decide)
        refine x_A k74_77 (fun _ => rfl) ?_
        refine x_getR k74_78 (f := 1) rfl (q := 243) (n := 13) (kd := 13) ⟨by decide, rfl⟩ (q2 := 50) (by decide) rfl ?_
        refine x_getR k74_81 (f := 3) rfl (q := 50) (n := 7) (kd := 6) ⟨by decide, rfl⟩ (q2 := 54) (by decide) rfl ?_
        refine x_A k74_84 (fun _ => rfl) ?_
        refine x_iald k74_85 (q := 54) (n := 120) ⟨by decide, rfl⟩ (by decide) (by first | exact x_rbl b_x2 rfl rfl | exact ⟨by omega, by omega⟩) ?_
        refine x_top (fun z4568 e_z4568 => ?_)
        have g_z4568 : (0 : Int) ≤ s4563 54 x2.toNat ∧ s4563 54 x2.toNat ≤ 63 := hG_s4563 54 x2.toNat
        refine x_istore k74_86 (ls' := [(4, vi z4568), (1, vi z4448), (3, vi z4448), (0, .ref 243), (2, vi x2)]) (by decide) rfl ?_
        refine x_A k74_88 (fun _ => rfl) ?_
        refine x_getR k74_89 (f := 5) rfl (q := 243) (n := 13) (kd := 13) ⟨by decide, rfl⟩ (q2 := 250) (by decide) rfl ?_
        refine x_A k74_92 (fun _ => rfl) ?_
        refine x_A k74_93 (fun _ => rfl) ?_
        refine x_if_eq k74_95 (t := 115) rfl (by first | exact x_rbe e_z4568 g_z4568 rfl rfl | exact x_rb g_z4568 rfl rfl | exact ⟨by omega, by omega⟩) (fun c4569 => ?_) (fun c4569 => ?_)
        · skip
          refine x_A k74_115 (fun _ => rfl) ?_
          have k54_ : s0 54 x2.toNat = z4568 := by rw [← f_s4563 54 _ (show 960 ∉ [3329, 3334, 3335, 3336, 3392, 3456, 3520, 3584, 3276, 3648, 3712, 3776, 3840] from by decide)]; exact e_z4568.symm
          have k55_ : s0 55 x2.toNat = z4448 := by rw [← f_s4563 55 _ (show 1024 ∉ [3329, 3334, 3335, 3336, 3392, 3456, 3520, 3584, 3276, 3648, 3712, 3776, 3840] from by decide)]; exact q4566
          have et_ : (0 : Int) = 1 ↔ tuC s0 x2 := ⟨fun q => by omega, fun ⟨i, _, q, _⟩ => by rw [k54_, show z4568 = 0 by omega] at q; exact (bi_z0 q).elim⟩
          refine x_bast k74_116 (q := 250) (n := 120) ⟨by decide, rfl⟩ (by decide) (by first | exact x_rbl b_x2 rfl rfl | exact ⟨by omega, by omega⟩) ⟨by omega, by omega⟩ ?_
          refine x_nh (fun s4570 e_s4570 => ?_)
          have hG_s4570 : GI s4570 := by rw [e_s4570]; exact hG_s4563.up (show 0 ≤ 0 ∧ 0 ≤ 1 from ⟨by decide, by decide⟩)
          have f_s4570 : FL [3329, 3334, 3335, 3336, 3392, 3456, 3520, 3584, 3276, 3648, 3712, 3776, 3840] s0 s4570 := by rw [e_s4570]; exact f_s4563.up (show 3712 ∈ [3329, 3334, 3335, 3336, 3392, 3456, 3520, 3584, 3276, 3648, 3712, 3776, 3840] from by decide)
          have q4571 : s4570 50 6 = x1000 := by rw [e_s4570, x_up_q (by decide)]; exact q4564
          have q4572 : s4570 243 11 = x1001 := by rw [e_s4570, x_up_q (by decide)]; exact q4565
          have q4573 : s4570 55 x2.toNat = z4448 := by rw [e_s4570, x_up_q (by first | decide | omega)]; exact q4566
          have q4574 : s4570 252 x2.toNat = z4561 := by rw [e_s4570, x_up_q (by first | decide | omega)]; exact q4567
          have q4575 : s4570 54 x2.toNat = z4568 := by rw [e_s4570, x_up_q (by first | decide | omega)]; exact e_z4568.symm
          have q4576 : s4570 250 x2.toNat = 0 := by rw [e_s4570]; exact x_up_same
          have RTj_s4570 : RTn s4570 s0 x2 := by rw [e_s4570]; exact RTn.up RTj_s4563 (show 3712 ∉ [3648] from by decide)
          have FOj_s4570 : Fo s4570 s0 244 z4448 := by rw [e_s4570]; exact Fo.up FOj_s4563 (show 3712 ∉ LFO from by decide)
          refine x_A k74_117 (fun _ => rfl) ?_
          refine x_getR k74_118 (f := 6) rfl (q := 243) (n := 13) (kd := 13) ⟨by decide, rfl⟩ (q2 := 251) (by decide) rfl ?_
          refine x_A k74_121 (fun _ => rfl) ?_
          refine x_A k74_122 (fun _ => rfl) ?_
          refine x_if_ne k74_124 (t := 131) rfl (by first | exact x_rbe e_z4568 g_z4568 rfl rfl | exact x_rb g_z4568 rfl rfl | exact ⟨by omega, by omega⟩) (fun c4577 => by exfalso; omega) (fun c4577 => ?_)
          refine x_A k74_127 (fun _ => rfl) ?_
          refine x_goto k74_128 (t := 141) rfl ?_
          have er_ : (0 : Int) = raC s0 x2 := (ctp_0 6 (fun i _ q => by have q1 := q.1; rw [k54_, show z4568 = 0 by omega] at q1; exact (bi_z0 q1).elim)).symm
          refine x_iast k74_141 (q := 251) (n := 120) ⟨by decide, rfl⟩ (by decide) (by first | exact x_rbl b_x2 rfl rfl | exact ⟨by omega, by omega⟩) ?_
          refine x_nh (fun s4578 e_s4578 => ?_)
          have hG_s4578 : GI s4578 := by rw [e_s4578]; exact hG_s4570.up (show 0 ≤ 0 ∧ 0 ≤ 6 from ⟨by decide, by decide⟩)
          have f_s4578 : FL [3329, 3334, 3335, 3336, 3392, 3456, 3520, 3584, 3276, 3648, 3712, 3776, 3840] s0 s4578 := by rw [e_s4578]; exact f_s4570.up (show 3776 ∈ [3329, 3334, 3335, 3336, 3392, 3456, 3520, 3584, 3276, 3648, 3712, 3776, 3840] from by decide)
          have q4579 : s4578 50 6 = x1000 := by rw [e_s4578, x_up_q (by decide)]; exact q4571
          have q4580 : s4578 243 11 = x1001 := by rw [e_s4578, x_up_q (by decide)]; exact q4572
          have q4581 : s4578 55 x2.toNat = z4448 := by rw [e_s4578, x_up_q (by first | decide | omega)]; exact q4573
          have q4582 : s4578 252 x2.toNat = z4561 := by rw [e_s4578, x_up_q (by first | decide | omega)]; exact q4574
          have q4583 : s4578 54 x2.toNat = z4568 := by rw [e_s4578, x_up_q (by first | decide | omega)]; exact q4575
          have q4584 : s4578 250 x2.toNat = 0 := by rw [e_s4578, x_up_q (by first | decide | omega)]; exact q4576
          have q4585 : s4578 251 x2.toNat = 0 := by rw [e_s4578]; exact x_up_same
          have RTj_s4578 : RTn s4578 s0 x2 := by rw [e_s4578]; exact RTn.up RTj_s4570 (show 3776 ∉ [3648] from by decide)
          have FOj_s4578 : Fo s4578 s0 244 z4448 := by rw [e_s4578]; exact Fo.up FOj_s4570 (show 3776 ∉ LFO from by decide)
          refine x_A k74_142 (fun _ => rfl) ?_
          refine x_getR k74_143 (f := 7) rfl (q := 243) (n := 13) (kd := 13) ⟨by decide, rfl⟩ (q2 := 252) (by decide) rfl ?_
          refine x_A k74_146 (fun _ => rfl) ?_
          refine x_iald k74_147 (q := 252) (n := 120) ⟨by decide, rfl⟩ (by decide) (by first | exact x_rbl b_x2 rfl rfl | exact ⟨by omega, by omega⟩) ?_
          refine x_rw (q4582) ?_
          refine x_if_ne k74_148 (t := 169) rfl (by first | exact x_rbe e_z4561 g_z4561 rfl rfl | exact x_rb g_z4561 rfl rfl | exact ⟨by omega, by omega⟩) (fun c4586 => ?_) (fun c4586 => ?_)
          · skip
            refine x_iinc k74_169 (ls' := [(2, vi (x2 + 1)), (4, vi z4568), (1, vi z4448), (3, vi z4448), (0, .ref 243)]) rfl (by decide) rfl ?_
            refine x_goto k74_172 (t := 25) rfl ?_
            refine x_ls (l := [(0, .ref 243), (1, vi z4448), (2, vi (x2 + 1))]) (show ([0, 1, 2] : List Nat).Nodup from by decide) ⟨rfl, rfl, rfl, trivial⟩ ?_
            exact ih s4578 z4448 (x2 + 1) x1000 x1001 hG_s4578 f_s4578 (by first | exact x_rbe e_z4448 g_z4448 rfl rfl | exact x_rb g_z4448 rfl rfl | exact ⟨by omega, by omega⟩) ⟨by omega, by omega⟩ (by first | exact x_rb b_x1000 rfl rfl | exact ⟨by omega, by omega⟩) (by first | exact x_rb b_x1001 rfl rfl | exact ⟨by omega, by omega⟩) (by omega) (by omega) (by omega) (by omega) (by omega) (fun _ => FOj_s4578) (VJn.add (w := z4561) (t := 0) (r := 0) w_3 (by omega) (fun j => by rw [e_s4578, x_up_q (by decide), e_s4570, x_up_at, e_s4563, x_up_q (by decide), t_s4557 250 j (show 3712 ∉ _ from by decide)]) (fun j => by rw [e_s4578, x_up_at, e_s4570, x_up_q (by decide), e_s4563, x_up_q (by decide), t_s4557 251 j (show 3776 ∉ _ from by decide)]) (fun j => by rw [e_s4578, x_up_q (by decide), e_s4570, x_up_q (by decide), e_s4563, x_up_at, t_s4557 252 j (show 3840 ∉ _ from by decide)]) ew_ et_ er_) (RTn.no w_4 (by omega) (by omega) (funext fun j => by rw [e_s4578, x_up_q (by decide), e_s4570, x_up_q (by decide), e_s4563, x_up_q (by decide), t_s4557 249 j (show 3648 ∉ _ from by decide)])) (q4579).symm (q4580).symm  (by omega)
          · skip
            refine x_A k74_151 (fun _ => rfl) ?_
            refine x_getR k74_152 (f := 4) rfl (q := 243) (n := 13) (kd := 13) ⟨by decide, rfl⟩ (q2 := 249) (by decide) rfl ?_
            refine x_A k74_155 (fun _ => rfl) ?_
            refine x_getR k74_156 (f := 1) rfl (q := 243) (n := 13) (kd := 13) ⟨by decide, rfl⟩ (q2 := 50) (by decide) rfl ?_
            refine x_getR k74_159 (f := 0) rfl (q := 50) (n := 7) (kd := 6) ⟨by decide, rfl⟩ (q2 := 51) (by decide) rfl ?_
            refine x_A k74_162 (fun _ => rfl) ?_
            refine x_iald k74_163 (q := 51) (n := 120) ⟨by decide, rfl⟩ (by decide) (by first | exact x_rbl b_x2 rfl rfl | exact ⟨by omega, by omega⟩) ?_
            refine x_top (fun z4587 e_z4587 => ?_)
            have g_z4587 : (0 : Int) ≤ s4578 51 x2.toNat ∧ s4578 51 x2.toNat ≤ 39 := hG_s4578 51 x2.toNat
            refine x_A k74_164 (fun _ => rfl) ?_
            refine x_iald k74_165 (q := 249) (n := 40) ⟨by decide, rfl⟩ (by decide) (by first | exact x_rbel e_z4587 g_z4587 rfl rfl | exact x_rbl g_z4587 rfl rfl | exact ⟨by omega, by omega⟩) ?_
            refine x_top (fun z4588 e_z4588 => ?_)
            have g_z4588 : (-2147483648) ≤ s4578 249 z4587.toNat ∧ s4578 249 z4587.toNat ≤ 2147483647 := hG_s4578 249 z4587.toNat
            have rb_ := RTn.b RTj_s4578 (p := z4587) (by omega) ⟨by omega, by omega⟩
            rw [e_z4588.symm] at rb_
            have p51_ : s0 51 x2.toNat = z4587 := by rw [← f_s4578 51 _ (show 768 ∉ [3329, 3334, 3335, 3336, 3392, 3456, 3520, 3584, 3276, 3648, 3712, 3776, 3840] from by decide)]; exact e_z4587.symm
            have e249_ : s 249 z4587.toNat = z4588 := (show s4578 249 z4587.toNat = s 249 z4587.toNat from by rw [e_s4578, x_up_q (by decide), e_s4570, x_up_q (by decide), e_s4563, x_up_q (by decide), t_s4557 249 _ (show 3648 ∉ _ from by decide)]).symm.trans (e_z4588.symm)
            refine x_A k74_166 (fun _ => rfl) ?_
            refine x_iadd k74_167 ?_
            refine x_top (fun z4589 e_z4589 => ?_)
            refine x_iast k74_168 (q := 249) (n := 40) ⟨by decide, rfl⟩ (by decide) (by first | exact x_rbel e_z4587 g_z4587 rfl rfl | exact x_rbl g_z4587 rfl rfl | exact ⟨by omega, by omega⟩) ?_
            refine x_nh (fun s4590 e_s4590 => ?_)
            have hG_s4590 : GI s4590 := by rw [e_s4590]; exact hG_s4578.up (show (-2147483648) ≤ z4589 ∧ z4589 ≤ 2147483647 from (by first | exact x_rbe e_z4589 g_z4589 rfl rfl | exact x_rb g_z4589 rfl rfl | exact ⟨by omega, by omega⟩))
            have f_s4590 : FL [3329, 3334, 3335, 3336, 3392, 3456, 3520, 3584, 3276, 3648, 3712, 3776, 3840] s0 s4590 := by rw [e_s4590]; exact f_s4578.up (show 3648 ∈ [3329, 3334, 3335, 3336, 3392, 3456, 3520, 3584, 3276, 3648, 3712, 3776, 3840] from by decide)
            have q4591 : s4590 50 6 = x1000 := by rw [e_s4590, x_up_q (by decide)]; exact q4579
            have q4592 : s4590 243 11 = x1001 := by rw [e_s4590, x_up_q (by decide)]; exact q4580
            have q4593 : s4590 55 x2.toNat = z4448 := by rw [e_s4590, x_up_q (by first | decide | omega)]; exact q4581
            have q4594 : s4590 252 x2.toNat = z4561 := by rw [e_s4590, x_up_q (by first | decide | omega)]; exact q4582
            have q4595 : s4590 54 x2.toNat = z4568 := by rw [e_s4590, x_up_q (by first | decide | omega)]; exact q4583
            have q4596 : s4590 250 x2.toNat = 0 := by rw [e_s4590, x_up_q (by first | decide | omega)]; exact q4584
            have q4597 : s4590 251 x2.toNat = 0 := by rw [e_s4590, x_up_q (by first | decide | omega)]; exact q4585
            have q4598 : s4590 51 x2.toNat = z4587 := by rw [e_s4590, x_up_q (by first | decide | omega)]; exact e_z4587.symm
            have q4599 : s4590 249 z4587.toNat = z4589 := by rw [e_s4590]; exact x_up_same
            have FOj_s4590 : Fo s4590 s0 244 z4448 := by rw [e_s4590]; exact Fo.up FOj_s4578 (show 3648 ∉ LFO from by decide)
            refine x_iinc k74_169 (ls' := [(2, vi (x2 + 1)), (4, vi z4568), (1, vi z4448), (3, vi z4448), (0, .ref 243)]) rfl (by decide) rfl ?_
            refine x_goto k74_172 (t := 25) rfl ?_
            refine x_ls (l := [(0, .ref 243), (1, vi z4448), (2, vi (x2 + 1))]) (show ([0, 1, 2] : List Nat).Nodup from by decide) ⟨rfl, rfl, rfl, trivial⟩ ?_
            exact ih s4590 z4448 (x2 + 1) x1000 x1001 hG_s4590 f_s4590 (by first | exact x_rbe e_z4448 g_z4448 rfl rfl | exact x_rb g_z4448 rfl rfl | exact ⟨by omega, by omega⟩) ⟨by omega, by omega⟩ (by first | exact x_rb b_x1000 rfl rfl | exact ⟨by omega, by omega⟩) (by first | exact x_rb b_x1001 rfl rfl | exact ⟨by omega, by omega⟩) (by omega) (by omega) (by omega) (by omega) (by omega) (fun _ => FOj_s4590) (VJn.add (w := z4561) (t := 0) (r := 0) w_3 (by omega) (fun j => by rw [e_s4590, x_up_q (by decide), e_s4578, x_up_q (by decide), e_s4570, x_up_at, e_s4563, x_up_q (by decide), t_s4557 250 j (show 3712 ∉ _ from by decide)]) (fun j => by rw [e_s4590, x_up_q (by decide), e_s4578, x_up_at, e_s4570, x_up_q (by decide), e_s4563, x_up_q (by decide), t_s4557 251 j (show 3776 ∉ _ from by decide)]) (fun j => by rw [e_s4590, x_up_q (by decide), e_s4578, x_up_q (by decide), e_s4570, x_up_q (by decide), e_s4563, x_up_at, t_s4557 252 j (show 3840 ∉ _ from by decide)]) ew_ et_ er_) (RTn.yes (p := z4587) w_4 (by omega) (by omega) p51_ (by omega) (fun j => by rw [e_s4590, x_up_at, e_s4578, x_up_q (by decide), e_s4570, x_up_q (by decide), e_s4563, x_up_q (by decide), t_s4557 249 j (show 3648 ∉ _ from by decide), show s 249 z4587.toNat + 1 = z4589 by omega])) (q4591).symm (q4592).symm  (by omega)
        · skip
          refine x_A k74_98 (fun _ => rfl) ?_
          refine x_getR k74_99 (f := 3) rfl (q := 243) (n := 13) (kd := 13) ⟨by decide, rfl⟩ (q2 := 244) (by decide) rfl ?_
          refine x_A k74_102 (fun _ => rfl) ?_
          refine x_A k74_104 (fun _ => rfl) ?_
          refine x_callV k74_105 (y := 22) (n := 2) (w0 := 2) (w1 := 2) (as := [vi z4568, vi 1]) (rest := [vi x2, .ref 250]) (by decide +kernel) (q := 244) (nq := 8) (kq := 14) ⟨by decide, rfl⟩ rfl rfl rfl rfl (xe_mono (E_X1_countSense_244 s4563 hG_s4563 z4568 (by first | exact x_rbe e_z4568 g_z4568 rfl rfl | exact x_rb g_z4568 rfl rfl | exact ⟨by omega, by omega⟩) 1 ⟨by decide, by decide⟩) ?_)
          rintro s4601 v ⟨-, t_s4601, z4600, rfl, g_z4600, xp_z4600⟩
          rw [t_s4601.nil]
          try rw [t_s4601.nil] at xp_z4600
          show xe none 74 108 [(4, vi z4568), (1, vi z4448), (3, vi z4448), (0, .ref 243), (2, vi x2)] [vi z4600, vi x2, .ref 250] s4563 0 0 _
          refine x_if_le k74_108 (t := 115) rfl (by first | exact x_rbe e_z4600 g_z4600 rfl rfl | exact x_rb g_z4600 rfl rfl | exact ⟨by omega, by omega⟩) (fun c4602 => ?_) (fun c4602 => ?_)
          · skip
            refine x_A k74_115 (fun _ => rfl) ?_
            have k54_ : s0 54 x2.toNat = z4568 := by rw [← f_s4563 54 _ (show 960 ∉ [3329, 3334, 3335, 3336, 3392, 3456, 3520, 3584, 3276, 3648, 3712, 3776, 3840] from by decide)]; exact e_z4568.symm
            have k55_ : s0 55 x2.toNat = z4448 := by rw [← f_s4563 55 _ (show 1024 ∉ [3329, 3334, 3335, 3336, 3392, 3456, 3520, 3584, 3276, 3648, 3712, 3776, 3840] from by decide)]; exact q4566
            have ct_ := (ctp_ge (P := fun i : Nat => bi (s0 54 x2.toNat) i = true ∧ seC s0 (s0 55 x2.toNat) i = 1) 6).2
            have cq_ : ctp (fun i : Nat => bi (s0 54 x2.toNat) i = true ∧ seC s0 (s0 55 x2.toNat) i = 1) 6 = z4600 := by rw [xp_z4600, k54_, k55_]; exact ctp_cg 6 (fun i hi => and_congr Iff.rfl (by show foF s0 z4448 (z4448 + 1).toNat (i : Int) = 1 ↔ _; rw [← FOj_s4563.1 (i : Int) (by omega) (by omega)]; exact Iff.rfl))
            have et_ : (0 : Int) = 1 ↔ tuC s0 x2 := ⟨fun q => ct_.mp (by omega), fun q => by have w := ct_.mpr q; omega⟩
            refine x_bast k74_116 (q := 250) (n := 120) ⟨by decide, rfl⟩ (by decide) (by first | exact x_rbl b_x2 rfl rfl | exact ⟨by omega, by omega⟩) ⟨by omega, by omega⟩ ?_
            refine x_nh (fun s4603 e_s4603 => ?_)
            have hG_s4603 : GI s4603 := by rw [e_s4603]; exact hG_s4563.up (show 0 ≤ 0 ∧ 0 ≤ 1 from ⟨by decide, by decide⟩)
            have f_s4603 : FL [3329, 3334, 3335, 3336, 3392, 3456, 3520, 3584, 3276, 3648, 3712, 3776, 3840] s0 s4603 := by rw [e_s4603]; exact f_s4563.up (show 3712 ∈ [3329, 3334, 3335, 3336, 3392, 3456, 3520, 3584, 3276, 3648, 3712, 3776, 3840] from by decide)
            have q4604 : s4603 50 6 = x1000 := by rw [e_s4603, x_up_q (by decide)]; exact q4564
            have q4605 : s4603 243 11 = x1001 := by rw [e_s4603, x_up_q (by decide)]; exact q4565
            have q4606 : s4603 55 x2.toNat = z4448 := by rw [e_s4603, x_up_q (by first | decide | omega)]; exact q4566
            have q4607 : s4603 252 x2.toNat = z4561 := by rw [e_s4603, x_up_q (by first | decide | omega)]; exact q4567
            have q4608 : s4603 54 x2.toNat = z4568 := by rw [e_s4603, x_up_q (by first | decide | omega)]; exact e_z4568.symm
            have q4609 : s4603 250 x2.toNat = 0 := by rw [e_s4603]; exact x_up_same
            have RTj_s4603 : RTn s4603 s0 x2 := by rw [e_s4603]; exact RTn.up RTj_s4563 (show 3712 ∉ [3648] from by decide)
            have FOj_s4603 : Fo s4603 s0 244 z4448 := by rw [e_s4603]; exact Fo.up FOj_s4563 (show 3712 ∉ LFO from by decide)
            refine x_A k74_117 (fun _ => rfl) ?_
            refine x_getR k74_118 (f := 6) rfl (q := 243) (n := 13) (kd := 13) ⟨by decide, rfl⟩ (q2 := 251) (by decide) rfl ?_
            refine x_A k74_121 (fun _ => rfl) ?_
            refine x_A k74_122 (fun _ => rfl) ?_
            refine x_if_ne k74_124 (t := 131) rfl (by first | exact x_rbe e_z4568 g_z4568 rfl rfl | exact x_rb g_z4568 rfl rfl | exact ⟨by omega, by omega⟩) (fun c4610 => ?_) (fun c4610 => by exfalso; omega)
            refine x_A k74_131 (fun _ => rfl) ?_
            refine x_getR k74_132 (f := 3) rfl (q := 243) (n := 13) (kd := 13) ⟨by decide, rfl⟩ (q2 := 244) (by decide) rfl ?_
            refine x_A k74_135 (fun _ => rfl) ?_
            refine x_A k74_137 (fun _ => rfl) ?_
            refine x_callV k74_138 (y := 22) (n := 2) (w0 := 2) (w1 := 2) (as := [vi z4568, vi 2]) (rest := [vi x2, .ref 251]) (by decide +kernel) (q := 244) (nq := 8) (kq := 14) ⟨by decide, rfl⟩ rfl rfl rfl rfl (xe_mono (E_X1_countSense_244 s4603 hG_s4603 z4568 (by first | exact x_rbe e_z4568 g_z4568 rfl rfl | exact x_rb g_z4568 rfl rfl | exact ⟨by omega, by omega⟩) 2 ⟨by decide, by decide⟩) ?_)
            rintro s4612 v ⟨-, t_s4612, z4611, rfl, g_z4611, xp_z4611⟩
            rw [t_s4612.nil]
            try rw [t_s4612.nil] at xp_z4611
            show xe none 74 141 [(4, vi z4568), (1, vi z4448), (3, vi z4448), (0, .ref 243), (2, vi x2)] [vi z4611, vi x2, .ref 251] s4603 0 0 _
            have er_ : z4611 = raC s0 x2 := by rw [xp_z4611]; unfold raC; rw [k54_, k55_]; exact ctp_cg 6 (fun i hi => and_congr Iff.rfl (by show _ ↔ foF s0 z4448 (z4448 + 1).toNat (i : Int) = 2; rw [← FOj_s4603.1 (i : Int) (by omega) (by omega)]; exact Iff.rfl))
            refine x_iast k74_141 (q := 251) (n := 120) ⟨by decide, rfl⟩ (by decide) (by first | exact x_rbl b_x2 rfl rfl | exact ⟨by omega, by omega⟩) ?_
            refine x_nh (fun s4613 e_s4613 => ?_)
            have hG_s4613 : GI s4613 := by rw [e_s4613]; exact hG_s4603.up (show 0 ≤ z4611 ∧ z4611 ≤ 6 from (by first | exact x_rbe e_z4611 g_z4611 rfl rfl | exact x_rb g_z4611 rfl rfl | exact ⟨by omega, by omega⟩))
            have f_s4613 : FL [3329, 3334, 3335, 3336, 3392, 3456, 3520, 3584, 3276, 3648, 3712, 3776, 3840] s0 s4613 := by rw [e_s4613]; exact f_s4603.up (show 3776 ∈ [3329, 3334, 3335, 3336, 3392, 3456, 3520, 3584, 3276, 3648, 3712, 3776, 3840] from by decide)
            have q4614 : s4613 50 6 = x1000 := by rw [e_s4613, x_up_q (by decide)]; exact q4604
            have q4615 : s4613 243 11 = x1001 := by rw [e_s4613, x_up_q (by decide)]; exact q4605
            have q4616 : s4613 55 x2.toNat = z4448 := by rw [e_s4613, x_up_q (by first | decide | omega)]; exact q4606
            have q4617 : s4613 252 x2.toNat = z4561 := by rw [e_s4613, x_up_q (by first | decide | omega)]; exact q4607
            have q4618 : s4613 54 x2.toNat = z4568 := by rw [e_s4613, x_up_q (by first | decide | omega)]; exact q4608
            have q4619 : s4613 250 x2.toNat = 0 := by rw [e_s4613, x_up_q (by first | decide | omega)]; exact q4609
            have q4620 : s4613 251 x2.toNat = z4611 := by rw [e_s4613]; exact x_up_same
            have RTj_s4613 : RTn s4613 s0 x2 := by rw [e_s4613]; exact RTn.up RTj_s4603 (show 3776 ∉ [3648] from by decide)
            have FOj_s4613 : Fo s4613 s0 244 z4448 := by rw [e_s4613]; exact Fo.up FOj_s4603 (show 3776 ∉ LFO from by decide)
            refine x_A k74_142 (fun _ => rfl) ?_
            refine x_getR k74_143 (f := 7) rfl (q := 243) (n := 13) (kd := 13) ⟨by decide, rfl⟩ (q2 := 252) (by decide) rfl ?_
            refine x_A k74_146 (fun _ => rfl) ?_
            refine x_iald k74_147 (q := 252) (n := 120) ⟨by decide, rfl⟩ (by decide) (by first | exact x_rbl b_x2 rfl rfl | exact ⟨by omega, by omega⟩) ?_
            refine x_rw (q4617) ?_
            refine x_if_ne k74_148 (t := 169) rfl (by first | exact x_rbe e_z4561 g_z4561 rfl rfl | exact x_rb g_z4561 rfl rfl | exact ⟨by omega, by omega⟩) (fun c4621 => ?_) (fun c4621 => ?_)
            · skip
              refine x_iinc k74_169 (ls' := [(2, vi (x2 + 1)), (4, vi z4568), (1, vi z4448), (3, vi z4448), (0, .ref 243)]) rfl (by decide) rfl ?_
              refine x_goto k74_172 (t := 25) rfl ?_
              refine x_ls (l := [(0, .ref 243), (1, vi z4448), (2, vi (x2 + 1))]) (show ([0, 1, 2] : List Nat).Nodup from by decide) ⟨rfl, rfl, rfl, trivial⟩ ?_
              exact ih s4613 z4448 (x2 + 1) x1000 x1001 hG_s4613 f_s4613 (by first | exact x_rbe e_z4448 g_z4448 rfl rfl | exact x_rb g_z4448 rfl rfl | exact ⟨by omega, by omega⟩) ⟨by omega, by omega⟩ (by first | exact x_rb b_x1000 rfl rfl | exact ⟨by omega, by omega⟩) (by first | exact x_rb b_x1001 rfl rfl | exact ⟨by omega, by omega⟩) (by omega) (by omega) (by omega) (by omega) (by omega) (fun _ => FOj_s4613) (VJn.add (w := z4561) (t := 0) (r := z4611) w_3 (by omega) (fun j => by rw [e_s4613, x_up_q (by decide), e_s4603, x_up_at, e_s4563, x_up_q (by decide), t_s4557 250 j (show 3712 ∉ _ from by decide)]) (fun j => by rw [e_s4613, x_up_at, e_s4603, x_up_q (by decide), e_s4563, x_up_q (by decide), t_s4557 251 j (show 3776 ∉ _ from by decide)]) (fun j => by rw [e_s4613, x_up_q (by decide), e_s4603, x_up_q (by decide), e_s4563, x_up_at, t_s4557 252 j (show 3840 ∉ _ from by decide)]) ew_ et_ er_) (RTn.no w_4 (by omega) (by omega) (funext fun j => by rw [e_s4613, x_up_q (by decide), e_s4603, x_up_q (by decide), e_s4563, x_up_q (by decide), t_s4557 249 j (show 3648 ∉ _ from by decide)])) (q4614).symm (q4615).symm  (by omega)
            · skip
              refine x_A k74_151 (fun _ => rfl) ?_
              refine x_getR k74_152 (f := 4) rfl (q := 243) (n := 13) (kd := 13) ⟨by decide, rfl⟩ (q2 := 249) (by decide) rfl ?_
              refine x_A k74_155 (fun _ => rfl) ?_
              refine x_getR k74_156 (f := 1) rfl (q := 243) (n := 13) (kd := 13) ⟨by decide, rfl⟩ (q2 := 50) (by decide) rfl ?_
              refine x_getR k74_159 (f := 0) rfl (q := 50) (n := 7) (kd := 6) ⟨by decide, rfl⟩ (q2 := 51) (by decide) rfl ?_
              refine x_A k74_162 (fun _ => rfl) ?_
              refine x_iald k74_163 (q := 51) (n := 120) ⟨by decide, rfl⟩ (by decide) (by first | exact x_rbl b_x2 rfl rfl | exact ⟨by omega, by omega⟩) ?_
              refine x_top (fun z4622 e_z4622 => ?_)
              have g_z4622 : (0 : Int) ≤ s4613 51 x2.toNat ∧ s4613 51 x2.toNat ≤ 39 := hG_s4613 51 x2.toNat
              refine x_A k74_164 (fun _ => rfl) ?_
              refine x_iald k74_165 (q := 249) (n := 40) ⟨by decide, rfl⟩ (by decide) (by first | exact x_rbel e_z4622 g_z4622 rfl rfl | exact x_rbl g_z4622 rfl rfl | exact ⟨by omega, by omega⟩) ?_
              refine x_top (fun z4623 e_z4623 => ?_)
              have g_z4623 : (-2147483648) ≤ s4613 249 z4622.toNat ∧ s4613 249 z4622.toNat ≤ 2147483647 := hG_s4613 249 z4622.toNat
              have rb_ := RTn.b RTj_s4613 (p := z4622) (by omega) ⟨by omega, by omega⟩
              rw [e_z4623.symm] at rb_
              have p51_ : s0 51 x2.toNat = z4622 := by rw [← f_s4613 51 _ (show 768 ∉ [3329, 3334, 3335, 3336, 3392, 3456, 3520, 3584, 3276, 3648, 3712, 3776, 3840] from by decide)]; exact e_z4622.symm
              have e249_ : s 249 z4622.toNat = z4623 := (show s4613 249 z4622.toNat = s 249 z4622.toNat from by rw [e_s4613, x_up_q (by decide), e_s4603, x_up_q (by decide), e_s4563, x_up_q (by decide), t_s4557 249 _ (show 3648 ∉ _ from by decide)]).symm.trans (e_z4623.symm)
              refine x_A k74_166 (fun _ => rfl) ?_
              refine x_iadd k74_167 ?_
              refine x_top (fun z4624 e_z4624 => ?_)
              refine x_iast k74_168 (q := 249) (n := 40) ⟨by decide, rfl⟩ (by decide) (by first | exact x_rbel e_z4622 g_z4622 rfl rfl | exact x_rbl g_z4622 rfl rfl | exact ⟨by omega, by omega⟩) ?_
              refine x_nh (fun s4625 e_s4625 => ?_)
              have hG_s4625 : GI s4625 := by rw [e_s4625]; exact hG_s4613.up (show (-2147483648) ≤ z4624 ∧ z4624 ≤ 2147483647 from (by first | exact x_rbe e_z4624 g_z4624 rfl rfl | exact x_rb g_z4624 rfl rfl | exact ⟨by omega, by omega⟩))
              have f_s4625 : FL [3329, 3334, 3335, 3336, 3392, 3456, 3520, 3584, 3276, 3648, 3712, 3776, 3840] s0 s4625 := by rw [e_s4625]; exact f_s4613.up (show 3648 ∈ [3329, 3334, 3335, 3336, 3392, 3456, 3520, 3584, 3276, 3648, 3712, 3776, 3840] from by decide)
              have q4626 : s4625 50 6 = x1000 := by rw [e_s4625, x_up_q (by decide)]; exact q4614
              have q4627 : s4625 243 11 = x1001 := by rw [e_s4625, x_up_q (by decide)]; exact q4615
              have q4628 : s4625 55 x2.toNat = z4448 := by rw [e_s4625, x_up_q (by first | decide | omega)]; exact q4616
              have q4629 : s4625 252 x2.toNat = z4561 := by rw [e_s4625, x_up_q (by first | decide | omega)]; exact q4617
              have q4630 : s4625 54 x2.toNat = z4568 := by rw [e_s4625, x_up_q (by first | decide | omega)]; exact q4618
              have q4631 : s4625 250 x2.toNat = 0 := by rw [e_s4625, x_up_q (by first | decide | omega)]; exact q4619
              have q4632 : s4625 251 x2.toNat = z4611 := by rw [e_s4625, x_up_q (by first | decide | omega)]; exact q4620
              have q4633 : s4625 51 x2.toNat = z4622 := by rw [e_s4625, x_up_q (by first | decide | omega)]; exact e_z4622.symm
              have q4634 : s4625 249 z4622.toNat = z4624 := by rw [e_s4625]; exact x_up_same
              have FOj_s4625 : Fo s4625 s0 244 z4448 := by rw [e_s4625]; exact Fo.up FOj_s4613 (show 3648 ∉ LFO from by decide)
              refine x_iinc k74_169 (ls' := [(2, vi (x2 + 1)), (4, vi z4568), (1, vi z4448), (3, vi z4448), (0, .ref 243)]) rfl (by decide) rfl ?_
              refine x_goto k74_172 (t := 25) rfl ?_
              refine x_ls (l := [(0, .ref 243), (1, vi z4448), (2, vi (x2 + 1))]) (show ([0, 1, 2] : List Nat).Nodup from by decide) ⟨rfl, rfl, rfl, trivial⟩ ?_
              exact ih s4625 z4448 (x2 + 1) x1000 x1001 hG_s4625 f_s4625 (by first | exact x_rbe e_z4448 g_z4448 rfl rfl | exact x_rb g_z4448 rfl rfl | exact ⟨by omega, by omega⟩) ⟨by omega, by omega⟩ (by first | exact x_rb b_x1000 rfl rfl | exact ⟨by omega, by omega⟩) (by first | exact x_rb b_x1001 rfl rfl | exact ⟨by omega, by omega⟩) (by omega) (by omega) (by omega) (by omega) (by omega) (fun _ => FOj_s4625) (VJn.add (w := z4561) (t := 0) (r := z4611) w_3 (by omega) (fun j => by rw [e_s4625, x_up_q (by decide), e_s4613, x_up_q (by decide), e_s4603, x_up_at, e_s4563, x_up_q (by decide), t_s4557 250 j (show 3712 ∉ _ from by decide)]) (fun j => by rw [e_s4625, x_up_q (by decide), e_s4613, x_up_at, e_s4603, x_up_q (by decide), e_s4563, x_up_q (by decide), t_s4557 251 j (show 3776 ∉ _ from by decide)]) (fun j => by rw [e_s4625, x_up_q (by decide), e_s4613, x_up_q (by decide), e_s4603, x_up_q (by decide), e_s4563, x_up_at, t_s4557 252 j (show 3840 ∉ _ from by decide)]) ew_ et_ er_) (RTn.yes (p := z4622) w_4 (by omega) (by omega) p51_ (by omega) (fun j => by rw [e_s4625, x_up_at, e_s4613, x_up_q (by decide), e_s4603, x_up_q (by decide), e_s4563, x_up_q (by decide), t_s4557 249 j (show 3648 ∉ _ from by decide), show s 249 z4622.toNat + 1 = z4624 by omega])) (q4626).symm (q4627).symm  (by omega)
          · skip
            refine x_A k74_111 (fun _ => rfl) ?_
            refine x_goto k74_112 (t := 116) rfl ?_
            have k54_ : s0 54 x2.toNat = z4568 := by rw [← f_s4563 54 _ (show 960 ∉ [3329, 3334, 3335, 3336, 3392, 3456, 3520, 3584, 3276, 3648, 3712, 3776, 3840] from by decide)]; exact e_z4568.symm
            have k55_ : s0 55 x2.toNat = z4448 := by rw [← f_s4563 55 _ (show 1024 ∉ [3329, 3334, 3335, 3336, 3392, 3456, 3520, 3584, 3276, 3648, 3712, 3776, 3840] from by decide)]; exact q4566
            have ct_ := (ctp_ge (P := fun i : Nat => bi (s0 54 x2.toNat) i = true ∧ seC s0 (s0 55 x2.toNat) i = 1) 6).2
            have cq_ : ctp (fun i : Nat => bi (s0 54 x2.toNat) i = true ∧ seC s0 (s0 55 x2.toNat) i = 1) 6 = z4600 := by rw [xp_z4600, k54_, k55_]; exact ctp_cg 6 (fun i hi => and_congr Iff.rfl (by show foF s0 z4448 (z4448 + 1).toNat (i : Int) = 1 ↔ _; rw [← FOj_s4563.1 (i : Int) (by omega) (by omega)]; exact Iff.rfl))
            have et_ : (1 : Int) = 1 ↔ tuC s0 x2 := ⟨fun q => ct_.mp (by omega), fun q => by have w := ct_.mpr q; omega⟩
            refine x_bast k74_116 (q := 250) (n := 120) ⟨by decide, rfl⟩ (by decide) (by first | exact x_rbl b_x2 rfl rfl | exact ⟨by omega, by omega⟩) ⟨by omega, by omega⟩ ?_
            refine x_nh (fun s4635 e_s4635 => ?_)
            have hG_s4635 : GI s4635 := by rw [e_s4635]; exact hG_s4563.up (show 0 ≤ 1 ∧ 1 ≤ 1 from ⟨by decide, by decide⟩)
            have f_s4635 : FL [3329, 3334, 3335, 3336, 3392, 3456, 3520, 3584, 3276, 3648, 3712, 3776, 3840] s0 s4635 := by rw [e_s4635]; exact f_s4563.up (show 3712 ∈ [3329, 3334, 3335, 3336, 3392, 3456, 3520, 3584, 3276, 3648, 3712, 3776, 3840] from by decide)
            have q4636 : s4635 50 6 = x1000 := by rw [e_s4635, x_up_q (by decide)]; exact q4564
            have q4637 : s4635 243 11 = x1001 := by rw [e_s4635, x_up_q (by decide)]; exact q4565
            have q4638 : s4635 55 x2.toNat = z4448 := by rw [e_s4635, x_up_q (by first | decide | omega)]; exact q4566
            have q4639 : s4635 252 x2.toNat = z4561 := by rw [e_s4635, x_up_q (by first | decide | omega)]; exact q4567
            have q4640 : s4635 54 x2.toNat = z4568 := by rw [e_s4635, x_up_q (by first | decide | omega)]; exact e_z4568.symm
            have q4641 : s4635 250 x2.toNat = 1 := by rw [e_s4635]; exact x_up_same
            have RTj_s4635 : RTn s4635 s0 x2 := by rw [e_s4635]; exact RTn.up RTj_s4563 (show 3712 ∉ [3648] from by decide)
            have FOj_s4635 : Fo s4635 s0 244 z4448 := by rw [e_s4635]; exact Fo.up FOj_s4563 (show 3712 ∉ LFO from by decide)
            refine x_A k74_117 (fun _ => rfl) ?_
            refine x_getR k74_118 (f := 6) rfl (q := 243) (n := 13) (kd := 13) ⟨by decide, rfl⟩ (q2 := 251) (by decide) rfl ?_
            refine x_A k74_121 (fun _ => rfl) ?_
            refine x_A k74_122 (fun _ => rfl) ?_
            refine x_if_ne k74_124 (t := 131) rfl (by first | exact x_rbe e_z4568 g_z4568 rfl rfl | exact x_rb g_z4568 rfl rfl | exact ⟨by omega, by omega⟩) (fun c4642 => ?_) (fun c4642 => by exfalso; omega)
            refine x_A k74_131 (fun _ => rfl) ?_
            refine x_getR k74_132 (f := 3) rfl (q := 243) (n := 13) (kd := 13) ⟨by decide, rfl⟩ (q2 := 244) (by decide) rfl ?_
            refine x_A k74_135 (fun _ => rfl) ?_
            refine x_A k74_137 (fun _ => rfl) ?_
            refine x_callV k74_138 (y := 22) (n := 2) (w0 := 2) (w1 := 2) (as := [vi z4568, vi 2]) (rest := [vi x2, .ref 251]) (by decide +kernel) (q := 244) (nq := 8) (kq := 14) ⟨by decide, rfl⟩ rfl rfl rfl rfl (xe_mono (E_X1_countSense_244 s4635 hG_s4635 z4568 (by first | exact x_rbe e_z4568 g_z4568 rfl rfl | exact x_rb g_z4568 rfl rfl | exact ⟨by omega, by omega⟩) 2 ⟨by decide, by decide⟩) ?_)
            rintro s4644 v ⟨-, t_s4644, z4643, rfl, g_z4643, xp_z4643⟩
            rw [t_s4644.nil]
            try rw [t_s4644.nil] at xp_z4643
            show xe none 74 141 [(4, vi z4568), (1, vi z4448), (3, vi z4448), (0, .ref 243), (2, vi x2)] [vi z4643, vi x2, .ref 251] s4635 0 0 _
            have er_ : z4643 = raC s0 x2 := by rw [xp_z4643]; unfold raC; rw [k54_, k55_]; exact ctp_cg 6 (fun i hi => and_congr Iff.rfl (by show _ ↔ foF s0 z4448 (z4448 + 1).toNat (i : Int) = 2; rw [← FOj_s4635.1 (i : Int) (by omega) (by omega)]; exact Iff.rfl))
            refine x_iast k74_141 (q := 251) (n := 120) ⟨by decide, rfl⟩ (by decide) (by first | exact x_rbl b_x2 rfl rfl | exact ⟨by omega, by omega⟩) ?_
            refine x_nh (fun s4645 e_s4645 => ?_)
            have hG_s4645 : GI s4645 := by rw [e_s4645]; exact hG_s4635.up (show 0 ≤ z4643 ∧ z4643 ≤ 6 from (by first | exact x_rbe e_z4643 g_z4643 rfl rfl | exact x_rb g_z4643 rfl rfl | exact ⟨by omega, by omega⟩))
            have f_s4645 : FL [3329, 3334, 3335, 3336, 3392, 3456, 3520, 3584, 3276, 3648, 3712, 3776, 3840] s0 s4645 := by rw [e_s4645]; exact f_s4635.up (show 3776 ∈ [3329, 3334, 3335, 3336, 3392, 3456, 3520, 3584, 3276, 3648, 3712, 3776, 3840] from by decide)
            have q4646 : s4645 50 6 = x1000 := by rw [e_s4645, x_up_q (by decide)]; exact q4636
            have q4647 : s4645 243 11 = x1001 := by rw [e_s4645, x_up_q (by decide)]; exact q4637
            have q4648 : s4645 55 x2.toNat = z4448 := by rw [e_s4645, x_up_q (by first | decide | omega)]; exact q4638
            have q4649 : s4645 252 x2.toNat = z4561 := by rw [e_s4645, x_up_q (by first | decide | omega)]; exact q4639
            have q4650 : s4645 54 x2.toNat = z4568 := by rw [e_s4645, x_up_q (by first | decide | omega)]; exact q4640
            have q4651 : s4645 250 x2.toNat = 1 := by rw [e_s4645, x_up_q (by first | decide | omega)]; exact q4641
            have q4652 : s4645 251 x2.toNat = z4643 := by rw [e_s4645]; exact x_up_same
            have RTj_s4645 : RTn s4645 s0 x2 := by rw [e_s4645]; exact RTn.up RTj_s4635 (show 3776 ∉ [3648] from by decide)
            have FOj_s4645 : Fo s4645 s0 244 z4448 := by rw [e_s4645]; exact Fo.up FOj_s4635 (show 3776 ∉ LFO from by decide)
            refine x_A k74_142 (fun _ => rfl) ?_
            refine x_getR k74_143 (f := 7) rfl (q := 243) (n := 13) (kd := 13) ⟨by decide, rfl⟩ (q2 := 252) (by decide) rfl ?_
            refine x_A k74_146 (fun _ => rfl) ?_
            refine x_iald k74_147 (q := 252) (n := 120) ⟨by decide, rfl⟩ (by decide) (by first | exact x_rbl b_x2 rfl rfl | exact ⟨by omega, by omega⟩) ?_
            refine x_rw (q4649) ?_
            refine x_if_ne k74_148 (t := 169) rfl (by first | exact x_rbe e_z4561 g_z4561 rfl rfl | exact x_rb g_z4561 rfl rfl | exact ⟨by omega, by omega⟩) (fun c4653 => ?_) (fun c4653 => ?_)
            · skip
              refine x_iinc k74_169 (ls' := [(2, vi (x2 + 1)), (4, vi z4568), (1, vi z4448), (3, vi z4448), (0, .ref 243)]) rfl (by decide) rfl ?_
              refine x_goto k74_172 (t := 25) rfl ?_
              refine x_ls (l := [(0, .ref 243), (1, vi z4448), (2, vi (x2 + 1))]) (show ([0, 1, 2] : List Nat).Nodup from by decide) ⟨rfl, rfl, rfl, trivial⟩ ?_
              exact ih s4645 z4448 (x2 + 1) x1000 x1001 hG_s4645 f_s4645 (by first | exact x_rbe e_z4448 g_z4448 rfl rfl | exact x_rb g_z4448 rfl rfl | exact ⟨by omega, by omega⟩) ⟨by omega, by omega⟩ (by first | exact x_rb b_x1000 rfl rfl | exact ⟨by omega, by omega⟩) (by first | exact x_rb b_x1001 rfl rfl | exact ⟨by omega, by omega⟩) (by omega) (by omega) (by omega) (by omega) (by omega) (fun _ => FOj_s4645) (VJn.add (w := z4561) (t := 1) (r := z4643) w_3 (by omega) (fun j => by rw [e_s4645, x_up_q (by decide), e_s4635, x_up_at, e_s4563, x_up_q (by decide), t_s4557 250 j (show 3712 ∉ _ from by decide)]) (fun j => by rw [e_s4645, x_up_at, e_s4635, x_up_q (by decide), e_s4563, x_up_q (by decide), t_s4557 251 j (show 3776 ∉ _ from by decide)]) (fun j => by rw [e_s4645, x_up_q (by decide), e_s4635, x_up_q (by decide), e_s4563, x_up_at, t_s4557 252 j (show 3840 ∉ _ from by decide)]) ew_ et_ er_) (RTn.no w_4 (by omega) (by omega) (funext fun j => by rw [e_s4645, x_up_q (by decide), e_s4635, x_up_q (by decide), e_s4563, x_up_q (by decide), t_s4557 249 j (show 3648 ∉ _ from by decide)])) (q4646).symm (q4647).symm  (by omega)
            · skip
              refine x_A k74_151 (fun _ => rfl) ?_
              refine x_getR k74_152 (f := 4) rfl (q := 243) (n := 13) (kd := 13) ⟨by decide, rfl⟩ (q2 := 249) (by decide) rfl ?_
              refine x_A k74_155 (fun _ => rfl) ?_
              refine x_getR k74_156 (f := 1) rfl (q := 243) (n := 13) (kd := 13) ⟨by decide, rfl⟩ (q2 := 50) (by decide) rfl ?_
              refine x_getR k74_159 (f := 0) rfl (q := 50) (n := 7) (kd := 6) ⟨by decide, rfl⟩ (q2 := 51) (by decide) rfl ?_
              refine x_A k74_162 (fun _ => rfl) ?_
              refine x_iald k74_163 (q := 51) (n := 120) ⟨by decide, rfl⟩ (by decide) (by first | exact x_rbl b_x2 rfl rfl | exact ⟨by omega, by omega⟩) ?_
              refine x_top (fun z4654 e_z4654 => ?_)
              have g_z4654 : (0 : Int) ≤ s4645 51 x2.toNat ∧ s4645 51 x2.toNat ≤ 39 := hG_s4645 51 x2.toNat
              refine x_A k74_164 (fun _ => rfl) ?_
              refine x_iald k74_165 (q := 249) (n := 40) ⟨by decide, rfl⟩ (by decide) (by first | exact x_rbel e_z4654 g_z4654 rfl rfl | exact x_rbl g_z4654 rfl rfl | exact ⟨by omega, by omega⟩) ?_
              refine x_top (fun z4655 e_z4655 => ?_)
              have g_z4655 : (-2147483648) ≤ s4645 249 z4654.toNat ∧ s4645 249 z4654.toNat ≤ 2147483647 := hG_s4645 249 z4654.toNat
              have rb_ := RTn.b RTj_s4645 (p := z4654) (by omega) ⟨by omega, by omega⟩
              rw [e_z4655.symm] at rb_
              have p51_ : s0 51 x2.toNat = z4654 := by rw [← f_s4645 51 _ (show 768 ∉ [3329, 3334, 3335, 3336, 3392, 3456, 3520, 3584, 3276, 3648, 3712, 3776, 3840] from by decide)]; exact e_z4654.symm
              have e249_ : s 249 z4654.toNat = z4655 := (show s4645 249 z4654.toNat = s 249 z4654.toNat from by rw [e_s4645, x_up_q (by decide), e_s4635, x_up_q (by decide), e_s4563, x_up_q (by decide), t_s4557 249 _ (show 3648 ∉ _ from by decide)]).symm.trans (e_z4655.symm)
              refine x_A k74_166 (fun _ => rfl) ?_
              refine x_iadd k74_167 ?_
              refine x_top (fun z4656 e_z4656 => ?_)
              refine x_iast k74_168 (q := 249) (n := 40) ⟨by decide, rfl⟩ (by decide) (by first | exact x_rbel e_z4654 g_z4654 rfl rfl | exact x_rbl g_z4654 rfl rfl | exact ⟨by omega, by omega⟩) ?_
              refine x_nh (fun s4657 e_s4657 => ?_)
              have hG_s4657 : GI s4657 := by rw [e_s4657]; exact hG_s4645.up (show (-2147483648) ≤ z4656 ∧ z4656 ≤ 2147483647 from (by first | exact x_rbe e_z4656 g_z4656 rfl rfl | exact x_rb g_z4656 rfl rfl | exact ⟨by omega, by omega⟩))
              have f_s4657 : FL [3329, 3334, 3335, 3336, 3392, 3456, 3520, 3584, 3276, 3648, 3712, 3776, 3840] s0 s4657 := by rw [e_s4657]; exact f_s4645.up (show 3648 ∈ [3329, 3334, 3335, 3336, 3392, 3456, 3520, 3584, 3276, 3648, 3712, 3776, 3840] from by decide)
              have q4658 : s4657 50 6 = x1000 := by rw [e_s4657, x_up_q (by decide)]; exact q4646
              have q4659 : s4657 243 11 = x1001 := by rw [e_s4657, x_up_q (by decide)]; exact q4647
              have q4660 : s4657 55 x2.toNat = z4448 := by rw [e_s4657, x_up_q (by first | decide | omega)]; exact q4648
              have q4661 : s4657 252 x2.toNat = z4561 := by rw [e_s4657, x_up_q (by first | decide | omega)]; exact q4649
              have q4662 : s4657 54 x2.toNat = z4568 := by rw [e_s4657, x_up_q (by first | decide | omega)]; exact q4650
              have q4663 : s4657 250 x2.toNat = 1 := by rw [e_s4657, x_up_q (by first | decide | omega)]; exact q4651
              have q4664 : s4657 251 x2.toNat = z4643 := by rw [e_s4657, x_up_q (by first | decide | omega)]; exact q4652
              have q4665 : s4657 51 x2.toNat = z4654 := by rw [e_s4657, x_up_q (by first | decide | omega)]; exact e_z4654.symm
              have q4666 : s4657 249 z4654.toNat = z4656 := by rw [e_s4657]; exact x_up_same
              have FOj_s4657 : Fo s4657 s0 244 z4448 := by rw [e_s4657]; exact Fo.up FOj_s4645 (show 3648 ∉ LFO from by decide)
              refine x_iinc k74_169 (ls' := [(2, vi (x2 + 1)), (4, vi z4568), (1, vi z4448), (3, vi z4448), (0, .ref 243)]) rfl (by decide) rfl ?_
              refine x_goto k74_172 (t := 25) rfl ?_
              refine x_ls (l := [(0, .ref 243), (1, vi z4448), (2, vi (x2 + 1))]) (show ([0, 1, 2] : List Nat).Nodup from by decide) ⟨rfl, rfl, rfl, trivial⟩ ?_
              exact ih s4657 z4448 (x2 + 1) x1000 x1001 hG_s4657 f_s4657 (by first | exact x_rbe e_z4448 g_z4448 rfl rfl | exact x_rb g_z4448 rfl rfl | exact ⟨by omega, by omega⟩) ⟨by omega, by omega⟩ (by first | exact x_rb b_x1000 rfl rfl | exact ⟨by omega, by omega⟩) (by first | exact x_rb b_x1001 rfl rfl | exact ⟨by omega, by omega⟩) (by omega) (by omega) (by omega) (by omega) (by omega) (fun _ => FOj_s4657) (VJn.add (w := z4561) (t := 1) (r := z4643) w_3 (by omega) (fun j => by rw [e_s4657, x_up_q (by decide), e_s4645, x_up_q (by decide), e_s4635, x_up_at, e_s4563, x_up_q (by decide), t_s4557 250 j (show 3712 ∉ _ from by decide)]) (fun j => by rw [e_s4657, x_up_q (by decide), e_s4645, x_up_at, e_s4635, x_up_q (by decide), e_s4563, x_up_q (by decide), t_s4557 251 j (show 3776 ∉ _ from by decide)]) (fun j => by rw [e_s4657, x_up_q (by decide), e_s4645, x_up_q (by decide), e_s4635, x_up_q (by decide), e_s4563, x_up_at, t_s4557 252 j (show 3840 ∉ _ from by decide)]) ew_ et_ er_) (RTn.yes (p := z4654) w_4 (by omega) (by omega) p51_ (by omega) (fun j => by rw [e_s4657, x_up_at, e_s4645, x_up_q (by decide), e_s4635, x_up_q (by decide), e_s4563, x_up_q (by decide), t_s4557 249 j (show 3648 ∉ _ from by decide), show s 249 z4654.toNat + 1 = z4656 by omega])) (q4658).symm (q4659).symm  (by omega)
