set_option maxHeartbeats 8000000 in
theorem E_X8_judge_243 (s0 : xS) (hG0 : GI s0) (hJ0 : J s0) (pR : R1 s0) (pv : s0 243 11 ≠ 0 → VJ s0 s0) : xe none 74 0 (lv_args 0 [.ref 243]) [] s0 0 0 (fun s' v => GI s' ∧ FL [3329, 3334, 3335, 3336, 3392, 3456, 3520, 3584, 3276, 3648, 3712, 3776, 3840] s0 s' ∧ v = none ∧ (VJ s' s0 ∧ s' 243 11 ≠ 0)) := by
  have f0 : FL [3329, 3334, 3335, 3336, 3392, 3456, 3520, 3584, 3276, 3648, 3712, 3776, 3840] s0 s0 := FL.rf
  show xe none 74 0 [(0, .ref 243)] [] s0 0 0 _
  refine x_A k74_0 (fun _ => rfl) ?_
  refine x_getI k74_1 (f := 11) rfl (q := 243) (n := 13) (kd := 13) ⟨by decide, rfl⟩ (by decide) rfl ?_
  refine x_top (fun z4667 e_z4667 => ?_)
  have g_z4667 : (0 : Int) ≤ s0 243 11 ∧ s0 243 11 ≤ 1 := hG0 243 11
  refine x_if_eq k74_4 (t := 8) rfl (by first | exact x_rbe e_z4667 g_z4667 rfl rfl | exact x_rb g_z4667 rfl rfl | exact ⟨by omega, by omega⟩) (fun c4668 => ?_) (fun c4668 => ?_)
  · skip
    refine x_A k74_8 (fun _ => rfl) ?_
    refine x_A k74_9 (fun _ => rfl) ?_
    refine x_putZ k74_10 (f := 11) rfl (q := 243) (n := 13) (kd := 13) ⟨by decide, rfl⟩ rfl rfl rfl ⟨by omega, by omega⟩ ?_
    refine x_nh (fun s4669 e_s4669 => ?_)
    have hG_s4669 : GI s4669 := by rw [e_s4669]; exact hG0.up (show 0 ≤ 1 ∧ 1 ≤ 1 from ⟨by decide, by decide⟩)
    have f_s4669 : FL [3329, 3334, 3335, 3336, 3392, 3456, 3520, 3584, 3276, 3648, 3712, 3776, 3840] s0 s4669 := by rw [e_s4669]; exact f0.up (show 3276 ∈ [3329, 3334, 3335, 3336, 3392, 3456, 3520, 3584, 3276, 3648, 3712, 3776, 3840] from by decide)
    have q4670 : s4669 243 11 = 1 := by rw [e_s4669]; exact x_up_same
    refine x_A k74_13 (fun _ => rfl) ?_
    refine x_getR k74_14 (f := 4) rfl (q := 243) (n := 13) (kd := 13) ⟨by decide, rfl⟩ (q2 := 249) (by decide) rfl ?_
    refine x_A k74_17 (fun _ => rfl) ?_
    refine x_callS k74_18 (y := 229) (n := 2) (w0 := 0) (w1 := 2) (as := [.ref 249, vi 0]) (rest := []) (by decide +kernel) rfl rfl rfl rfl (xe_mono (E249_J7_fill_53178_249_c0 s4669 hG_s4669 0 ⟨by decide, by decide⟩) ?_)
    rintro s4672 v ⟨hG_s4672, t_s4672, rfl, xp_z4671⟩
    have f_s4672 : FL [3329, 3334, 3335, 3336, 3392, 3456, 3520, 3584, 3276, 3648, 3712, 3776, 3840] s0 s4672 := f_s4669.tr t_s4672 (by decide)
    have q4673 : s4672 243 11 = 1 := (t_s4672 243 11 (show 3276 ∉ [3648] from by decide)).trans q4670
    show xe none 74 21 [(0, .ref 243)] [] s4672 0 0 _
    have e506_ : s4672 50 6 = s0 50 6 := f_s4672 50 6 (show 711 ∉ [3329, 3334, 3335, 3336, 3392, 3456, 3520, 3584, 3276, 3648, 3712, 3776, 3840] from by decide)
    refine x_A k74_21 (fun _ => rfl) ?_
    refine x_istore_n k74_22 (ls' := [(1, vi (-1)), (0, .ref 243)]) (by decide) rfl ?_
    refine x_A k74_23 (fun _ => rfl) ?_
    refine x_istore_n k74_24 (ls' := [(2, vi 0), (1, vi (-1)), (0, .ref 243)]) (by decide) rfl ?_
    obtain ⟨z4674, e_z4674⟩ : ∃ z, z = s4672 50 6 := ⟨_, rfl⟩
    have g_z4674 : (0 : Int) ≤ s4672 50 6 ∧ s4672 50 6 ≤ 120 := hG_s4672 50 6
    refine x_ls (l := [(0, .ref 243), (1, vi (-1)), (2, vi 0)]) (show ([0, 1, 2] : List Nat).Nodup from by decide) ⟨rfl, rfl, rfl, trivial⟩ ?_
    exact L_E_X8_judge_243_25 s0 hJ0 hG0 pR pv  (((120 - 0) + 1 : Int)).toNat s4672 (-1) 0 z4674 1 hG_s4672 f_s4672 ⟨by decide, by decide⟩ ⟨by decide, by decide⟩ (by first | exact x_rbe e_z4674 g_z4674 rfl rfl | exact x_rb g_z4674 rfl rfl | exact ⟨by omega, by omega⟩) ⟨by decide, by decide⟩ (by omega) (by omega) (by omega) (by omega) (by omega) (fun q => by omega) VJn_0 (RTn_0 (fun j hj => xp_z4671 j hj)) (e_z4674.symm).symm (q4673).symm  (by omega)
  · skip
    exact x_vret k74_7 rfl ⟨hG0, f0, rfl, ⟨pv (by omega), by omega⟩⟩
