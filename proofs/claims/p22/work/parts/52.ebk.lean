set_option maxHeartbeats 8000000 in
theorem L_W_X11_work_256_0 (s0 : xS) (a : Int) (b_a : 0 ≤ a ∧ a ≤ 2) (pt : s0 256 47 + s0 256 48 ≤ 100) (pa : s0 256 43 ≤ 7)  : ∀ (n : Nat) (s : xS) (x1 : Int) (x1000 : Int) (x1001 : Int) (x1002 : Int) (hG : GI s) (f : FL [6080, 6144, 4144, 4145] s0 s) (b_x1 : 0 ≤ x1 ∧ x1 ≤ 2) (b_x1000 : 0 ≤ x1000 ∧ x1000 ≤ 120) (b_x1001 : 0 ≤ x1001 ∧ x1001 ≤ 110) (b_x1002 : 0 ≤ x1002 ∧ x1002 ≤ 8) (w_0 : x1 = a) (w_1 : x1000 + x1001 = s0 256 47 + s0 256 48) (w_2 : x1002 = s0 256 43) (w_3 : WkI s0 s a) (e_x1000 : x1000 = s 256 48) (e_x1001 : x1001 = s 256 47) (e_x1002 : x1002 = s 256 43) (i_J : J s) (i_AW1 : AW s 1 (cn3 (s0 289) (s0 256 48).toNat) (s0 256 47 + s0 256 48))  (hm : x1000 < (n : Int)), xe none 195 0 [(0, .ref 256), (1, vi x1)] [] s 0 0 (fun s' v => GI s' ∧ FL [6080, 6144, 4144, 4145] s0 s' ∧ v = none ∧ ((s' 256 48 = 0 ∨ s' 289 (s' 256 48 - 1).toNat = 3 ∨ s' 289 (s' 256 48 - 1).toNat < a) ∧ WkW s0 s' a) ∧ J s' ∧ AW s' 1 (cn3 (s0 289) (s0 256 48).toNat) (s0 256 47 + s0 256 48)) := by
  intro n
  induction n with
  | zero => intro s x1 x1000 x1001 x1002 hG f b_x1 b_x1000 b_x1001 b_x1002 w_0 w_1 w_2 w_3 e_x1000 e_x1001 e_x1002 i_J i_AW1  hm; exfalso; omega
  | succ n ih =>
    intro s x1 x1000 x1001 x1002 hG f b_x1 b_x1000 b_x1001 b_x1002 w_0 w_1 w_2 w_3 e_x1000 e_x1001 e_x1002 i_J i_AW1  hm
    refine x_A k195_0 (fun _ => rfl) ?_
    refine x_getI k195_1 (f := 48) rfl (q := 256) (n := 62) (kd := 15) ⟨by decide, rfl⟩ (by decide) rfl ?_
    refine x_rw (e_x1000.symm) ?_
    refine x_if_le k195_4 (t := 64) rfl ⟨by omega, by omega⟩ (fun c76 => ?_) (fun c76 => ?_)
    · skip
      exact x_vret k195_64 rfl ⟨hG, f, rfl, ⟨Or.inl (by omega), w_3.fin0 (by omega)⟩, i_J, i_AW1⟩
    · skip
      refine x_A k195_7 (fun _ => rfl) ?_
      refine x_getR k195_8 (f := 49) rfl (q := 256) (n := 62) (kd := 15) ⟨by decide, rfl⟩ (q2 := 289) (by decide) rfl ?_
      refine x_A k195_11 (fun _ => rfl) ?_
      refine x_getI k195_12 (f := 48) rfl (q := 256) (n := 62) (kd := 15) ⟨by decide, rfl⟩ (by decide) rfl ?_
      refine x_rw (e_x1000.symm) ?_
      refine x_A k195_15 (fun _ => rfl) ?_
      refine x_isub k195_16 ?_
      refine x_top (fun z77 e_z77 => ?_)
      refine x_iald k195_17 (q := 289) (n := 120) ⟨by decide, rfl⟩ (by decide) ⟨by omega, by omega⟩ ?_
      refine x_top (fun z78 e_z78 => ?_)
      have g_z78 : (0 : Int) ≤ s 289 z77.toNat ∧ s 289 z77.toNat ≤ 3 := hG 289 z77.toNat
      refine x_A k195_18 (fun _ => rfl) ?_
      refine x_ic_eq k195_19 (t := 64) rfl ⟨by omega, by omega⟩ ⟨by omega, by omega⟩ (fun c79 => ?_) (fun c79 => ?_)
      · skip
        exact x_vret k195_64 rfl ⟨hG, f, rfl, ⟨Or.inr (by rw [← e_x1000, show x1000 - 1 = z77 by omega, e_z78.symm]; omega), w_3.fin1 (by omega) (by rw [show (s 256 48 - 1).toNat = z77.toNat by omega, ← e_z78]; omega)⟩, i_J, i_AW1⟩
      · skip
        refine x_A k195_22 (fun _ => rfl) ?_
        refine x_getR k195_23 (f := 49) rfl (q := 256) (n := 62) (kd := 15) ⟨by decide, rfl⟩ (q2 := 289) (by decide) rfl ?_
        refine x_A k195_26 (fun _ => rfl) ?_
        refine x_getI k195_27 (f := 48) rfl (q := 256) (n := 62) (kd := 15) ⟨by decide, rfl⟩ (by decide) rfl ?_
        refine x_rw (e_x1000.symm) ?_
        refine x_A k195_30 (fun _ => rfl) ?_
        refine x_isub k195_31 ?_
        refine x_top (fun z80 e_z80 => ?_)
        refine x_iald k195_32 (q := 289) (n := 120) ⟨by decide, rfl⟩ (by decide) ⟨by omega, by omega⟩ ?_
        refine x_top (fun z81 e_z81 => ?_)
        have g_z81 : (0 : Int) ≤ s 289 z80.toNat ∧ s 289 z80.toNat ≤ 3 := hG 289 z80.toNat
        have ew2_ : z81 = z78 := by rw [e_z81, e_z78, show z80 = z77 by omega]
        refine x_A k195_33 (fun _ => rfl) ?_
        refine x_ic_lt k195_34 (t := 64) rfl ⟨by omega, by omega⟩ ⟨by omega, by omega⟩ (fun c82 => ?_) (fun c82 => ?_)
        · skip
          exact x_vret k195_64 rfl ⟨hG, f, rfl, ⟨Or.inr (by rw [← e_x1000, show x1000 - 1 = z80 by omega, e_z81.symm]; omega), w_3.fin1 (by omega) (by rw [show (s 256 48 - 1).toNat = z80.toNat by omega, ← e_z81]; omega)⟩, i_J, i_AW1⟩
        · skip
          refine x_A k195_37 (fun _ => rfl) ?_
          refine x_A k195_38 (fun _ => rfl) ?_
          refine x_getI k195_39 (f := 48) rfl (q := 256) (n := 62) (kd := 15) ⟨by decide, rfl⟩ (by decide) rfl ?_
          refine x_rw (e_x1000.symm) ?_
          refine x_A k195_42 (fun _ => rfl) ?_
          refine x_isub k195_43 ?_
          refine x_top (fun z83 e_z83 => ?_)
          refine x_putI k195_44 (f := 48) rfl (q := 256) (n := 62) (kd := 15) ⟨by decide, rfl⟩ rfl rfl rfl ?_
          refine x_nh (fun s84 e_s84 => ?_)
          have hG_s84 : GI s84 := by rw [e_s84]; exact hG.up (show 0 ≤ z83 ∧ z83 ≤ 120 from ⟨by omega, by omega⟩)
          have f_s84 : FL [6080, 6144, 4144, 4145] s0 s84 := by rw [e_s84]; exact f.up (show 4145 ∈ [6080, 6144, 4144, 4145] from by decide)
          have q85 : s84 256 47 = x1001 := by rw [e_s84, x_up_i (by decide)]; exact e_x1001.symm
          have q86 : s84 256 43 = x1002 := by rw [e_s84, x_up_i (by decide)]; exact e_x1002.symm
          have q87 : s84 256 48 = z83 := by rw [e_s84]; exact x_up_same
          have q88 : s84 289 z77.toNat = z78 := by rw [e_s84, x_up_q (by omega)]; exact e_z78.symm
          have q89 : s84 289 z80.toNat = z81 := by rw [e_s84, x_up_q (by omega)]; exact e_z81.symm
          have J_s84 : J s84 := by rw [e_s84]; exact J.up i_J (show 4145 ∉ LJ from by decide)
          refine x_A k195_47 (fun _ => rfl) ?_
          refine x_A k195_48 (fun _ => rfl) ?_
          refine x_getR k195_49 (f := 49) rfl (q := 256) (n := 62) (kd := 15) ⟨by decide, rfl⟩ (q2 := 289) (by decide) rfl ?_
          refine x_A k195_52 (fun _ => rfl) ?_
          refine x_getI k195_53 (f := 48) rfl (q := 256) (n := 62) (kd := 15) ⟨by decide, rfl⟩ (by decide) rfl ?_
          refine x_rw (q87) ?_
          refine x_iald k195_56 (q := 289) (n := 120) ⟨by decide, rfl⟩ (by decide) ⟨by omega, by omega⟩ ?_
          refine x_top (fun z90 e_z90 => ?_)
          have g_z90 : (0 : Int) ≤ s84 289 z83.toNat ∧ s84 289 z83.toNat ≤ 3 := hG_s84 289 z83.toNat
          have eq_w : z90 = z78 := by rw [← e_z90.symm, ← q88, show z83 = z77 by omega]
          refine x_A k195_57 (fun _ => rfl) ?_
          refine x_callV k195_58 (y := 194) (n := 2) (w0 := 0) (w1 := 2) (as := [vi z90, vi 0]) (rest := []) (by decide +kernel) (q := 256) (nq := 62) (kq := 15) ⟨by decide, rfl⟩ rfl rfl rfl rfl (xe_mono (W_X11_put_256 s84 hG_s84 z90 ⟨by omega, by omega⟩ 0 ⟨by omega, by omega⟩ ⟨by omega, by omega⟩ ⟨by omega, by omega⟩ J_s84) ?_)
          rintro s92 v ⟨hG_s92, t_s92, rfl, xp_z91, J_s92⟩
          have f_s92 : FL [6080, 6144, 4144, 4145] s0 s92 := f_s84.tr t_s92 (by decide)
          have q93 : s92 256 43 = x1002 := (t_s92 256 43 (show 4140 ∉ [6080, 6144, 4144] from by decide)).trans q86
          have q94 : s92 256 48 = z83 := (t_s92 256 48 (show 4145 ∉ [6080, 6144, 4144] from by decide)).trans q87
          have q95 : s92 289 z77.toNat = z78 := (t_s92 289 z77.toNat (show 6208 ∉ [6080, 6144, 4144] from by decide)).trans q88
          have q96 : s92 289 z80.toNat = z81 := (t_s92 289 z80.toNat (show 6208 ∉ [6080, 6144, 4144] from by decide)).trans q89
          have q97 : s92 289 z83.toNat = z90 := (t_s92 289 z83.toNat (show 6208 ∉ [6080, 6144, 4144] from by decide)).trans e_z90.symm
          show xe none 195 61 [(0, .ref 256), (1, vi x1)] [] s92 0 0 _
          obtain ⟨xo_z91, xn_z91⟩ := xp_z91
          have AW1_n : AW s92 1 (cn3 (s0 289) (s0 256 48).toNat) (s0 256 47 + s0 256 48) := AW.pop i_AW1 (k := z90) (by omega) (by omega) (by omega) (by rw [← e_x1000, show x1000 - 1 = z77 by omega, eq_w]; exact e_z78.symm) (by omega) (by omega) (by omega) (by omega) (by omega) (funext fun i => (t_s92 289 i (show 6208 ∉ _ from by decide)).trans (by rw [e_s84, x_up_q (by decide)])) (fun i => by rw [xo_z91.2 i, show s84 256 43 = s 256 43 by omega, show s84 256 47 = s 256 47 by omega, e_s84, x_up_q (by decide)])
          refine x_goto k195_61 (t := 0) rfl ?_
          obtain ⟨z98, e_z98⟩ : ∃ z, z = s92 256 47 := ⟨_, rfl⟩
          have g_z98 : (0 : Int) ≤ s92 256 47 ∧ s92 256 47 ≤ 110 := hG_s92 256 47
          refine x_ls (l := [(0, .ref 256), (1, vi x1)]) (show ([0, 1] : List Nat).Nodup from by decide) ⟨rfl, rfl, trivial⟩ ?_
          exact ih s92 x1 z83 z98 x1002 hG_s92 f_s92 ⟨by omega, by omega⟩ ⟨by omega, by omega⟩ ⟨by omega, by omega⟩ ⟨by omega, by omega⟩ (by omega) (by omega) (by omega) (w_3.pop (by omega) ⟨by omega, by omega⟩ (by omega) (by rw [eq_w, show (s 256 48 - 1).toNat = z77.toNat by omega]; exact e_z78) ⟨by omega, by omega⟩ (by omega) (by rw [e_s84]; exact FL.rf.up (show 4145 ∈ [4145] from by decide)) (by omega) xn_z91 t_s92) (q94).symm (e_z98.symm).symm (q93).symm J_s92 AW1_n  (by omega)
set_option maxHeartbeats 8000000 in
theorem W_X11_work_256 (s0 : xS) (hG0 : GI s0) (a : Int) (b_a : 0 ≤ a ∧ a ≤ 2) (p_256_48 : 0 ≤ s0 256 48 ∧ s0 256 48 ≤ 120) (p_256_47 : 0 ≤ s0 256 47 ∧ s0 256 47 ≤ 110) (p_256_43 : 0 ≤ s0 256 43 ∧ s0 256 43 ≤ 8) (pt : s0 256 47 + s0 256 48 ≤ 100) (pa : s0 256 43 ≤ 7) (i0_J : J s0) (i0_AW1 : AW s0 1 (cn3 (s0 289) (s0 256 48).toNat) (s0 256 47 + s0 256 48)) : xe none 195 0 (lv_args 0 [.ref 256, vi a]) [] s0 0 0 (fun s' v => GI s' ∧ FL [6080, 6144, 4144, 4145] s0 s' ∧ v = none ∧ ((s' 256 48 = 0 ∨ s' 289 (s' 256 48 - 1).toNat = 3 ∨ s' 289 (s' 256 48 - 1).toNat < a) ∧ WkW s0 s' a) ∧ J s' ∧ AW s' 1 (cn3 (s0 289) (s0 256 48).toNat) (s0 256 47 + s0 256 48)) := by
  have f0 : FL [6080, 6144, 4144, 4145] s0 s0 := FL.rf
  show xe none 195 0 [(0, .ref 256), (1, vi a)] [] s0 0 0 _
  obtain ⟨z99, e_z99⟩ : ∃ z, z = s0 256 48 := ⟨_, rfl⟩
  have g_z99 : (0 : Int) ≤ s0 256 48 ∧ s0 256 48 ≤ 120 := hG0 256 48
  obtain ⟨z100, e_z100⟩ : ∃ z, z = s0 256 47 := ⟨_, rfl⟩
  have g_z100 : (0 : Int) ≤ s0 256 47 ∧ s0 256 47 ≤ 110 := hG0 256 47
  obtain ⟨z101, e_z101⟩ : ∃ z, z = s0 256 43 := ⟨_, rfl⟩
  have g_z101 : (0 : Int) ≤ s0 256 43 ∧ s0 256 43 ≤ 8 := hG0 256 43
  refine x_ls (l := [(0, .ref 256), (1, vi a)]) (show ([0, 1] : List Nat).Nodup from by decide) ⟨rfl, rfl, trivial⟩ ?_
  exact L_W_X11_work_256_0 s0 a b_a pt pa  ((z99 + 1 : Int)).toNat s0 a z99 z100 z101 hG0 f0 ⟨by omega, by omega⟩ ⟨by omega, by omega⟩ ⟨by omega, by omega⟩ ⟨by omega, by omega⟩ (by omega) (by omega) (by omega) WkI_0 (e_z99.symm).symm (e_z100.symm).symm (e_z101.symm).symm i0_J i0_AW1  (by omega)
