set_option maxHeartbeats 8000000 in
theorem L_E_X7_countThere_1_4 (s0 : xS) (a : Int) (b_a : (-2147483648) ≤ a ∧ a ≤ 2147483647)  : ∀ (n : Nat) (s : xS) (x1 : Int) (x2 : Int) (x3 : Int) (x1000 : Int) (hG : GI s) (f : FL [] s0 s) (b_x1 : (-2147483648) ≤ x1 ∧ x1 ≤ 2147483647) (b_x2 : 0 ≤ x2 ∧ x2 ≤ 60) (b_x3 : 0 ≤ x3 ∧ x3 ≤ 40) (b_x1000 : 1 ≤ x1000 ∧ x1000 ≤ 40) (r_2_3 : x2 ≤ x3 + 0) (r_3_1000 : x3 ≤ x1000 + 0) (w_0 : x1 = a ∧ x1000 = s0 1 4 ∧ x3 ≤ x1000 ∧ x2 ≤ x3) (w_1 : x2 = ctp (fun k => thC s0 a (k : Int)) x3.toNat) (e_x1000 : x1000 = s 1 4)  (hm : (40 - x3) < (n : Int)), xe none 68 4 [(0, .ref 1), (1, vi x1), (2, vi x2), (3, vi x3)] [] s 0 0 (fun s' v => GI s' ∧ FL [] s0 s' ∧ ∃ z, v = some (vi z) ∧ (0 ≤ z ∧ z ≤ 40) ∧ (z = ctp (fun k => thC s0 a (k : Int)) (s0 1 4).toNat)) := by
  intro n
  induction n with
  | zero => intro s x1 x2 x3 x1000 hG f b_x1 b_x2 b_x3 b_x1000 r_2_3 r_3_1000 w_0 w_1 e_x1000  hm; exfalso; omega
  | succ n ih =>
    intro s x1 x2 x3 x1000 hG f b_x1 b_x2 b_x3 b_x1000 r_2_3 r_3_1000 w_0 w_1 e_x1000  hm
    refine x_A k68_4 (fun _ => rfl) ?_
    refine x_A k68_5 (fun _ => rfl) ?_
    refine x_getI k68_6 (f := 4) rfl (q := 1) (n := 5) (kd := 4) ⟨by decide, rfl⟩ (by decide) rfl ?_
    refine x_rw (e_x1000.symm) ?_
    refine x_ic_ge k68_9 (t := 30) rfl (by first | exact x_rb b_x3 rfl rfl | exact ⟨by omega, by omega⟩) (by first | exact x_rb b_x1000 rfl rfl | exact ⟨by omega, by omega⟩) (fun c90 => ?_) (fun c90 => ?_)
    · skip
      refine x_A k68_30 (fun _ => rfl) ?_
      exact x_iret k68_31 rfl ⟨hG, f, x2, rfl, (by first | exact x_rb b_x2 rfl rfl | exact ⟨by omega, by omega⟩), (by rw [show (s0 1 4).toNat = x3.toNat by omega]; exact w_1)⟩
    · skip
      refine x_A k68_12 (fun _ => rfl) ?_
      refine x_A k68_13 (fun _ => rfl) ?_
      refine x_A k68_14 (fun _ => rfl) ?_
      refine x_callV k68_15 (y := 64) (n := 2) (w0 := 0) (w1 := 2) (as := [vi x3, vi x1]) (rest := []) (by decide +kernel) (q := 1) (nq := 5) (kq := 4) ⟨by decide, rfl⟩ rfl rfl rfl rfl (xe_mono (E_X7_isThere_1 s hG x3 (by first | exact x_rb b_x3 rfl rfl | exact ⟨by omega, by omega⟩) x1 (by first | exact x_rb b_x1 rfl rfl | exact ⟨by omega, by omega⟩)) ?_)
      rintro s92 v ⟨h_s92, z91, rfl, hz_z91⟩
      rw [h_s92]
      rcases hz_z91 with ⟨c_z91, e_z91, m_z91⟩ | ⟨e_z91, m_z91⟩
      · rw [e_z91]
        show xe none 68 18 [(0, .ref 1), (1, vi x1), (2, vi x2), (3, vi x3)] [vi 1] s 0 0 _
        have th : thC s0 a x3 := by rw [← f.nil, ← show x1 = a by omega]; exact ⟨by omega, by omega⟩
        refine x_if_eq k68_18 (t := 24) rfl ⟨by decide, by decide⟩ (fun c93 => by exfalso; omega) (fun c93 => ?_)
        refine x_iinc k68_21 (ls' := [(2, vi (x2 + 1)), (0, .ref 1), (1, vi x1), (3, vi x3)]) rfl (by decide) rfl ?_
        refine x_iinc k68_24 (ls' := [(3, vi (x3 + 1)), (2, vi (x2 + 1)), (0, .ref 1), (1, vi x1)]) rfl (by decide) rfl ?_
        refine x_goto k68_27 (t := 4) rfl ?_
        refine x_ls (l := [(0, .ref 1), (1, vi x1), (2, vi (x2 + 1)), (3, vi (x3 + 1))]) (show ([0, 1, 2, 3] : List Nat).Nodup from by decide) ⟨rfl, rfl, rfl, rfl, trivial⟩ ?_
        exact ih s x1 (x2 + 1) (x3 + 1) x1000 hG f (by first | exact x_rb b_x1 rfl rfl | exact ⟨by omega, by omega⟩) ⟨by omega, by omega⟩ ⟨by omega, by omega⟩ (by first | exact x_rb b_x1000 rfl rfl | exact ⟨by omega, by omega⟩) (by omega) (by omega) (by omega) (by have cs := ctp_s (fun k => thC s0 a (k : Int)) (k := x3) (by omega); rw [show ((x3.toNat : Nat) : Int) = x3 by omega] at cs; have q := cs.1 (th); omega) (e_x1000.symm).symm  (by omega)
      · rw [e_z91]
        show xe none 68 18 [(0, .ref 1), (1, vi x1), (2, vi x2), (3, vi x3)] [vi 0] s 0 0 _
        have nth : ¬ thC s0 a x3 := by rw [← f.nil, ← show x1 = a by omega]; exact fun q => m_z91 ⟨q.1.1, q.1.2, q.2⟩
        refine x_if_eq k68_18 (t := 24) rfl ⟨by decide, by decide⟩ (fun c94 => ?_) (fun c94 => by exfalso; omega)
        refine x_iinc k68_24 (ls' := [(3, vi (x3 + 1)), (0, .ref 1), (1, vi x1), (2, vi x2)]) rfl (by decide) rfl ?_
        refine x_goto k68_27 (t := 4) rfl ?_
        refine x_ls (l := [(0, .ref 1), (1, vi x1), (2, vi x2), (3, vi (x3 + 1))]) (show ([0, 1, 2, 3] : List Nat).Nodup from by decide) ⟨rfl, rfl, rfl, rfl, trivial⟩ ?_
        exact ih s x1 x2 (x3 + 1) x1000 hG f (by first | exact x_rb b_x1 rfl rfl | exact ⟨by omega, by omega⟩) (by first | exact x_rb b_x2 rfl rfl | exact ⟨by omega, by omega⟩) ⟨by omega, by omega⟩ (by first | exact x_rb b_x1000 rfl rfl | exact ⟨by omega, by omega⟩) (by omega) (by omega) (by omega) (by have cs := ctp_s (fun k => thC s0 a (k : Int)) (k := x3) (by omega); rw [show ((x3.toNat : Nat) : Int) = x3 by omega] at cs; have q := cs.2 (nth); omega) (e_x1000.symm).symm  (by omega)
set_option maxHeartbeats 8000000 in
theorem E_X7_countThere_1 (s0 : xS) (hG0 : GI s0) (a : Int) (b_a : (-2147483648) ≤ a ∧ a ≤ 2147483647) : xe none 68 0 (lv_args 0 [.ref 1, vi a]) [] s0 0 0 (fun s' v => GI s' ∧ FL [] s0 s' ∧ ∃ z, v = some (vi z) ∧ (0 ≤ z ∧ z ≤ 40) ∧ (z = ctp (fun k => thC s0 a (k : Int)) (s0 1 4).toNat)) := by
  have f0 : FL [] s0 s0 := FL.rf
  show xe none 68 0 [(0, .ref 1), (1, vi a)] [] s0 0 0 _
  refine x_A k68_0 (fun _ => rfl) ?_
  refine x_istore_n k68_1 (ls' := [(2, vi 0), (0, .ref 1), (1, vi a)]) (by decide) rfl ?_
  refine x_A k68_2 (fun _ => rfl) ?_
  refine x_istore_n k68_3 (ls' := [(3, vi 0), (2, vi 0), (0, .ref 1), (1, vi a)]) (by decide) rfl ?_
  obtain ⟨z95, e_z95⟩ : ∃ z, z = s0 1 4 := ⟨_, rfl⟩
  have g_z95 : (1 : Int) ≤ s0 1 4 ∧ s0 1 4 ≤ 40 := hG0 1 4
  refine x_ls (l := [(0, .ref 1), (1, vi a), (2, vi 0), (3, vi 0)]) (show ([0, 1, 2, 3] : List Nat).Nodup from by decide) ⟨rfl, rfl, rfl, rfl, trivial⟩ ?_
  exact L_E_X7_countThere_1_4 s0 a b_a  (((40 - 0) + 1 : Int)).toNat s0 a 0 0 z95 hG0 f0 (by first | exact x_rb b_a rfl rfl | exact ⟨by omega, by omega⟩) ⟨by decide, by decide⟩ ⟨by decide, by decide⟩ (by first | exact x_rbe e_z95 g_z95 rfl rfl | exact x_rb g_z95 rfl rfl | exact ⟨by omega, by omega⟩) (by omega) (by omega) (by omega) (show _ = _ from rfl) (e_z95.symm).symm  (by omega)
set_option maxHeartbeats 8000000 in
theorem L_E_X8_countWrong_243_4 (s0 : xS)   : ∀ (n : Nat) (s : xS) (x1 : Int) (x2 : Int) (x1000 : Int) (hG : GI s) (f : FL [] s0 s) (b_x1 : 0 ≤ x1 ∧ x1 ≤ 127) (b_x2 : 0 ≤ x2 ∧ x2 ≤ 120) (b_x1000 : 0 ≤ x1000 ∧ x1000 ≤ 120) (r_1_2 : x1 ≤ x2 + 0) (r_2_1000 : x2 ≤ x1000 + 0) (w_0 : x1000 = s0 50 6 ∧ x2 ≤ x1000 ∧ x1 ≤ x2) (w_1 : x1 = ctp (fun k : Nat => s0 252 k ≠ 0) x2.toNat) (e_x1000 : x1000 = s 50 6)  (hm : (120 - x2) < (n : Int)), xe none 84 4 [(0, .ref 243), (1, vi x1), (2, vi x2)] [] s 0 0 (fun s' v => GI s' ∧ FL [] s0 s' ∧ ∃ z, v = some (vi z) ∧ (0 ≤ z ∧ z ≤ 120) ∧ (z = ctp (fun k : Nat => s0 252 k ≠ 0) (s0 50 6).toNat)) := by
  intro n
  induction n with
  | zero => intro s x1 x2 x1000 hG f b_x1 b_x2 b_x1000 r_1_2 r_2_1000 w_0 w_1 e_x1000  hm; exfalso; omega
  | succ n ih =>
    intro s x1 x2 x1000 hG f b_x1 b_x2 b_x1000 r_1_2 r_2_1000 w_0 w_1 e_x1000  hm
    refine x_A k84_4 (fun _ => rfl) ?_
    refine x_A k84_5 (fun _ => rfl) ?_
    refine x_getR k84_6 (f := 1) rfl (q := 243) (n := 13) (kd := 13) ⟨by decide, rfl⟩ (q2 := 50) (by decide) rfl ?_
    refine x_getI k84_9 (f := 6) rfl (q := 50) (n := 7) (kd := 6) ⟨by decide, rfl⟩ (by decide) rfl ?_
    refine x_rw (e_x1000.symm) ?_
    refine x_ic_ge k84_12 (t := 33) rfl (by first | exact x_rb b_x2 rfl rfl | exact ⟨by omega, by omega⟩) (by first | exact x_rb b_x1000 rfl rfl | exact ⟨by omega, by omega⟩) (fun c84 => ?_) (fun c84 => ?_)
    · skip
      refine x_A k84_33 (fun _ => rfl) ?_
      exact x_iret k84_34 rfl ⟨hG, f, x1, rfl, (by first | exact x_rb b_x1 rfl rfl | exact ⟨by omega, by omega⟩), (by rw [show (s0 50 6).toNat = x2.toNat by omega]; exact w_1)⟩
    · skip
      refine x_A k84_15 (fun _ => rfl) ?_
      refine x_getR k84_16 (f := 7) rfl (q := 243) (n := 13) (kd := 13) ⟨by decide, rfl⟩ (q2 := 252) (by decide) rfl ?_
      refine x_A k84_19 (fun _ => rfl) ?_
      refine x_iald k84_20 (q := 252) (n := 120) ⟨by decide, rfl⟩ (by decide) (by first | exact x_rbl b_x2 rfl rfl | exact ⟨by omega, by omega⟩) ?_
      refine x_top (fun z85 e_z85 => ?_)
      have g_z85 : (0 : Int) ≤ s 252 x2.toNat ∧ s 252 x2.toNat ≤ 4 := hG 252 x2.toNat
      refine x_if_eq k84_21 (t := 27) rfl (by first | exact x_rbe e_z85 g_z85 rfl rfl | exact x_rb g_z85 rfl rfl | exact ⟨by omega, by omega⟩) (fun c86 => ?_) (fun c86 => ?_)
      · skip
        refine x_iinc k84_27 (ls' := [(2, vi (x2 + 1)), (0, .ref 243), (1, vi x1)]) rfl (by decide) rfl ?_
        refine x_goto k84_30 (t := 4) rfl ?_
        refine x_ls (l := [(0, .ref 243), (1, vi x1), (2, vi (x2 + 1))]) (show ([0, 1, 2] : List Nat).Nodup from by decide) ⟨rfl, rfl, rfl, trivial⟩ ?_
        exact ih s x1 (x2 + 1) x1000 hG f (by first | exact x_rb b_x1 rfl rfl | exact ⟨by omega, by omega⟩) ⟨by omega, by omega⟩ (by first | exact x_rb b_x1000 rfl rfl | exact ⟨by omega, by omega⟩) (by omega) (by omega) (by omega) (by have cs := ctp_s (fun k : Nat => s0 252 k ≠ 0) (k := x2) (by omega); have q := cs.2 (fun q => by have q : s0 252 x2.toNat ≠ 0 := q; rw [← f.nil] at q; omega); omega) (e_x1000.symm).symm  (by omega)
      · skip
        refine x_iinc k84_24 (ls' := [(1, vi (x1 + 1)), (0, .ref 243), (2, vi x2)]) rfl (by decide) rfl ?_
        refine x_iinc k84_27 (ls' := [(2, vi (x2 + 1)), (1, vi (x1 + 1)), (0, .ref 243)]) rfl (by decide) rfl ?_
        refine x_goto k84_30 (t := 4) rfl ?_
        refine x_ls (l := [(0, .ref 243), (1, vi (x1 + 1)), (2, vi (x2 + 1))]) (show ([0, 1, 2] : List Nat).Nodup from by decide) ⟨rfl, rfl, rfl, trivial⟩ ?_
        exact ih s (x1 + 1) (x2 + 1) x1000 hG f ⟨by omega, by omega⟩ ⟨by omega, by omega⟩ (by first | exact x_rb b_x1000 rfl rfl | exact ⟨by omega, by omega⟩) (by omega) (by omega) (by omega) (by have cs := ctp_s (fun k : Nat => s0 252 k ≠ 0) (k := x2) (by omega); have q := cs.1 (by show s0 252 x2.toNat ≠ 0; rw [← f.nil]; omega); omega) (e_x1000.symm).symm  (by omega)
set_option maxHeartbeats 8000000 in
theorem E_X8_countWrong_243 (s0 : xS) (hG0 : GI s0)  : xe none 84 0 (lv_args 0 [.ref 243]) [] s0 0 0 (fun s' v => GI s' ∧ FL [] s0 s' ∧ ∃ z, v = some (vi z) ∧ (0 ≤ z ∧ z ≤ 120) ∧ (z = ctp (fun k : Nat => s0 252 k ≠ 0) (s0 50 6).toNat)) := by
  have f0 : FL [] s0 s0 := FL.rf
  show xe none 84 0 [(0, .ref 243)] [] s0 0 0 _
  refine x_A k84_0 (fun _ => rfl) ?_
  refine x_istore_n k84_1 (ls' := [(1, vi 0), (0, .ref 243)]) (by decide) rfl ?_
  refine x_A k84_2 (fun _ => rfl) ?_
  refine x_istore_n k84_3 (ls' := [(2, vi 0), (1, vi 0), (0, .ref 243)]) (by decide) rfl ?_
  obtain ⟨z87, e_z87⟩ : ∃ z, z = s0 50 6 := ⟨_, rfl⟩
  have g_z87 : (0 : Int) ≤ s0 50 6 ∧ s0 50 6 ≤ 120 := hG0 50 6
  refine x_ls (l := [(0, .ref 243), (1, vi 0), (2, vi 0)]) (show ([0, 1, 2] : List Nat).Nodup from by decide) ⟨rfl, rfl, rfl, trivial⟩ ?_
  exact L_E_X8_countWrong_243_4 s0   (((120 - 0) + 1 : Int)).toNat s0 0 0 z87 hG0 f0 ⟨by decide, by decide⟩ ⟨by decide, by decide⟩ (by first | exact x_rbe e_z87 g_z87 rfl rfl | exact x_rb g_z87 rfl rfl | exact ⟨by omega, by omega⟩) (by omega) (by omega) (by omega) (show _ = _ from rfl) (e_z87.symm).symm  (by omega)
set_option maxHeartbeats 8000000 in
theorem L_E_X8_countNeedingLook_243_4 (s0 : xS)   : ∀ (n : Nat) (s : xS) (x1 : Int) (x2 : Int) (x1000 : Int) (hG : GI s) (f : FL [] s0 s) (b_x1 : 0 ≤ x1 ∧ x1 ≤ 127) (b_x2 : 0 ≤ x2 ∧ x2 ≤ 120) (b_x1000 : 0 ≤ x1000 ∧ x1000 ≤ 120) (r_1_2 : x1 ≤ x2 + 0) (r_2_1000 : x2 ≤ x1000 + 0) (w_0 : x1000 = s0 50 6 ∧ x2 ≤ x1000 ∧ x1 ≤ x2) (w_1 : x1 = ctp (fun k : Nat => s0 254 k = 1) x2.toNat) (e_x1000 : x1000 = s 50 6)  (hm : (120 - x2) < (n : Int)), xe none 85 4 [(0, .ref 243), (1, vi x1), (2, vi x2)] [] s 0 0 (fun s' v => GI s' ∧ FL [] s0 s' ∧ ∃ z, v = some (vi z) ∧ (0 ≤ z ∧ z ≤ 120) ∧ (z = ctp (fun k : Nat => s0 254 k = 1) (s0 50 6).toNat)) := by
  intro n
  induction n with
  | zero => intro s x1 x2 x1000 hG f b_x1 b_x2 b_x1000 r_1_2 r_2_1000 w_0 w_1 e_x1000  hm; exfalso; omega
  | succ n ih =>
    intro s x1 x2 x1000 hG f b_x1 b_x2 b_x1000 r_1_2 r_2_1000 w_0 w_1 e_x1000  hm
    refine x_A k85_4 (fun _ => rfl) ?_
    refine x_A k85_5 (fun _ => rfl) ?_
    refine x_getR k85_6 (f := 1) rfl (q := 243) (n := 13) (kd := 13) ⟨by decide, rfl⟩ (q2 := 50) (by decide) rfl ?_
    refine x_getI k85_9 (f := 6) rfl (q := 50) (n := 7) (kd := 6) ⟨by decide, rfl⟩ (by decide) rfl ?_
    refine x_rw (e_x1000.symm) ?_
    refine x_ic_ge k85_12 (t := 33) rfl (by first | exact x_rb b_x2 rfl rfl | exact ⟨by omega, by omega⟩) (by first | exact x_rb b_x1000 rfl rfl | exact ⟨by omega, by omega⟩) (fun c84 => ?_) (fun c84 => ?_)
    · skip
      refine x_A k85_33 (fun _ => rfl) ?_
      exact x_iret k85_34 rfl ⟨hG, f, x1, rfl, (by first | exact x_rb b_x1 rfl rfl | exact ⟨by omega, by omega⟩), (by rw [show (s0 50 6).toNat = x2.toNat by omega]; exact w_1)⟩
    · skip
      refine x_A k85_15 (fun _ => rfl) ?_
      refine x_getR k85_16 (f := 9) rfl (q := 243) (n := 13) (kd := 13) ⟨by decide, rfl⟩ (q2 := 254) (by decide) rfl ?_
      refine x_A k85_19 (fun _ => rfl) ?_
      refine x_bald k85_20 (q := 254) (n := 120) ⟨by decide, rfl⟩ (by decide) (by first | exact x_rbl b_x2 rfl rfl | exact ⟨by omega, by omega⟩) ?_
      refine x_top (fun z85 e_z85 => ?_)
      have g_z85 : (0 : Int) ≤ s 254 x2.toNat ∧ s 254 x2.toNat ≤ 1 := hG 254 x2.toNat
      refine x_if_eq k85_21 (t := 27) rfl (by first | exact x_rbe e_z85 g_z85 rfl rfl | exact x_rb g_z85 rfl rfl | exact ⟨by omega, by omega⟩) (fun c86 => ?_) (fun c86 => ?_)
      · skip
        refine x_iinc k85_27 (ls' := [(2, vi (x2 + 1)), (0, .ref 243), (1, vi x1)]) rfl (by decide) rfl ?_
        refine x_goto k85_30 (t := 4) rfl ?_
        refine x_ls (l := [(0, .ref 243), (1, vi x1), (2, vi (x2 + 1))]) (show ([0, 1, 2] : List Nat).Nodup from by decide) ⟨rfl, rfl, rfl, trivial⟩ ?_
        exact ih s x1 (x2 + 1) x1000 hG f (by first | exact x_rb b_x1 rfl rfl | exact ⟨by omega, by omega⟩) ⟨by omega, by omega⟩ (by first | exact x_rb b_x1000 rfl rfl | exact ⟨by omega, by omega⟩) (by omega) (by omega) (by omega) (by have cs := ctp_s (fun k : Nat => s0 254 k = 1) (k := x2) (by omega); have q := cs.2 (fun q => by have q : s0 254 x2.toNat = 1 := q; rw [← f.nil] at q; omega); omega) (e_x1000.symm).symm  (by omega)
      · skip
        refine x_iinc k85_24 (ls' := [(1, vi (x1 + 1)), (0, .ref 243), (2, vi x2)]) rfl (by decide) rfl ?_
        refine x_iinc k85_27 (ls' := [(2, vi (x2 + 1)), (1, vi (x1 + 1)), (0, .ref 243)]) rfl (by decide) rfl ?_
        refine x_goto k85_30 (t := 4) rfl ?_
        refine x_ls (l := [(0, .ref 243), (1, vi (x1 + 1)), (2, vi (x2 + 1))]) (show ([0, 1, 2] : List Nat).Nodup from by decide) ⟨rfl, rfl, rfl, trivial⟩ ?_
        exact ih s (x1 + 1) (x2 + 1) x1000 hG f ⟨by omega, by omega⟩ ⟨by omega, by omega⟩ (by first | exact x_rb b_x1000 rfl rfl | exact ⟨by omega, by omega⟩) (by omega) (by omega) (by omega) (by have cs := ctp_s (fun k : Nat => s0 254 k = 1) (k := x2) (by omega); have q := cs.1 (by show s0 254 x2.toNat = 1; rw [← f.nil]; omega); omega) (e_x1000.symm).symm  (by omega)
set_option maxHeartbeats 8000000 in
theorem E_X8_countNeedingLook_243 (s0 : xS) (hG0 : GI s0)  : xe none 85 0 (lv_args 0 [.ref 243]) [] s0 0 0 (fun s' v => GI s' ∧ FL [] s0 s' ∧ ∃ z, v = some (vi z) ∧ (0 ≤ z ∧ z ≤ 120) ∧ (z = ctp (fun k : Nat => s0 254 k = 1) (s0 50 6).toNat)) := by
  have f0 : FL [] s0 s0 := FL.rf
  show xe none 85 0 [(0, .ref 243)] [] s0 0 0 _
  refine x_A k85_0 (fun _ => rfl) ?_
  refine x_istore_n k85_1 (ls' := [(1, vi 0), (0, .ref 243)]) (by decide) rfl ?_
  refine x_A k85_2 (fun _ => rfl) ?_
  refine x_istore_n k85_3 (ls' := [(2, vi 0), (1, vi 0), (0, .ref 243)]) (by decide) rfl ?_
  obtain ⟨z87, e_z87⟩ : ∃ z, z = s0 50 6 := ⟨_, rfl⟩
  have g_z87 : (0 : Int) ≤ s0 50 6 ∧ s0 50 6 ≤ 120 := hG0 50 6
  refine x_ls (l := [(0, .ref 243), (1, vi 0), (2, vi 0)]) (show ([0, 1, 2] : List Nat).Nodup from by decide) ⟨rfl, rfl, rfl, trivial⟩ ?_
  exact L_E_X8_countNeedingLook_243_4 s0   (((120 - 0) + 1 : Int)).toNat s0 0 0 z87 hG0 f0 ⟨by decide, by decide⟩ ⟨by decide, by decide⟩ (by first | exact x_rbe e_z87 g_z87 rfl rfl | exact x_rb g_z87 rfl rfl | exact ⟨by omega, by omega⟩) (by omega) (by omega) (by omega) (show _ = _ from rfl) (e_z87.symm).symm  (by omega)
set_option maxHeartbeats 8000000 in
theorem L_E_X8_countLacking_243_209_4 (s0 : xS) (hG0 : GI s0) (pn : ∀ g : Int, 0 ≤ g → g < s0 50 6 → s0 55 g.toNat ≤ s0 243 12) (pe : 0 ≤ s0 243 12 ∧ s0 243 12 ≤ 9) (pF : Fo s0 s0 209 (s0 243 12)) (pV : VJ s0 s0) (pL : VL s0 s0 (s0 243 12))  : ∀ (n : Nat) (s : xS) (x2 : Int) (x3 : Int) (x1000 : Int) (hG : GI s) (f : FL [] s0 s) (b_x2 : 0 ≤ x2 ∧ x2 ≤ 127) (b_x3 : 0 ≤ x3 ∧ x3 ≤ 120) (b_x1000 : 0 ≤ x1000 ∧ x1000 ≤ 120) (r_2_3 : x2 ≤ x3 + 0) (r_3_1000 : x3 ≤ x1000 + 0) (w_0 : x1000 = s0 50 6 ∧ x3 ≤ x1000 ∧ x2 ≤ x3) (w_1 : x2 = ctp (fun k => laC s0 (s0 243 12) (k : Int)) x3.toNat) (e_x1000 : x1000 = s 50 6)  (hm : (120 - x3) < (n : Int)), xe none 86 4 [(0, .ref 243), (1, .ref 209), (2, vi x2), (3, vi x3)] [] s 0 0 (fun s' v => GI s' ∧ FL [] s0 s' ∧ ∃ z, v = some (vi z) ∧ (0 ≤ z ∧ z ≤ 120) ∧ (z = ctp (fun k => laC s0 (s0 243 12) (k : Int)) (s0 50 6).toNat)) := by
  intro n
  induction n with
  | zero => intro s x2 x3 x1000 hG f b_x2 b_x3 b_x1000 r_2_3 r_3_1000 w_0 w_1 e_x1000  hm; exfalso; omega
  | succ n ih =>
    intro s x2 x3 x1000 hG f b_x2 b_x3 b_x1000 r_2_3 r_3_1000 w_0 w_1 e_x1000  hm
    refine x_A k86_4 (fun _ => rfl) ?_
    refine x_A k86_5 (fun _ => rfl) ?_
    refine x_getR k86_6 (f := 1) rfl (q := 243) (n := 13) (kd := 13) ⟨by decide, rfl⟩ (q2 := 50) (by decide) rfl ?_
    refine x_getI k86_9 (f := 6) rfl (q := 50) (n := 7) (kd := 6) ⟨by decide, rfl⟩ (by decide) rfl ?_
    refine x_rw (e_x1000.symm) ?_
    refine x_ic_ge k86_12 (t := 33) rfl (by first | exact x_rb b_x3 rfl rfl | exact ⟨by omega, by omega⟩) (by first | exact x_rb b_x1000 rfl rfl | exact ⟨by omega, by omega⟩) (fun c126 => ?_) (fun c126 => ?_)
    · skip
      refine x_A k86_33 (fun _ => rfl) ?_
      exact x_iret k86_34 rfl ⟨hG, f, x2, rfl, (by first | exact x_rb b_x2 rfl rfl | exact ⟨by omega, by omega⟩), (by rw [show (s0 50 6).toNat = x3.toNat by omega]; exact w_1)⟩
    · skip
      have pn_ := pn x3 (by omega) (by omega)
      rw [← f.nil] at pn_
      obtain ⟨z127, e_z127⟩ : ∃ z, z = s 243 12 := ⟨_, rfl⟩
      have g_z127 : (-1) ≤ s 243 12 ∧ s 243 12 ≤ 9 := hG 243 12
      refine x_A k86_15 (fun _ => rfl) ?_
      refine x_A k86_16 (fun _ => rfl) ?_
      refine x_A k86_17 (fun _ => rfl) ?_
      refine x_callV k86_18 (y := 83) (n := 2) (w0 := 0) (w1 := 2) (as := [vi x3, .ref 209]) (rest := []) (by decide +kernel) (q := 243) (nq := 13) (kq := 13) ⟨by decide, rfl⟩ rfl rfl rfl rfl (xe_mono (E_X8_isLacking_243_209 s hG x3 (by first | exact x_rb b_x3 rfl rfl | exact ⟨by omega, by omega⟩) (by omega) (by rw [f.nil]; exact pF) (by rw [f.nil]; exact pV) (by rw [f.nil]; exact pL)) ?_)
      rintro s129 v ⟨-, t_s129, z128, rfl, g_z128, xp_z128⟩
      rw [t_s129.nil]
      try rw [t_s129.nil] at xp_z128
      show xe none 86 21 [(0, .ref 243), (1, .ref 209), (2, vi x2), (3, vi x3)] [vi z128] s 0 0 _
      have il := xp_z128
      rw [f.nil] at il
      refine x_if_eq k86_21 (t := 27) rfl (by first | exact x_rbe e_z128 g_z128 rfl rfl | exact x_rb g_z128 rfl rfl | exact ⟨by omega, by omega⟩) (fun c130 => ?_) (fun c130 => ?_)
      · skip
        refine x_iinc k86_27 (ls' := [(3, vi (x3 + 1)), (0, .ref 243), (1, .ref 209), (2, vi x2)]) rfl (by decide) rfl ?_
        refine x_goto k86_30 (t := 4) rfl ?_
        refine x_ls (l := [(0, .ref 243), (1, .ref 209), (2, vi x2), (3, vi (x3 + 1))]) (show ([0, 1, 2, 3] : List Nat).Nodup from by decide) ⟨rfl, rfl, rfl, rfl, trivial⟩ ?_
        exact ih s x2 (x3 + 1) x1000 hG f (by first | exact x_rb b_x2 rfl rfl | exact ⟨by omega, by omega⟩) ⟨by omega, by omega⟩ (by first | exact x_rb b_x1000 rfl rfl | exact ⟨by omega, by omega⟩) (by omega) (by omega) (by omega) (by have cs := ctp_s (fun k => laC s0 (s0 243 12) (k : Int)) (k := x3) (by omega); rw [show ((x3.toNat : Nat) : Int) = x3 by omega] at cs; have q := cs.2 ((il.resolve_left (fun w => by omega)).2); omega) (e_x1000.symm).symm  (by omega)
      · skip
        refine x_iinc k86_24 (ls' := [(2, vi (x2 + 1)), (0, .ref 243), (1, .ref 209), (3, vi x3)]) rfl (by decide) rfl ?_
        refine x_iinc k86_27 (ls' := [(3, vi (x3 + 1)), (2, vi (x2 + 1)), (0, .ref 243), (1, .ref 209)]) rfl (by decide) rfl ?_
        refine x_goto k86_30 (t := 4) rfl ?_
        refine x_ls (l := [(0, .ref 243), (1, .ref 209), (2, vi (x2 + 1)), (3, vi (x3 + 1))]) (show ([0, 1, 2, 3] : List Nat).Nodup from by decide) ⟨rfl, rfl, rfl, rfl, trivial⟩ ?_
        exact ih s (x2 + 1) (x3 + 1) x1000 hG f ⟨by omega, by omega⟩ ⟨by omega, by omega⟩ (by first | exact x_rb b_x1000 rfl rfl | exact ⟨by omega, by omega⟩) (by omega) (by omega) (by omega) (by have cs := ctp_s (fun k => laC s0 (s0 243 12) (k : Int)) (k := x3) (by omega); rw [show ((x3.toNat : Nat) : Int) = x3 by omega] at cs; have q := cs.1 ((il.resolve_right (fun w => by omega)).2); omega) (e_x1000.symm).symm  (by omega)
set_option maxHeartbeats 8000000 in
theorem E_X8_countLacking_243_209 (s0 : xS) (hG0 : GI s0) (pn : ∀ g : Int, 0 ≤ g → g < s0 50 6 → s0 55 g.toNat ≤ s0 243 12) (pe : 0 ≤ s0 243 12 ∧ s0 243 12 ≤ 9) (pF : Fo s0 s0 209 (s0 243 12)) (pV : VJ s0 s0) (pL : VL s0 s0 (s0 243 12)) : xe none 86 0 (lv_args 0 [.ref 243, .ref 209]) [] s0 0 0 (fun s' v => GI s' ∧ FL [] s0 s' ∧ ∃ z, v = some (vi z) ∧ (0 ≤ z ∧ z ≤ 120) ∧ (z = ctp (fun k => laC s0 (s0 243 12) (k : Int)) (s0 50 6).toNat)) := by
  have f0 : FL [] s0 s0 := FL.rf
  show xe none 86 0 [(0, .ref 243), (1, .ref 209)] [] s0 0 0 _
  refine x_A k86_0 (fun _ => rfl) ?_
  refine x_istore_n k86_1 (ls' := [(2, vi 0), (0, .ref 243), (1, .ref 209)]) (by decide) rfl ?_
  refine x_A k86_2 (fun _ => rfl) ?_
  refine x_istore_n k86_3 (ls' := [(3, vi 0), (2, vi 0), (0, .ref 243), (1, .ref 209)]) (by decide) rfl ?_
  obtain ⟨z131, e_z131⟩ : ∃ z, z = s0 50 6 := ⟨_, rfl⟩
  have g_z131 : (0 : Int) ≤ s0 50 6 ∧ s0 50 6 ≤ 120 := hG0 50 6
  refine x_ls (l := [(0, .ref 243), (1, .ref 209), (2, vi 0), (3, vi 0)]) (show ([0, 1, 2, 3] : List Nat).Nodup from by decide) ⟨rfl, rfl, rfl, rfl, trivial⟩ ?_
  exact L_E_X8_countLacking_243_209_4 s0 hG0 pn pe pF pV pL  (((120 - 0) + 1 : Int)).toNat s0 0 0 z131 hG0 f0 ⟨by decide, by decide⟩ ⟨by decide, by decide⟩ (by first | exact x_rbe e_z131 g_z131 rfl rfl | exact x_rb g_z131 rfl rfl | exact ⟨by omega, by omega⟩) (by omega) (by omega) (by omega) (show _ = _ from rfl) (e_z131.symm).symm  (by omega)
set_option maxHeartbeats 8000000 in
theorem W_X10_count_0 (s0 : xS) (hG0 : GI s0) (hJ0 : J s0) (a : Int) (b_a : (-2147483648) ≤ a ∧ a ≤ 2147483647) (p_0_10 : 0 ≤ s0 0 10 ∧ s0 0 10 ≤ 9) (pR : R1 s0) (pn0 : ∀ g : Int, 0 ≤ g → g < s0 50 6 → s0 55 g.toNat ≤ s0 0 10) (i0_VCj : VCj s0) (i0_VCl : VCl s0) : xe none 103 0 (lv_args 0 [.ref 0, vi a]) [] s0 0 0 (fun s' v => GI s' ∧ FL [3329, 3334, 3335, 3336, 3392, 3456, 3520, 3584, 3276, 3648, 3712, 3776, 3840, 3904, 3968, 3277, 4032, 1921, 1926, 1927, 1928, 1984, 2048, 2112, 2176] s0 s' ∧ ∃ z, v = some (vi z) ∧ ((-1004) ≤ z ∧ z ≤ 160) ∧ (CoS s0 a z) ∧ VCj s' ∧ VCl s') := by
  have f0 : FL [3329, 3334, 3335, 3336, 3392, 3456, 3520, 3584, 3276, 3648, 3712, 3776, 3840, 3904, 3968, 3277, 4032, 1921, 1926, 1927, 1928, 1984, 2048, 2112, 2176] s0 s0 := FL.rf
  show xe none 103 0 [(0, .ref 0), (1, vi a)] [] s0 0 0 _
  obtain ⟨z1, e_z1⟩ : ∃ z, z = s0 0 10 := ⟨_, rfl⟩
  have g_z1 : (0 : Int) ≤ s0 0 10 ∧ s0 0 10 ≤ 9 := hG0 0 10
  refine x_A k103_0 (fun _ => rfl) ?_
  refine x_A k103_1 (fun _ => rfl) ?_
  refine x_bipush k103_2 (by decide +kernel) ?_
  refine x_callS k103_4 (y := 121) (n := 3) (w0 := 0) (w1 := 3) (as := [vi a, vi 0, vi 12]) (rest := []) (by decide +kernel) rfl rfl rfl rfl (xe_mono (C_X10_isWithin s0 hG0 a (by first | exact x_rb b_a rfl rfl | exact ⟨by omega, by omega⟩) 0 ⟨by decide, by decide⟩ 12 ⟨by decide, by decide⟩) ?_)
  rintro s3 v ⟨h_s3, z2, rfl, hz_z2⟩
  rw [h_s3]
  rcases hz_z2 with ⟨c_z2, e_z2⟩ | ⟨c_z2, e_z2⟩
  · rw [e_z2]
    show xe none 103 7 [(0, .ref 0), (1, vi a)] [vi 1] s0 0 0 _
    refine x_if_ne k103_7 (t := 14) rfl ⟨by decide, by decide⟩ (fun c4 => ?_) (fun c4 => by exfalso; omega)
    refine x_A k103_14 (fun _ => rfl) ?_
    have c5 : a = 0 ∨ a = 1 ∨ a = 2 ∨ a = 3 ∨ a = 4 ∨ a = 5 ∨ a = 6 ∨ a = 7 ∨ a = 8 ∨ a = 9 ∨ a = 10 ∨ a = 11 ∨ ¬ (0 ≤ a ∧ a ≤ 11) := by omega
    rcases c5 with c5 | c5 | c5 | c5 | c5 | c5 | c5 | c5 | c5 | c5 | c5 | c5 | c5
    · rw [c5]
      refine x_B k103_15 rfl (fun _ => rfl) (fun _ => rfl) (fun _ _ => rfl) ?_
      show xe none 103 76 [(0, .ref 0), (1, vi 0)] [] s0 0 0 _
      refine x_A k103_76 (fun _ => rfl) ?_
      refine x_getI k103_77 (f := 10) rfl (q := 0) (n := 12) (kd := 3) ⟨by decide, rfl⟩ (by decide) rfl ?_
      refine x_rw (e_z1.symm) ?_
      exact x_iret k103_80 rfl ⟨hG0, f0, z1, rfl, (by first | exact x_rbe e_z1 g_z1 rfl rfl | exact x_rb g_z1 rfl rfl | exact ⟨by omega, by omega⟩), (Or.inr ⟨by omega, (by (try rw [show a = 0 by omega]); have e506_ := f0 50 6 (show 711 ∉ [3329, 3334, 3335, 3336, 3392, 3456, 3520, 3584, 3276, 3648, 3712, 3776, 3840, 3904, 3968, 3277, 4032, 1921, 1926, 1927, 1928, 1984, 2048, 2112, 2176] from by decide); have g506_ : (0 : Int) ≤ s0 50 6 ∧ s0 50 6 ≤ 120 := hG0 50 6; show z1 = coS s0 0; unfold coS; rw [if_pos rfl]; omega)⟩), i0_VCj, i0_VCl⟩
    · rw [c5]
      refine x_B k103_15 rfl (fun _ => rfl) (fun _ => rfl) (fun _ _ => rfl) ?_
      show xe none 103 81 [(0, .ref 0), (1, vi 1)] [] s0 0 0 _
      refine x_A k103_81 (fun _ => rfl) ?_
      refine x_getR k103_82 (f := 0) rfl (q := 0) (n := 12) (kd := 3) ⟨by decide, rfl⟩ (q2 := 1) (by decide) rfl ?_
      refine x_getI k103_85 (f := 4) rfl (q := 1) (n := 5) (kd := 4) ⟨by decide, rfl⟩ (by decide) rfl ?_
      refine x_top (fun z6 e_z6 => ?_)
      have g_z6 : (1 : Int) ≤ s0 1 4 ∧ s0 1 4 ≤ 40 := hG0 1 4
      exact x_iret k103_88 rfl ⟨hG0, f0, z6, rfl, (by first | exact x_rbe e_z6 g_z6 rfl rfl | exact x_rb g_z6 rfl rfl | exact ⟨by omega, by omega⟩), (Or.inr ⟨by omega, (by (try rw [show a = 1 by omega]); have e506_ := f0 50 6 (show 711 ∉ [3329, 3334, 3335, 3336, 3392, 3456, 3520, 3584, 3276, 3648, 3712, 3776, 3840, 3904, 3968, 3277, 4032, 1921, 1926, 1927, 1928, 1984, 2048, 2112, 2176] from by decide); have g506_ : (0 : Int) ≤ s0 50 6 ∧ s0 50 6 ≤ 120 := hG0 50 6; show z6 = coS s0 1; unfold coS; rw [if_neg (by decide), if_pos rfl]; omega)⟩), i0_VCj, i0_VCl⟩
    · rw [c5]
      refine x_B k103_15 rfl (fun _ => rfl) (fun _ => rfl) (fun _ _ => rfl) ?_
      show xe none 103 89 [(0, .ref 0), (1, vi 2)] [] s0 0 0 _
      refine x_A k103_89 (fun _ => rfl) ?_
      refine x_getR k103_90 (f := 0) rfl (q := 0) (n := 12) (kd := 3) ⟨by decide, rfl⟩ (q2 := 1) (by decide) rfl ?_
      refine x_A k103_93 (fun _ => rfl) ?_
      refine x_getI k103_94 (f := 10) rfl (q := 0) (n := 12) (kd := 3) ⟨by decide, rfl⟩ (by decide) rfl ?_
      refine x_rw (e_z1.symm) ?_
      refine x_callV k103_97 (y := 68) (n := 1) (w0 := 0) (w1 := 1) (as := [vi z1]) (rest := []) (by decide +kernel) (q := 1) (nq := 5) (kq := 4) ⟨by decide, rfl⟩ rfl rfl rfl rfl (xe_mono (E_X7_countThere_1 s0 hG0 z1 (by first | exact x_rbe e_z1 g_z1 rfl rfl | exact x_rb g_z1 rfl rfl | exact ⟨by omega, by omega⟩)) ?_)
      rintro s8 v ⟨-, t_s8, z7, rfl, g_z7, xp_z7⟩
      rw [t_s8.nil]
      try rw [t_s8.nil] at xp_z7
      show xe none 103 100 [(0, .ref 0), (1, vi 2)] [vi z7] s0 0 0 _
      exact x_iret k103_100 rfl ⟨hG0, f0, z7, rfl, (by first | exact x_rbe e_z7 g_z7 rfl rfl | exact x_rb g_z7 rfl rfl | exact ⟨by omega, by omega⟩), (Or.inr ⟨by omega, (by (try rw [show a = 2 by omega]); have e506_ := f0 50 6 (show 711 ∉ [3329, 3334, 3335, 3336, 3392, 3456, 3520, 3584, 3276, 3648, 3712, 3776, 3840, 3904, 3968, 3277, 4032, 1921, 1926, 1927, 1928, 1984, 2048, 2112, 2176] from by decide); have g506_ : (0 : Int) ≤ s0 50 6 ∧ s0 50 6 ≤ 120 := hG0 50 6; show z7 = coS s0 2; unfold coS; rw [if_neg (by decide), if_neg (by decide), if_pos rfl]; rw [← show z1 = s0 0 10 by omega]; exact xp_z7)⟩), i0_VCj, i0_VCl⟩
    · rw [c5]
      refine x_B k103_15 rfl (fun _ => rfl) (fun _ => rfl) (fun _ _ => rfl) ?_
      show xe none 103 101 [(0, .ref 0), (1, vi 3)] [] s0 0 0 _
      refine x_A k103_101 (fun _ => rfl) ?_
      refine x_getR k103_102 (f := 1) rfl (q := 0) (n := 12) (kd := 3) ⟨by decide, rfl⟩ (q2 := 46) (by decide) rfl ?_
      refine x_getI k103_105 (f := 3) rfl (q := 46) (n := 4) (kd := 5) ⟨by decide, rfl⟩ (by decide) rfl ?_
      refine x_top (fun z9 e_z9 => ?_)
      have g_z9 : (0 : Int) ≤ s0 46 3 ∧ s0 46 3 ≤ 40 := hG0 46 3
      exact x_iret k103_108 rfl ⟨hG0, f0, z9, rfl, (by first | exact x_rbe e_z9 g_z9 rfl rfl | exact x_rb g_z9 rfl rfl | exact ⟨by omega, by omega⟩), (Or.inr ⟨by omega, (by (try rw [show a = 3 by omega]); have e506_ := f0 50 6 (show 711 ∉ [3329, 3334, 3335, 3336, 3392, 3456, 3520, 3584, 3276, 3648, 3712, 3776, 3840, 3904, 3968, 3277, 4032, 1921, 1926, 1927, 1928, 1984, 2048, 2112, 2176] from by decide); have g506_ : (0 : Int) ≤ s0 50 6 ∧ s0 50 6 ≤ 120 := hG0 50 6; show z9 = coS s0 3; unfold coS; rw [if_neg (by decide), if_neg (by decide), if_neg (by decide), if_pos rfl]; omega)⟩), i0_VCj, i0_VCl⟩
    · rw [c5]
      refine x_B k103_15 rfl (fun _ => rfl) (fun _ => rfl) (fun _ _ => rfl) ?_
      show xe none 103 109 [(0, .ref 0), (1, vi 4)] [] s0 0 0 _
      refine x_A k103_109 (fun _ => rfl) ?_
      refine x_getR k103_110 (f := 2) rfl (q := 0) (n := 12) (kd := 3) ⟨by decide, rfl⟩ (q2 := 50) (by decide) rfl ?_
      refine x_getI k103_113 (f := 6) rfl (q := 50) (n := 7) (kd := 6) ⟨by decide, rfl⟩ (by decide) rfl ?_
      refine x_top (fun z10 e_z10 => ?_)
      have g_z10 : (0 : Int) ≤ s0 50 6 ∧ s0 50 6 ≤ 120 := hG0 50 6
      exact x_iret k103_116 rfl ⟨hG0, f0, z10, rfl, (by first | exact x_rbe e_z10 g_z10 rfl rfl | exact x_rb g_z10 rfl rfl | exact ⟨by omega, by omega⟩), (Or.inr ⟨by omega, (by (try rw [show a = 4 by omega]); have e506_ := f0 50 6 (show 711 ∉ [3329, 3334, 3335, 3336, 3392, 3456, 3520, 3584, 3276, 3648, 3712, 3776, 3840, 3904, 3968, 3277, 4032, 1921, 1926, 1927, 1928, 1984, 2048, 2112, 2176] from by decide); have g506_ : (0 : Int) ≤ s0 50 6 ∧ s0 50 6 ≤ 120 := hG0 50 6; show z10 = coS s0 4; unfold coS; rw [if_neg (by decide), if_neg (by decide), if_neg (by decide), if_neg (by decide), if_pos rfl]; omega)⟩), i0_VCj, i0_VCl⟩
    · rw [c5]
      refine x_B k103_15 rfl (fun _ => rfl) (fun _ => rfl) (fun _ _ => rfl) ?_
      show xe none 103 117 [(0, .ref 0), (1, vi 5)] [] s0 0 0 _
      refine x_A k103_117 (fun _ => rfl) ?_
      refine x_getR k103_118 (f := 9) rfl (q := 0) (n := 12) (kd := 3) ⟨by decide, rfl⟩ (q2 := 243) (by decide) rfl ?_
      refine x_callV k103_121 (y := 74) (n := 0) (w0 := 0) (w1 := 0) (as := []) (rest := []) (by decide +kernel) (q := 243) (nq := 13) (kq := 13) ⟨by decide, rfl⟩ rfl rfl rfl rfl (xe_mono (E_X8_judge_243 s0 hG0 (hJ0.fl f0 (by decide)) (pR.fl f0 (by decide)) i0_VCj) ?_)
      rintro s12 v ⟨hG_s12, t_s12, rfl, xp_z11⟩
      have f_s12 : FL [3329, 3334, 3335, 3336, 3392, 3456, 3520, 3584, 3276, 3648, 3712, 3776, 3840, 3904, 3968, 3277, 4032, 1921, 1926, 1927, 1928, 1984, 2048, 2112, 2176] s0 s12 := f0.tr t_s12 (by decide)
      have q13 : s12 0 10 = z1 := (t_s12 0 10 (show 11 ∉ [3329, 3334, 3335, 3336, 3392, 3456, 3520, 3584, 3276, 3648, 3712, 3776, 3840] from by decide)).trans e_z1.symm
      obtain ⟨z14, e_z14⟩ : ∃ z, z = s12 243 11 := ⟨_, rfl⟩
      have g_z14 : (0 : Int) ≤ s12 243 11 ∧ s12 243 11 ≤ 1 := hG_s12 243 11
      show xe none 103 124 [(0, .ref 0), (1, vi 5)] [] s12 0 0 _
      have VCj_d : VCj s12 := VCj.judge hG0 t_s12 (by decide) xp_z11.1
      have VCl_d : VCl s12 := VCl.judge i0_VCl hG0 t_s12 (by decide) xp_z11.2
      refine x_A k103_124 (fun _ => rfl) ?_
      refine x_getR k103_125 (f := 9) rfl (q := 0) (n := 12) (kd := 3) ⟨by decide, rfl⟩ (q2 := 243) (by decide) rfl ?_
      refine x_callV k103_128 (y := 84) (n := 0) (w0 := 0) (w1 := 0) (as := []) (rest := []) (by decide +kernel) (q := 243) (nq := 13) (kq := 13) ⟨by decide, rfl⟩ rfl rfl rfl rfl (xe_mono (E_X8_countWrong_243 s12 hG_s12) ?_)
      rintro s16 v ⟨-, t_s16, z15, rfl, g_z15, xp_z15⟩
      rw [t_s16.nil]
      try rw [t_s16.nil] at xp_z15
      show xe none 103 131 [(0, .ref 0), (1, vi 5)] [vi z15] s12 0 0 _
      exact x_iret k103_131 rfl ⟨hG_s12, f_s12, z15, rfl, (by first | exact x_rbe e_z15 g_z15 rfl rfl | exact x_rb g_z15 rfl rfl | exact ⟨by omega, by omega⟩), (Or.inr ⟨by omega, (by (try rw [show a = 5 by omega]); have e506_ := f_s12 50 6 (show 711 ∉ [3329, 3334, 3335, 3336, 3392, 3456, 3520, 3584, 3276, 3648, 3712, 3776, 3840, 3904, 3968, 3277, 4032, 1921, 1926, 1927, 1928, 1984, 2048, 2112, 2176] from by decide); have g506_ : (0 : Int) ≤ s0 50 6 ∧ s0 50 6 ≤ 120 := hG0 50 6; show z15 = coS s0 5; unfold coS; rw [if_neg (by decide), if_neg (by decide), if_neg (by decide), if_neg (by decide), if_neg (by decide), if_pos rfl]; rw [xp_z15, show s12 50 6 = s0 50 6 by omega]; exact ctp_cg _ (fun k hk => by rw [← (xp_z11.1 (k : Int) (by omega) (by omega)).1]; exact Iff.rfl))⟩), VCj_d, VCl_d⟩
    · rw [c5]
      refine x_B k103_15 rfl (fun _ => rfl) (fun _ => rfl) (fun _ _ => rfl) ?_
      show xe none 103 132 [(0, .ref 0), (1, vi 6)] [] s0 0 0 _
      refine x_A k103_132 (fun _ => rfl) ?_
      refine x_getR k103_133 (f := 9) rfl (q := 0) (n := 12) (kd := 3) ⟨by decide, rfl⟩ (q2 := 243) (by decide) rfl ?_
      refine x_A k103_136 (fun _ => rfl) ?_
      refine x_getI k103_137 (f := 10) rfl (q := 0) (n := 12) (kd := 3) ⟨by decide, rfl⟩ (by decide) rfl ?_
      refine x_rw (e_z1.symm) ?_
      refine x_callV k103_140 (y := 76) (n := 1) (w0 := 0) (w1 := 1) (as := [vi z1]) (rest := []) (by decide +kernel) (q := 243) (nq := 13) (kq := 13) ⟨by decide, rfl⟩ rfl rfl rfl rfl (xe_mono (E_X8_lookIn_243 s0 hG0 (hJ0.fl f0 (by decide)) z1 (by first | exact x_rbe e_z1 g_z1 rfl rfl | exact x_rb g_z1 rfl rfl | exact ⟨by omega, by omega⟩) (pR.fl f0 (by decide)) i0_VCj i0_VCl) ?_)
      rintro s18 v ⟨hG_s18, t_s18, rfl, xp_z17⟩
      have f_s18 : FL [3329, 3334, 3335, 3336, 3392, 3456, 3520, 3584, 3276, 3648, 3712, 3776, 3840, 3904, 3968, 3277, 4032, 1921, 1926, 1927, 1928, 1984, 2048, 2112, 2176] s0 s18 := f0.tr t_s18 (by decide)
      have q19 : s18 0 10 = z1 := (t_s18 0 10 (show 11 ∉ [3329, 3334, 3335, 3336, 3392, 3456, 3520, 3584, 3276, 3648, 3712, 3776, 3840, 3904, 3968, 3277, 4032] from by decide)).trans e_z1.symm
      obtain ⟨z20, e_z20⟩ : ∃ z, z = s18 243 11 := ⟨_, rfl⟩
      have g_z20 : (0 : Int) ≤ s18 243 11 ∧ s18 243 11 ≤ 1 := hG_s18 243 11
      obtain ⟨z21, e_z21⟩ : ∃ z, z = s18 243 12 := ⟨_, rfl⟩
      have g_z21 : (-1) ≤ s18 243 12 ∧ s18 243 12 ≤ 9 := hG_s18 243 12
      show xe none 103 143 [(0, .ref 0), (1, vi 6)] [] s18 0 0 _
      have VCj_k : VCj s18 := VCj.judge hG0 t_s18 (by decide) xp_z17.1
      have VCl_k : VCl s18 := VCl.look hG0 t_s18 (by decide) xp_z17.2.1 xp_z17.2.2.1 xp_z17.2.2.2
      refine x_A k103_143 (fun _ => rfl) ?_
      refine x_getR k103_144 (f := 9) rfl (q := 0) (n := 12) (kd := 3) ⟨by decide, rfl⟩ (q2 := 243) (by decide) rfl ?_
      refine x_callV k103_147 (y := 85) (n := 0) (w0 := 0) (w1 := 0) (as := []) (rest := []) (by decide +kernel) (q := 243) (nq := 13) (kq := 13) ⟨by decide, rfl⟩ rfl rfl rfl rfl (xe_mono (E_X8_countNeedingLook_243 s18 hG_s18) ?_)
      rintro s23 v ⟨-, t_s23, z22, rfl, g_z22, xp_z22⟩
      rw [t_s23.nil]
      try rw [t_s23.nil] at xp_z22
      show xe none 103 150 [(0, .ref 0), (1, vi 6)] [vi z22] s18 0 0 _
      exact x_iret k103_150 rfl ⟨hG_s18, f_s18, z22, rfl, (by first | exact x_rbe e_z22 g_z22 rfl rfl | exact x_rb g_z22 rfl rfl | exact ⟨by omega, by omega⟩), (Or.inr ⟨by omega, (by (try rw [show a = 6 by omega]); have e506_ := f_s18 50 6 (show 711 ∉ [3329, 3334, 3335, 3336, 3392, 3456, 3520, 3584, 3276, 3648, 3712, 3776, 3840, 3904, 3968, 3277, 4032, 1921, 1926, 1927, 1928, 1984, 2048, 2112, 2176] from by decide); have g506_ : (0 : Int) ≤ s0 50 6 ∧ s0 50 6 ≤ 120 := hG0 50 6; show z22 = coS s0 6; unfold coS; rw [if_neg (by decide), if_neg (by decide), if_neg (by decide), if_neg (by decide), if_neg (by decide), if_neg (by decide), if_pos rfl]; rw [xp_z22, show s18 50 6 = s0 50 6 by omega, ← show z1 = s0 0 10 by omega]; exact ctp_cg _ (fun k hk => (xp_z17.2.1.1 (k : Int) (by omega) (by omega)).2))⟩), VCj_k, VCl_k⟩
    · rw [c5]
      refine x_B k103_15 rfl (fun _ => rfl) (fun _ => rfl) (fun _ _ => rfl) ?_
      show xe none 103 151 [(0, .ref 0), (1, vi 7)] [] s0 0 0 _
      refine x_A k103_151 (fun _ => rfl) ?_
      refine x_getR k103_152 (f := 9) rfl (q := 0) (n := 12) (kd := 3) ⟨by decide, rfl⟩ (q2 := 243) (by decide) rfl ?_
      refine x_A k103_155 (fun _ => rfl) ?_
      refine x_getI k103_156 (f := 10) rfl (q := 0) (n := 12) (kd := 3) ⟨by decide, rfl⟩ (by decide) rfl ?_
      refine x_rw (e_z1.symm) ?_
      refine x_callV k103_159 (y := 76) (n := 1) (w0 := 0) (w1 := 1) (as := [vi z1]) (rest := []) (by decide +kernel) (q := 243) (nq := 13) (kq := 13) ⟨by decide, rfl⟩ rfl rfl rfl rfl (xe_mono (E_X8_lookIn_243 s0 hG0 (hJ0.fl f0 (by decide)) z1 (by first | exact x_rbe e_z1 g_z1 rfl rfl | exact x_rb g_z1 rfl rfl | exact ⟨by omega, by omega⟩) (pR.fl f0 (by decide)) i0_VCj i0_VCl) ?_)
      rintro s25 v ⟨hG_s25, t_s25, rfl, xp_z24⟩
      have f_s25 : FL [3329, 3334, 3335, 3336, 3392, 3456, 3520, 3584, 3276, 3648, 3712, 3776, 3840, 3904, 3968, 3277, 4032, 1921, 1926, 1927, 1928, 1984, 2048, 2112, 2176] s0 s25 := f0.tr t_s25 (by decide)
      have q26 : s25 0 10 = z1 := (t_s25 0 10 (show 11 ∉ [3329, 3334, 3335, 3336, 3392, 3456, 3520, 3584, 3276, 3648, 3712, 3776, 3840, 3904, 3968, 3277, 4032] from by decide)).trans e_z1.symm
      obtain ⟨z27, e_z27⟩ : ∃ z, z = s25 243 11 := ⟨_, rfl⟩
      have g_z27 : (0 : Int) ≤ s25 243 11 ∧ s25 243 11 ≤ 1 := hG_s25 243 11
      obtain ⟨z28, e_z28⟩ : ∃ z, z = s25 243 12 := ⟨_, rfl⟩
      have g_z28 : (-1) ≤ s25 243 12 ∧ s25 243 12 ≤ 9 := hG_s25 243 12
      show xe none 103 162 [(0, .ref 0), (1, vi 7)] [] s25 0 0 _
      have VCj_k : VCj s25 := VCj.judge hG0 t_s25 (by decide) xp_z24.1
      have VCl_k : VCl s25 := VCl.look hG0 t_s25 (by decide) xp_z24.2.1 xp_z24.2.2.1 xp_z24.2.2.2
      refine x_A k103_162 (fun _ => rfl) ?_
      refine x_getR k103_163 (f := 5) rfl (q := 0) (n := 12) (kd := 3) ⟨by decide, rfl⟩ (q2 := 209) (by decide) rfl ?_
      refine x_A k103_166 (fun _ => rfl) ?_
      refine x_getR k103_167 (f := 4) rfl (q := 0) (n := 12) (kd := 3) ⟨by decide, rfl⟩ (q2 := 179) (by decide) rfl ?_
      refine x_A k103_170 (fun _ => rfl) ?_
      refine x_getI k103_171 (f := 10) rfl (q := 0) (n := 12) (kd := 3) ⟨by decide, rfl⟩ (by decide) rfl ?_
      refine x_rw (q26) ?_
      refine x_callV k103_174 (y := 16) (n := 2) (w0 := 0) (w1 := 2) (as := [.ref 179, vi z1]) (rest := []) (by decide +kernel) (q := 209) (nq := 8) (kq := 9) ⟨by decide, rfl⟩ rfl rfl rfl rfl (xe_mono (E_X1_setTo_209_179 s25 hG_s25 (hJ0.fl f_s25 (by decide)) z1 (by first | exact x_rbe e_z1 g_z1 rfl rfl | exact x_rb g_z1 rfl rfl | exact ⟨by omega, by omega⟩) (pR.fl f_s25 (by decide))) ?_)
      rintro s30 v ⟨hG_s30, t_s30, rfl, xp_z29⟩
      have f_s30 : FL [3329, 3334, 3335, 3336, 3392, 3456, 3520, 3584, 3276, 3648, 3712, 3776, 3840, 3904, 3968, 3277, 4032, 1921, 1926, 1927, 1928, 1984, 2048, 2112, 2176] s0 s30 := f_s25.tr t_s30 (by decide)
      have q31 : s30 0 10 = z1 := (t_s30 0 10 (show 11 ∉ [1921, 1926, 1927, 1928, 1984, 2048, 2112, 2176] from by decide)).trans q26
      have q32 : s30 243 11 = z27 := (t_s30 243 11 (show 3276 ∉ [1921, 1926, 1927, 1928, 1984, 2048, 2112, 2176] from by decide)).trans e_z27.symm
      have q33 : s30 243 12 = z28 := (t_s30 243 12 (show 3277 ∉ [1921, 1926, 1927, 1928, 1984, 2048, 2112, 2176] from by decide)).trans e_z28.symm
      have VCj_s30 : VCj s30 := VCj.fl VCj_k hG_s25 t_s30 (by decide)
      have VCl_s30 : VCl s30 := VCl.fl VCl_k hG_s25 t_s30 (by decide)
      show xe none 103 177 [(0, .ref 0), (1, vi 7)] [] s30 0 0 _
      refine x_A k103_177 (fun _ => rfl) ?_
      refine x_getR k103_178 (f := 9) rfl (q := 0) (n := 12) (kd := 3) ⟨by decide, rfl⟩ (q2 := 243) (by decide) rfl ?_
      refine x_A k103_181 (fun _ => rfl) ?_
      refine x_getR k103_182 (f := 5) rfl (q := 0) (n := 12) (kd := 3) ⟨by decide, rfl⟩ (q2 := 209) (by decide) rfl ?_
      refine x_callV k103_185 (y := 86) (n := 1) (w0 := 0) (w1 := 1) (as := [.ref 209]) (rest := []) (by decide +kernel) (q := 243) (nq := 13) (kq := 13) ⟨by decide, rfl⟩ rfl rfl rfl rfl (xe_mono (E_X8_countLacking_243_209 s30 hG_s30 (fun i i0 i1 => by have q := pn0 i i0 (by have e := f_s30 50 6 (show 711 ∉ [3329, 3334, 3335, 3336, 3392, 3456, 3520, 3584, 3276, 3648, 3712, 3776, 3840, 3904, 3968, 3277, 4032, 1921, 1926, 1927, 1928, 1984, 2048, 2112, 2176] from by decide); omega); rw [f_s30 55 _ (show 1024 ∉ [3329, 3334, 3335, 3336, 3392, 3456, 3520, 3584, 3276, 3648, 3712, 3776, 3840, 3904, 3968, 3277, 4032, 1921, 1926, 1927, 1928, 1984, 2048, 2112, 2176] from by decide)]; omega) (by omega) (by rw [show s30 243 12 = z1 by omega]; exact Fo.ve xp_z29 (FL.ve t_s30 hG_s25 (by decide)).sy) (VCj_s30 (by omega)) (VCl_s30 (by omega)).2) ?_)
      rintro s35 v ⟨-, t_s35, z34, rfl, g_z34, xp_z34⟩
      rw [t_s35.nil]
      try rw [t_s35.nil] at xp_z34
      show xe none 103 188 [(0, .ref 0), (1, vi 7)] [vi z34] s30 0 0 _
      exact x_iret k103_188 rfl ⟨hG_s30, f_s30, z34, rfl, (by first | exact x_rbe e_z34 g_z34 rfl rfl | exact x_rb g_z34 rfl rfl | exact ⟨by omega, by omega⟩), (Or.inr ⟨by omega, (by (try rw [show a = 7 by omega]); have e506_ := f_s30 50 6 (show 711 ∉ [3329, 3334, 3335, 3336, 3392, 3456, 3520, 3584, 3276, 3648, 3712, 3776, 3840, 3904, 3968, 3277, 4032, 1921, 1926, 1927, 1928, 1984, 2048, 2112, 2176] from by decide); have g506_ : (0 : Int) ≤ s0 50 6 ∧ s0 50 6 ≤ 120 := hG0 50 6; show z34 = coS s0 7; unfold coS; rw [if_neg (by decide), if_neg (by decide), if_neg (by decide), if_neg (by decide), if_neg (by decide), if_neg (by decide), if_neg (by decide), if_pos rfl]; rw [xp_z34, show s30 50 6 = s0 50 6 by omega, show s30 243 12 = s0 0 10 by omega]; exact ctp_cg _ (fun k hk => (FL.ve f_s30 hG0 (by decide)).la _ _))⟩), VCj_s30, VCl_s30⟩
    · rw [c5]
      refine x_B k103_15 rfl (fun _ => rfl) (fun _ => rfl) (fun _ _ => rfl) ?_
      show xe none 103 189 [(0, .ref 0), (1, vi 8)] [] s0 0 0 _
      refine x_A k103_189 (fun _ => rfl) ?_
      refine x_getR k103_190 (f := 4) rfl (q := 0) (n := 12) (kd := 3) ⟨by decide, rfl⟩ (q2 := 179) (by decide) rfl ?_
      refine x_getI k103_193 (f := 5) rfl (q := 179) (n := 6) (kd := 8) ⟨by decide, rfl⟩ (by decide) rfl ?_
      refine x_top (fun z36 e_z36 => ?_)
      have g_z36 : (0 : Int) ≤ s0 179 5 ∧ s0 179 5 ≤ 8 := hG0 179 5
      exact x_iret k103_196 rfl ⟨hG0, f0, z36, rfl, (by first | exact x_rbe e_z36 g_z36 rfl rfl | exact x_rb g_z36 rfl rfl | exact ⟨by omega, by omega⟩), (Or.inr ⟨by omega, (by (try rw [show a = 8 by omega]); have e506_ := f0 50 6 (show 711 ∉ [3329, 3334, 3335, 3336, 3392, 3456, 3520, 3584, 3276, 3648, 3712, 3776, 3840, 3904, 3968, 3277, 4032, 1921, 1926, 1927, 1928, 1984, 2048, 2112, 2176] from by decide); have g506_ : (0 : Int) ≤ s0 50 6 ∧ s0 50 6 ≤ 120 := hG0 50 6; show z36 = coS s0 8; unfold coS; rw [if_neg (by decide), if_neg (by decide), if_neg (by decide), if_neg (by decide), if_neg (by decide), if_neg (by decide), if_neg (by decide), if_neg (by decide), if_pos rfl]; omega)⟩), i0_VCj, i0_VCl⟩
    · rw [c5]
      refine x_B k103_15 rfl (fun _ => rfl) (fun _ => rfl) (fun _ _ => rfl) ?_
      show xe none 103 197 [(0, .ref 0), (1, vi 9)] [] s0 0 0 _
      refine x_A k103_197 (fun _ => rfl) ?_
      refine x_getR k103_198 (f := 3) rfl (q := 0) (n := 12) (kd := 3) ⟨by decide, rfl⟩ (q2 := 177) (by decide) rfl ?_
      refine x_getI k103_201 (f := 1) rfl (q := 177) (n := 7) (kd := 7) ⟨by decide, rfl⟩ (by decide) rfl ?_
      refine x_top (fun z37 e_z37 => ?_)
      have g_z37 : (0 : Int) ≤ s0 177 1 ∧ s0 177 1 ≤ 160 := hG0 177 1
      exact x_iret k103_204 rfl ⟨hG0, f0, z37, rfl, (by first | exact x_rbe e_z37 g_z37 rfl rfl | exact x_rb g_z37 rfl rfl | exact ⟨by omega, by omega⟩), (Or.inr ⟨by omega, (by (try rw [show a = 9 by omega]); have e506_ := f0 50 6 (show 711 ∉ [3329, 3334, 3335, 3336, 3392, 3456, 3520, 3584, 3276, 3648, 3712, 3776, 3840, 3904, 3968, 3277, 4032, 1921, 1926, 1927, 1928, 1984, 2048, 2112, 2176] from by decide); have g506_ : (0 : Int) ≤ s0 50 6 ∧ s0 50 6 ≤ 120 := hG0 50 6; show z37 = coS s0 9; unfold coS; rw [if_neg (by decide), if_neg (by decide), if_neg (by decide), if_neg (by decide), if_neg (by decide), if_neg (by decide), if_neg (by decide), if_neg (by decide), if_neg (by decide), if_pos rfl]; omega)⟩), i0_VCj, i0_VCl⟩
    · rw [c5]
      refine x_B k103_15 rfl (fun _ => rfl) (fun _ => rfl) (fun _ _ => rfl) ?_
      show xe none 103 205 [(0, .ref 0), (1, vi 10)] [] s0 0 0 _
      refine x_A k103_205 (fun _ => rfl) ?_
      refine x_getR k103_206 (f := 6) rfl (q := 0) (n := 12) (kd := 3) ⟨by decide, rfl⟩ (q2 := 214) (by decide) rfl ?_
      refine x_getI k103_209 (f := 3) rfl (q := 214) (n := 4) (kd := 10) ⟨by decide, rfl⟩ (by decide) rfl ?_
      refine x_top (fun z38 e_z38 => ?_)
      have g_z38 : (0 : Int) ≤ s0 214 3 ∧ s0 214 3 ≤ 60 := hG0 214 3
      exact x_iret k103_212 rfl ⟨hG0, f0, z38, rfl, (by first | exact x_rbe e_z38 g_z38 rfl rfl | exact x_rb g_z38 rfl rfl | exact ⟨by omega, by omega⟩), (Or.inr ⟨by omega, (by (try rw [show a = 10 by omega]); have e506_ := f0 50 6 (show 711 ∉ [3329, 3334, 3335, 3336, 3392, 3456, 3520, 3584, 3276, 3648, 3712, 3776, 3840, 3904, 3968, 3277, 4032, 1921, 1926, 1927, 1928, 1984, 2048, 2112, 2176] from by decide); have g506_ : (0 : Int) ≤ s0 50 6 ∧ s0 50 6 ≤ 120 := hG0 50 6; show z38 = coS s0 10; unfold coS; rw [if_neg (by decide), if_neg (by decide), if_neg (by decide), if_neg (by decide), if_neg (by decide), if_neg (by decide), if_neg (by decide), if_neg (by decide), if_neg (by decide), if_neg (by decide), if_pos rfl]; omega)⟩), i0_VCj, i0_VCl⟩
    · rw [c5]
      refine x_B k103_15 rfl (fun _ => rfl) (fun _ => rfl) (fun _ _ => rfl) ?_
      show xe none 103 213 [(0, .ref 0), (1, vi 11)] [] s0 0 0 _
      refine x_A k103_213 (fun _ => rfl) ?_
      refine x_getR k103_214 (f := 7) rfl (q := 0) (n := 12) (kd := 3) ⟨by decide, rfl⟩ (q2 := 218) (by decide) rfl ?_
      refine x_getI k103_217 (f := 6) rfl (q := 218) (n := 7) (kd := 11) ⟨by decide, rfl⟩ (by decide) rfl ?_
      refine x_top (fun z39 e_z39 => ?_)
      have g_z39 : (0 : Int) ≤ s0 218 6 ∧ s0 218 6 ≤ 8 := hG0 218 6
      exact x_iret k103_220 rfl ⟨hG0, f0, z39, rfl, (by first | exact x_rbe e_z39 g_z39 rfl rfl | exact x_rb g_z39 rfl rfl | exact ⟨by omega, by omega⟩), (Or.inr ⟨by omega, (by (try rw [show a = 11 by omega]); have e506_ := f0 50 6 (show 711 ∉ [3329, 3334, 3335, 3336, 3392, 3456, 3520, 3584, 3276, 3648, 3712, 3776, 3840, 3904, 3968, 3277, 4032, 1921, 1926, 1927, 1928, 1984, 2048, 2112, 2176] from by decide); have g506_ : (0 : Int) ≤ s0 50 6 ∧ s0 50 6 ≤ 120 := hG0 50 6; show z39 = coS s0 11; unfold coS; rw [if_neg (by decide), if_neg (by decide), if_neg (by decide), if_neg (by decide), if_neg (by decide), if_neg (by decide), if_neg (by decide), if_neg (by decide), if_neg (by decide), if_neg (by decide), if_neg (by decide), if_pos rfl]; omega)⟩), i0_VCj, i0_VCl⟩
    · refine x_tabD k103_15 ⟨by omega, by omega⟩ c5 (t0 := 221) rfl ?_
      refine x_A k103_221 (fun _ => rfl) ?_
      refine x_getR k103_222 (f := 8) rfl (q := 0) (n := 12) (kd := 3) ⟨by decide, rfl⟩ (q2 := 231) (by decide) rfl ?_
      refine x_getI k103_225 (f := 3) rfl (q := 231) (n := 4) (kd := 12) ⟨by decide, rfl⟩ (by decide) rfl ?_
      refine x_top (fun z40 e_z40 => ?_)
      have g_z40 : (0 : Int) ≤ s0 231 3 ∧ s0 231 3 ≤ 4 := hG0 231 3
      exact x_iret k103_228 rfl ⟨hG0, f0, z40, rfl, (by first | exact x_rbe e_z40 g_z40 rfl rfl | exact x_rb g_z40 rfl rfl | exact ⟨by omega, by omega⟩), (Or.inr ⟨by omega, (by (try rw [show a = 12 by omega]); have e506_ := f0 50 6 (show 711 ∉ [3329, 3334, 3335, 3336, 3392, 3456, 3520, 3584, 3276, 3648, 3712, 3776, 3840, 3904, 3968, 3277, 4032, 1921, 1926, 1927, 1928, 1984, 2048, 2112, 2176] from by decide); have g506_ : (0 : Int) ≤ s0 50 6 ∧ s0 50 6 ≤ 120 := hG0 50 6; show z40 = coS s0 12; unfold coS; rw [if_neg (by decide), if_neg (by decide), if_neg (by decide), if_neg (by decide), if_neg (by decide), if_neg (by decide), if_neg (by decide), if_neg (by decide), if_neg (by decide), if_neg (by decide), if_neg (by decide), if_neg (by decide)]; omega)⟩), i0_VCj, i0_VCl⟩
  · rw [e_z2]
    show xe none 103 7 [(0, .ref 0), (1, vi a)] [vi 0] s0 0 0 _
    refine x_if_ne k103_7 (t := 14) rfl ⟨by decide, by decide⟩ (fun c41 => by exfalso; omega) (fun c41 => ?_)
    refine x_sipush k103_10 (by decide +kernel) ?_
    exact x_iret k103_13 rfl ⟨hG0, f0, (-1002), rfl, ⟨by decide, by decide⟩, (Or.inl ⟨by omega, rfl⟩), i0_VCj, i0_VCl⟩
