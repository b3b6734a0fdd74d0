set_option maxHeartbeats 8000000 in
theorem L_E_X7_followJoins_1_5 (s0 : xS) (a : Int) (b_a : 0 ≤ a ∧ a ≤ 39) (b : Int) (b_b : (-2147483648) ≤ b ∧ b ≤ 2147483647)  : ∀ (n : Nat) (s : xS) (x1 : Int) (x2 : Int) (x3 : Int) (x4 : Int) (hG : GI s) (f : FL [] s0 s) (b_x1 : 0 ≤ x1 ∧ x1 ≤ 39) (b_x2 : (-2147483648) ≤ x2 ∧ x2 ≤ 2147483647) (b_x3 : 0 ≤ x3 ∧ x3 ≤ 39) (b_x4 : 0 ≤ x4 ∧ x4 ≤ 40) (w_0 : x2 = b) (w_1 : fjG (enC s0 b) (joC s0) (40 - x4).toNat x3 = fjG (enC s0 b) (joC s0) 40 a)  (hm : (40 - x4) < (n : Int)), xe none 69 5 [(0, .ref 1), (1, vi x1), (2, vi x2), (3, vi x3), (4, vi x4)] [] s 0 0 (fun s' v => GI s' ∧ FL [] s0 s' ∧ ∃ z, v = some (vi z) ∧ (0 ≤ z ∧ z ≤ 39) ∧ (z = fjG (enC s0 b) (joC s0) 40 a)) := by
  intro n
  induction n with
  | zero => intro s x1 x2 x3 x4 hG f b_x1 b_x2 b_x3 b_x4 w_0 w_1  hm; exfalso; omega
  | succ n ih =>
    intro s x1 x2 x3 x4 hG f b_x1 b_x2 b_x3 b_x4 w_0 w_1  hm
    refine x_A k69_5 (fun _ => rfl) ?_
    refine x_bipush k69_7 (by decide +kernel) ?_
    refine x_ic_ge k69_9 (t := 47) rfl (by first | exact x_rb b_x4 rfl rfl | exact ⟨by omega, by omega⟩) ⟨by decide, by decide⟩ (fun c155 => ?_) (fun c155 => ?_)
    · skip
      refine x_A k69_47 (fun _ => rfl) ?_
      exact x_iret k69_48 rfl ⟨hG, f, x3, rfl, (by first | exact x_rb b_x3 rfl rfl | exact ⟨by omega, by omega⟩), (by rw [← w_1, show (40 - x4).toNat = 0 by omega]; rfl)⟩
    · skip
      refine x_A k69_12 (fun _ => rfl) ?_
      refine x_A k69_13 (fun _ => rfl) ?_
      refine x_A k69_14 (fun _ => rfl) ?_
      obtain ⟨z156, e_z156⟩ : ∃ z, z = s 1 4 := ⟨_, rfl⟩
      have g_z156 : (1 : Int) ≤ s 1 4 ∧ s 1 4 ≤ 40 := hG 1 4
      refine x_callV k69_15 (y := 63) (n := 2) (w0 := 0) (w1 := 2) (as := [vi x3, vi x2]) (rest := []) (by decide +kernel) (q := 1) (nq := 5) (kq := 4) ⟨by decide, rfl⟩ rfl rfl rfl rfl (xe_mono (E_X7_isEnded_1 s hG x3 (by first | exact x_rb b_x3 rfl rfl | exact ⟨by omega, by omega⟩) x2 (by first | exact x_rb b_x2 rfl rfl | exact ⟨by omega, by omega⟩)) ?_)
      rintro s158 v ⟨h_s158, z157, rfl, hz_z157⟩
      rw [h_s158]
      rcases hz_z157 with ⟨c_z157, e_z157, m_z157⟩ | ⟨e_z157, m_z157⟩
      · rw [e_z157]
        show xe none 69 18 [(0, .ref 1), (1, vi x1), (2, vi x2), (3, vi x3), (4, vi x4)] [vi 1] s 0 0 _
        have hen : enC s0 b x3 := by rw [← f.nil, ← show x2 = b by omega]; exact ⟨by omega, by omega⟩
        refine x_if_eq k69_18 (t := 47) rfl ⟨by decide, by decide⟩ (fun c159 => by exfalso; omega) (fun c159 => ?_)
        refine x_A k69_21 (fun _ => rfl) ?_
        refine x_A k69_22 (fun _ => rfl) ?_
        refine x_getR k69_23 (f := 2) rfl (q := 1) (n := 5) (kd := 4) ⟨by decide, rfl⟩ (q2 := 4) (by decide) rfl ?_
        refine x_A k69_26 (fun _ => rfl) ?_
        refine x_iald k69_27 (q := 4) (n := 40) ⟨by decide, rfl⟩ (by decide) (by first | exact x_rbl b_x3 rfl rfl | exact ⟨by omega, by omega⟩) ?_
        refine x_top (fun z160 e_z160 => ?_)
        have g_z160 : (-1) ≤ s 4 x3.toNat ∧ s 4 x3.toNat ≤ 39 := hG 4 x3.toNat
        refine x_callV k69_28 (y := 59) (n := 1) (w0 := 0) (w1 := 1) (as := [vi z160]) (rest := []) (by decide +kernel) (q := 1) (nq := 5) (kq := 4) ⟨by decide, rfl⟩ rfl rfl rfl rfl (xe_mono (C_X7_has_1 s hG z160 (by first | exact x_rbe e_z160 g_z160 rfl rfl | exact x_rb g_z160 rfl rfl | exact ⟨by omega, by omega⟩)) ?_)
        rintro s162 v ⟨h_s162, z161, rfl, hz_z161⟩
        rw [h_s162]
        rcases hz_z161 with ⟨c_z161, e_z161⟩ | ⟨c_z161, e_z161⟩
        · rw [e_z161]
          show xe none 69 31 [(0, .ref 1), (1, vi x1), (2, vi x2), (3, vi x3), (4, vi x4)] [vi 1] s 0 0 _
          have hjo : joC s0 x3 = z160 := by unfold joC; rw [← f.nil, e_z160.symm, if_pos ⟨⟨by omega, by omega⟩, by omega⟩]
          refine x_if_eq k69_31 (t := 47) rfl ⟨by decide, by decide⟩ (fun c163 => by exfalso; omega) (fun c163 => ?_)
          refine x_A k69_34 (fun _ => rfl) ?_
          refine x_getR k69_35 (f := 2) rfl (q := 1) (n := 5) (kd := 4) ⟨by decide, rfl⟩ (q2 := 4) (by decide) rfl ?_
          refine x_A k69_38 (fun _ => rfl) ?_
          refine x_iald k69_39 (q := 4) (n := 40) ⟨by decide, rfl⟩ (by decide) (by first | exact x_rbl b_x3 rfl rfl | exact ⟨by omega, by omega⟩) ?_
          refine x_rw (e_z160.symm) ?_
          refine x_istore_n k69_40 (ls' := [(3, vi z160), (0, .ref 1), (1, vi x1), (2, vi x2), (4, vi x4)]) (by decide) rfl ?_
          refine x_iinc k69_41 (ls' := [(4, vi (x4 + 1)), (3, vi z160), (0, .ref 1), (1, vi x1), (2, vi x2)]) rfl (by decide) rfl ?_
          refine x_goto k69_44 (t := 5) rfl ?_
          refine x_ls (l := [(0, .ref 1), (1, vi x1), (2, vi x2), (3, vi z160), (4, vi (x4 + 1))]) (show ([0, 1, 2, 3, 4] : List Nat).Nodup from by decide) ⟨rfl, rfl, rfl, rfl, rfl, trivial⟩ ?_
          exact ih s x1 x2 z160 (x4 + 1) hG f (by first | exact x_rb b_x1 rfl rfl | exact ⟨by omega, by omega⟩) (by first | exact x_rb b_x2 rfl rfl | exact ⟨by omega, by omega⟩) (by first | exact x_rbe e_z160 g_z160 rfl rfl | exact x_rb g_z160 rfl rfl | exact ⟨by omega, by omega⟩) ⟨by omega, by omega⟩ (by omega) (by rw [← w_1, show (40 - x4).toNat = (40 - (x4 + 1)).toNat + 1 by omega, fjG_y ⟨hen, by omega⟩, hjo])  (by omega)
        · rw [e_z161]
          show xe none 69 31 [(0, .ref 1), (1, vi x1), (2, vi x2), (3, vi x3), (4, vi x4)] [vi 0] s 0 0 _
          have hjo : joC s0 x3 = -1 := by unfold joC; rw [← f.nil, e_z160.symm, if_neg (fun q => by have q2 := q.2; omega)]
          refine x_if_eq k69_31 (t := 47) rfl ⟨by decide, by decide⟩ (fun c164 => ?_) (fun c164 => by exfalso; omega)
          refine x_A k69_47 (fun _ => rfl) ?_
          exact x_iret k69_48 rfl ⟨hG, f, x3, rfl, (by first | exact x_rb b_x3 rfl rfl | exact ⟨by omega, by omega⟩), (by rw [← w_1, fjG_n (fun q => by have q2 := q.2; omega)])⟩
      · rw [e_z157]
        show xe none 69 18 [(0, .ref 1), (1, vi x1), (2, vi x2), (3, vi x3), (4, vi x4)] [vi 0] s 0 0 _
        have hne : ¬ enC s0 b x3 := by rw [← f.nil, ← show x2 = b by omega]; exact fun q => m_z157 ⟨q.1.1, q.1.2, q.2⟩
        refine x_if_eq k69_18 (t := 47) rfl ⟨by decide, by decide⟩ (fun c165 => ?_) (fun c165 => by exfalso; omega)
        refine x_A k69_47 (fun _ => rfl) ?_
        exact x_iret k69_48 rfl ⟨hG, f, x3, rfl, (by first | exact x_rb b_x3 rfl rfl | exact ⟨by omega, by omega⟩), (by rw [← w_1, fjG_n (fun q => hne q.1)])⟩
set_option maxHeartbeats 8000000 in
theorem E_X7_followJoins_1 (s0 : xS) (hG0 : GI s0) (a : Int) (b_a : 0 ≤ a ∧ a ≤ 39) (b : Int) (b_b : (-2147483648) ≤ b ∧ b ≤ 2147483647) : xe none 69 0 (lv_args 0 [.ref 1, vi a, vi b]) [] s0 0 0 (fun s' v => GI s' ∧ FL [] s0 s' ∧ ∃ z, v = some (vi z) ∧ (0 ≤ z ∧ z ≤ 39) ∧ (z = fjG (enC s0 b) (joC s0) 40 a)) := by
  have f0 : FL [] s0 s0 := FL.rf
  show xe none 69 0 [(0, .ref 1), (1, vi a), (2, vi b)] [] s0 0 0 _
  refine x_A k69_0 (fun _ => rfl) ?_
  refine x_istore_n k69_1 (ls' := [(3, vi a), (0, .ref 1), (1, vi a), (2, vi b)]) (by decide) rfl ?_
  refine x_A k69_2 (fun _ => rfl) ?_
  refine x_istore k69_3 (ls' := [(4, vi 0), (3, vi a), (0, .ref 1), (1, vi a), (2, vi b)]) (by decide) rfl ?_
  refine x_ls (l := [(0, .ref 1), (1, vi a), (2, vi b), (3, vi a), (4, vi 0)]) (show ([0, 1, 2, 3, 4] : List Nat).Nodup from by decide) ⟨rfl, rfl, rfl, rfl, rfl, trivial⟩ ?_
  exact L_E_X7_followJoins_1_5 s0 a b_a b b_b  (((40 - 0) + 1 : Int)).toNat s0 a b a 0 hG0 f0 (by first | exact x_rb b_a rfl rfl | exact ⟨by omega, by omega⟩) (by first | exact x_rb b_b rfl rfl | exact ⟨by omega, by omega⟩) (by first | exact x_rb b_a rfl rfl | exact ⟨by omega, by omega⟩) ⟨by decide, by decide⟩ (by omega) rfl  (by omega)
set_option maxHeartbeats 8000000 in
theorem L_E_X7_firstThere_1_5 (s0 : xS) (a : Int) (b_a : (-1) ≤ a ∧ a ≤ 39) (b : Int) (b_b : (-2147483648) ≤ b ∧ b ≤ 2147483647)  : ∀ (n : Nat) (s : xS) (x1 : Int) (x2 : Int) (x3 : Int) (x4 : Int) (hG : GI s) (f : FL [] s0 s) (b_x1 : (-1) ≤ x1 ∧ x1 ≤ 39) (b_x2 : (-2147483648) ≤ x2 ∧ x2 ≤ 2147483647) (b_x3 : (-1) ≤ x3 ∧ x3 ≤ 39) (b_x4 : 0 ≤ x4 ∧ x4 ≤ 40) (w_0 : x2 = b) (w_1 : ftG (s0 1 4) (thC s0 b) (parC s0 b) (40 - x4).toNat x3 = ftG (s0 1 4) (thC s0 b) (parC s0 b) 40 a)  (hm : (40 - x4) < (n : Int)), xe none 70 5 [(0, .ref 1), (1, vi x1), (2, vi x2), (3, vi x3), (4, vi x4)] [] s 0 0 (fun s' v => GI s' ∧ FL [] s0 s' ∧ ∃ z, v = some (vi z) ∧ ((-1) ≤ z ∧ z ≤ 39) ∧ (z = ftG (s0 1 4) (thC s0 b) (parC s0 b) 40 a)) := by
  intro n
  induction n with
  | zero => intro s x1 x2 x3 x4 hG f b_x1 b_x2 b_x3 b_x4 w_0 w_1  hm; exfalso; omega
  | succ n ih =>
    intro s x1 x2 x3 x4 hG f b_x1 b_x2 b_x3 b_x4 w_0 w_1  hm
    refine x_A k70_5 (fun _ => rfl) ?_
    refine x_bipush k70_7 (by decide +kernel) ?_
    refine x_ic_ge k70_9 (t := 42) rfl (by first | exact x_rb b_x4 rfl rfl | exact ⟨by omega, by omega⟩) ⟨by decide, by decide⟩ (fun c169 => ?_) (fun c169 => ?_)
    · skip
      refine x_A k70_42 (fun _ => rfl) ?_
      exact x_iret k70_43 rfl ⟨hG, f, x3, rfl, (by first | exact x_rb b_x3 rfl rfl | exact ⟨by omega, by omega⟩), (by rw [← w_1, show (40 - x4).toNat = 0 by omega]; rfl)⟩
    · skip
      refine x_A k70_12 (fun _ => rfl) ?_
      refine x_A k70_13 (fun _ => rfl) ?_
      obtain ⟨z170, e_z170⟩ : ∃ z, z = s 1 4 := ⟨_, rfl⟩
      have g_z170 : (1 : Int) ≤ s 1 4 ∧ s 1 4 ≤ 40 := hG 1 4
      refine x_callV k70_14 (y := 59) (n := 1) (w0 := 0) (w1 := 1) (as := [vi x3]) (rest := []) (by decide +kernel) (q := 1) (nq := 5) (kq := 4) ⟨by decide, rfl⟩ rfl rfl rfl rfl (xe_mono (C_X7_has_1 s hG x3 (by first | exact x_rb b_x3 rfl rfl | exact ⟨by omega, by omega⟩)) ?_)
      rintro s172 v ⟨h_s172, z171, rfl, hz_z171⟩
      rw [h_s172]
      rcases hz_z171 with ⟨c_z171, e_z171⟩ | ⟨c_z171, e_z171⟩
      · rw [e_z171]
        show xe none 70 17 [(0, .ref 1), (1, vi x1), (2, vi x2), (3, vi x3), (4, vi x4)] [vi 1] s 0 0 _
        refine x_if_eq k70_17 (t := 42) rfl ⟨by decide, by decide⟩ (fun c173 => by exfalso; omega) (fun c173 => ?_)
        refine x_A k70_20 (fun _ => rfl) ?_
        refine x_A k70_21 (fun _ => rfl) ?_
        refine x_A k70_22 (fun _ => rfl) ?_
        refine x_callV k70_23 (y := 64) (n := 2) (w0 := 0) (w1 := 2) (as := [vi x3, vi x2]) (rest := []) (by decide +kernel) (q := 1) (nq := 5) (kq := 4) ⟨by decide, rfl⟩ rfl rfl rfl rfl (xe_mono (E_X7_isThere_1 s hG x3 (by first | exact x_rb b_x3 rfl rfl | exact ⟨by omega, by omega⟩) x2 (by first | exact x_rb b_x2 rfl rfl | exact ⟨by omega, by omega⟩)) ?_)
        rintro s175 v ⟨h_s175, z174, rfl, hz_z174⟩
        rw [h_s175]
        rcases hz_z174 with ⟨c_z174, e_z174, m_z174⟩ | ⟨e_z174, m_z174⟩
        · rw [e_z174]
          show xe none 70 26 [(0, .ref 1), (1, vi x1), (2, vi x2), (3, vi x3), (4, vi x4)] [vi 1] s 0 0 _
          have hth : thC s0 b x3 := by rw [← f.nil, ← show x2 = b by omega]; exact ⟨by omega, by omega⟩
          refine x_if_ne k70_26 (t := 42) rfl ⟨by decide, by decide⟩ (fun c176 => ?_) (fun c176 => by exfalso; omega)
          refine x_A k70_42 (fun _ => rfl) ?_
          exact x_iret k70_43 rfl ⟨hG, f, x3, rfl, (by first | exact x_rb b_x3 rfl rfl | exact ⟨by omega, by omega⟩), (by rw [← w_1, ftG_n (fun q => q.2 hth)])⟩
        · rw [e_z174]
          show xe none 70 26 [(0, .ref 1), (1, vi x1), (2, vi x2), (3, vi x3), (4, vi x4)] [vi 0] s 0 0 _
          have hnt : ¬ thC s0 b x3 := by rw [← f.nil, ← show x2 = b by omega]; exact fun q => m_z174 ⟨q.1.1, q.1.2, q.2⟩
          refine x_if_ne k70_26 (t := 42) rfl ⟨by decide, by decide⟩ (fun c177 => by exfalso; omega) (fun c177 => ?_)
          refine x_A k70_29 (fun _ => rfl) ?_
          refine x_A k70_30 (fun _ => rfl) ?_
          refine x_A k70_31 (fun _ => rfl) ?_
          refine x_callV k70_32 (y := 62) (n := 2) (w0 := 0) (w1 := 2) (as := [vi x3, vi x2]) (rest := []) (by decide +kernel) (q := 1) (nq := 5) (kq := 4) ⟨by decide, rfl⟩ rfl rfl rfl rfl (xe_mono (E_X7_parentIn_1 s hG x3 (by first | exact x_rb b_x3 rfl rfl | exact ⟨by omega, by omega⟩) x2 (by first | exact x_rb b_x2 rfl rfl | exact ⟨by omega, by omega⟩)) ?_)
          rintro s179 v ⟨-, t_s179, z178, rfl, g_z178, xp_z178⟩
          rw [t_s179.nil]
          try rw [t_s179.nil] at xp_z178
          show xe none 70 35 [(0, .ref 1), (1, vi x1), (2, vi x2), (3, vi x3), (4, vi x4)] [vi z178] s 0 0 _
          refine x_istore_n k70_35 (ls' := [(3, vi z178), (0, .ref 1), (1, vi x1), (2, vi x2), (4, vi x4)]) (by decide) rfl ?_
          refine x_iinc k70_36 (ls' := [(4, vi (x4 + 1)), (3, vi z178), (0, .ref 1), (1, vi x1), (2, vi x2)]) rfl (by decide) rfl ?_
          refine x_goto k70_39 (t := 5) rfl ?_
          refine x_ls (l := [(0, .ref 1), (1, vi x1), (2, vi x2), (3, vi z178), (4, vi (x4 + 1))]) (show ([0, 1, 2, 3, 4] : List Nat).Nodup from by decide) ⟨rfl, rfl, rfl, rfl, rfl, trivial⟩ ?_
          exact ih s x1 x2 z178 (x4 + 1) hG f (by first | exact x_rb b_x1 rfl rfl | exact ⟨by omega, by omega⟩) (by first | exact x_rb b_x2 rfl rfl | exact ⟨by omega, by omega⟩) (by first | exact x_rbe e_z178 g_z178 rfl rfl | exact x_rb g_z178 rfl rfl | exact ⟨by omega, by omega⟩) ⟨by omega, by omega⟩ (by omega) (by rw [← w_1, show (40 - x4).toNat = (40 - (x4 + 1)).toNat + 1 by omega, ftG_y ⟨⟨by omega, by rw [← f.nil]; omega⟩, hnt⟩, xp_z178, f.nil, show x2 = b by omega])  (by omega)
      · rw [e_z171]
        show xe none 70 17 [(0, .ref 1), (1, vi x1), (2, vi x2), (3, vi x3), (4, vi x4)] [vi 0] s 0 0 _
        refine x_if_eq k70_17 (t := 42) rfl ⟨by decide, by decide⟩ (fun c180 => ?_) (fun c180 => by exfalso; omega)
        refine x_A k70_42 (fun _ => rfl) ?_
        exact x_iret k70_43 rfl ⟨hG, f, x3, rfl, (by first | exact x_rb b_x3 rfl rfl | exact ⟨by omega, by omega⟩), (by rw [← w_1, ftG_n (fun q => by have q2 := q.1; rw [← f.nil] at q2; omega)])⟩
set_option maxHeartbeats 8000000 in
theorem E_X7_firstThere_1 (s0 : xS) (hG0 : GI s0) (a : Int) (b_a : (-1) ≤ a ∧ a ≤ 39) (b : Int) (b_b : (-2147483648) ≤ b ∧ b ≤ 2147483647) : xe none 70 0 (lv_args 0 [.ref 1, vi a, vi b]) [] s0 0 0 (fun s' v => GI s' ∧ FL [] s0 s' ∧ ∃ z, v = some (vi z) ∧ ((-1) ≤ z ∧ z ≤ 39) ∧ (z = ftG (s0 1 4) (thC s0 b) (parC s0 b) 40 a)) := by
  have f0 : FL [] s0 s0 := FL.rf
  show xe none 70 0 [(0, .ref 1), (1, vi a), (2, vi b)] [] s0 0 0 _
  refine x_A k70_0 (fun _ => rfl) ?_
  refine x_istore_n k70_1 (ls' := [(3, vi a), (0, .ref 1), (1, vi a), (2, vi b)]) (by decide) rfl ?_
  refine x_A k70_2 (fun _ => rfl) ?_
  refine x_istore k70_3 (ls' := [(4, vi 0), (3, vi a), (0, .ref 1), (1, vi a), (2, vi b)]) (by decide) rfl ?_
  refine x_ls (l := [(0, .ref 1), (1, vi a), (2, vi b), (3, vi a), (4, vi 0)]) (show ([0, 1, 2, 3, 4] : List Nat).Nodup from by decide) ⟨rfl, rfl, rfl, rfl, rfl, trivial⟩ ?_
  exact L_E_X7_firstThere_1_5 s0 a b_a b b_b  (((40 - 0) + 1 : Int)).toNat s0 a b a 0 hG0 f0 (by first | exact x_rb b_a rfl rfl | exact ⟨by omega, by omega⟩) (by first | exact x_rb b_b rfl rfl | exact ⟨by omega, by omega⟩) (by first | exact x_rb b_a rfl rfl | exact ⟨by omega, by omega⟩) ⟨by decide, by decide⟩ (by omega) rfl  (by omega)
set_option maxHeartbeats 8000000 in
theorem L_E_X7_raised_1_6 (s0 : xS) (a : Int) (b_a : (-1) ≤ a ∧ a ≤ 39) (b : Int) (b_b : 0 ≤ b ∧ b ≤ 6) (d : Int) (b_d : (-2147483648) ≤ d ∧ d ≤ 2147483647)  : ∀ (n : Nat) (s : xS) (x1 : Int) (x2 : Int) (x3 : Int) (x4 : Int) (x5 : Int) (hG : GI s) (f : FL [] s0 s) (b_x1 : (-1) ≤ x1 ∧ x1 ≤ 39) (b_x2 : 0 ≤ x2 ∧ x2 ≤ 6) (b_x3 : (-2147483648) ≤ x3 ∧ x3 ≤ 2147483647) (b_x4 : (-1) ≤ x4 ∧ x4 ≤ 39) (b_x5 : 0 ≤ x5 ∧ x5 ≤ 6) (r_5_2 : x5 ≤ x2 + 0) (w_0 : x2 = b) (w_1 : x3 = d) (w_2 : raG (parC s0 d) (b - x5).toNat x4 = raG (parC s0 d) b.toNat a)  (hm : (6 - x5) < (n : Int)), xe none 71 6 [(0, .ref 1), (1, vi x1), (2, vi x2), (3, vi x3), (4, vi x4), (5, vi x5)] [] s 0 0 (fun s' v => GI s' ∧ FL [] s0 s' ∧ ∃ z, v = some (vi z) ∧ ((-1) ≤ z ∧ z ≤ 39) ∧ (z = raG (parC s0 d) b.toNat a)) := by
  intro n
  induction n with
  | zero => intro s x1 x2 x3 x4 x5 hG f b_x1 b_x2 b_x3 b_x4 b_x5 r_5_2 w_0 w_1 w_2  hm; exfalso; omega
  | succ n ih =>
    intro s x1 x2 x3 x4 x5 hG f b_x1 b_x2 b_x3 b_x4 b_x5 r_5_2 w_0 w_1 w_2  hm
    refine x_A k71_6 (fun _ => rfl) ?_
    refine x_A k71_8 (fun _ => rfl) ?_
    refine x_ic_ge k71_9 (t := 32) rfl (by first | exact x_rb b_x5 rfl rfl | exact ⟨by omega, by omega⟩) (by first | exact x_rb b_x2 rfl rfl | exact ⟨by omega, by omega⟩) (fun c29 => ?_) (fun c29 => ?_)
    · skip
      refine x_A k71_32 (fun _ => rfl) ?_
      exact x_iret k71_34 rfl ⟨hG, f, x4, rfl, (by first | exact x_rb b_x4 rfl rfl | exact ⟨by omega, by omega⟩), (by rw [← w_2]; first | (rw [show (b - x5).toNat = 0 by omega]; rfl) | (rw [show x4 = 0 by omega, raG_0]))⟩
    · skip
      refine x_A k71_12 (fun _ => rfl) ?_
      refine x_if_eq k71_14 (t := 32) rfl (by first | exact x_rb b_x4 rfl rfl | exact ⟨by omega, by omega⟩) (fun c30 => ?_) (fun c30 => ?_)
      · skip
        refine x_A k71_32 (fun _ => rfl) ?_
        exact x_iret k71_34 rfl ⟨hG, f, x4, rfl, (by first | exact x_rb b_x4 rfl rfl | exact ⟨by omega, by omega⟩), (by rw [← w_2, show x4 = 0 by omega, raG_0])⟩
      · skip
        refine x_A k71_17 (fun _ => rfl) ?_
        refine x_A k71_18 (fun _ => rfl) ?_
        refine x_A k71_20 (fun _ => rfl) ?_
        refine x_callV k71_21 (y := 62) (n := 2) (w0 := 0) (w1 := 2) (as := [vi x4, vi x3]) (rest := []) (by decide +kernel) (q := 1) (nq := 5) (kq := 4) ⟨by decide, rfl⟩ rfl rfl rfl rfl (xe_mono (E_X7_parentIn_1 s hG x4 (by first | exact x_rb b_x4 rfl rfl | exact ⟨by omega, by omega⟩) x3 (by first | exact x_rb b_x3 rfl rfl | exact ⟨by omega, by omega⟩)) ?_)
        rintro s32 v ⟨-, t_s32, z31, rfl, g_z31, xp_z31⟩
        rw [t_s32.nil]
        try rw [t_s32.nil] at xp_z31
        show xe none 71 24 [(0, .ref 1), (1, vi x1), (2, vi x2), (3, vi x3), (4, vi x4), (5, vi x5)] [vi z31] s 0 0 _
        refine x_istore k71_24 (ls' := [(4, vi z31), (0, .ref 1), (1, vi x1), (2, vi x2), (3, vi x3), (5, vi x5)]) (by decide) rfl ?_
        refine x_iinc k71_26 (ls' := [(5, vi (x5 + 1)), (4, vi z31), (0, .ref 1), (1, vi x1), (2, vi x2), (3, vi x3)]) rfl (by decide) rfl ?_
        refine x_goto k71_29 (t := 6) rfl ?_
        refine x_ls (l := [(0, .ref 1), (1, vi x1), (2, vi x2), (3, vi x3), (4, vi z31), (5, vi (x5 + 1))]) (show ([0, 1, 2, 3, 4, 5] : List Nat).Nodup from by decide) ⟨rfl, rfl, rfl, rfl, rfl, rfl, trivial⟩ ?_
        exact ih s x1 x2 x3 z31 (x5 + 1) hG f (by first | exact x_rb b_x1 rfl rfl | exact ⟨by omega, by omega⟩) (by first | exact x_rb b_x2 rfl rfl | exact ⟨by omega, by omega⟩) (by first | exact x_rb b_x3 rfl rfl | exact ⟨by omega, by omega⟩) (by first | exact x_rbe e_z31 g_z31 rfl rfl | exact x_rb g_z31 rfl rfl | exact ⟨by omega, by omega⟩) ⟨by omega, by omega⟩ (by omega) (by omega) (by omega) (by rw [← w_2, show (b - x5).toNat = (b - (x5 + 1)).toNat + 1 by omega, raG_s (by omega), xp_z31, f.nil, show x3 = d by omega])  (by omega)
set_option maxHeartbeats 8000000 in
theorem E_X7_raised_1 (s0 : xS) (hG0 : GI s0) (a : Int) (b_a : (-1) ≤ a ∧ a ≤ 39) (b : Int) (b_b : 0 ≤ b ∧ b ≤ 6) (d : Int) (b_d : (-2147483648) ≤ d ∧ d ≤ 2147483647) : xe none 71 0 (lv_args 0 [.ref 1, vi a, vi b, vi d]) [] s0 0 0 (fun s' v => GI s' ∧ FL [] s0 s' ∧ ∃ z, v = some (vi z) ∧ ((-1) ≤ z ∧ z ≤ 39) ∧ (z = raG (parC s0 d) b.toNat a)) := by
  have f0 : FL [] s0 s0 := FL.rf
  show xe none 71 0 [(0, .ref 1), (1, vi a), (2, vi b), (3, vi d)] [] s0 0 0 _
  refine x_A k71_0 (fun _ => rfl) ?_
  refine x_istore k71_1 (ls' := [(4, vi a), (0, .ref 1), (1, vi a), (2, vi b), (3, vi d)]) (by decide) rfl ?_
  refine x_A k71_3 (fun _ => rfl) ?_
  refine x_istore k71_4 (ls' := [(5, vi 0), (4, vi a), (0, .ref 1), (1, vi a), (2, vi b), (3, vi d)]) (by decide) rfl ?_
  refine x_ls (l := [(0, .ref 1), (1, vi a), (2, vi b), (3, vi d), (4, vi a), (5, vi 0)]) (show ([0, 1, 2, 3, 4, 5] : List Nat).Nodup from by decide) ⟨rfl, rfl, rfl, rfl, rfl, rfl, trivial⟩ ?_
  exact L_E_X7_raised_1_6 s0 a b_a b b_b d b_d  (((6 - 0) + 1 : Int)).toNat s0 a b d a 0 hG0 f0 (by first | exact x_rb b_a rfl rfl | exact ⟨by omega, by omega⟩) (by first | exact x_rb b_b rfl rfl | exact ⟨by omega, by omega⟩) (by first | exact x_rb b_d rfl rfl | exact ⟨by omega, by omega⟩) (by first | exact x_rb b_a rfl rfl | exact ⟨by omega, by omega⟩) ⟨by decide, by decide⟩ (by omega) (by omega) (by omega) (by rw [show b - 0 = b by omega])  (by omega)
