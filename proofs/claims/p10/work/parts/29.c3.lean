theorem L_C_J7_fill_53178_210_5 (s0 : xS)   : ∀ (n : Nat) (s : xS) (x1 : Int) (x2 : Int) (x3 : Int) (hG : GI s) (f : FL [1984] s0 s) (b_x1 : (-2147483648) ≤ x1 ∧ x1 ≤ 2147483647) (b_x2 : 0 ≤ x2 ∧ x2 ≤ 6) (b_x3 : 6 ≤ x3 ∧ x3 ≤ 6) (r_3_2 : x3 ≤ x2 + 6)  (hm : (6 - x2) < (n : Int)), xe none 229 5 [(0, .ref 210), (1, vi x1), (2, vi x2), (3, vi x3)] [] s 0 0 (fun s' v => GI s' ∧ FL [1984] s0 s' ∧ v = none) := by
  intro n
  induction n with
  | zero => intro s x1 x2 x3 hG f b_x1 b_x2 b_x3 r_3_2  hm; exfalso; omega
  | succ n ih =>
    intro s x1 x2 x3 hG f b_x1 b_x2 b_x3 r_3_2  hm
    refine x_A k229_5 (fun _ => rfl) ?_
    refine x_A k229_6 (fun _ => rfl) ?_
    refine x_ic_ge k229_7 (t := 20) rfl (by first | exact x_rb b_x2 rfl rfl | exact ⟨by omega, by omega⟩) (by first | exact x_rb b_x3 rfl rfl | exact ⟨by omega, by omega⟩) (fun c28 => ?_) (fun c28 => ?_)
    · skip
      exact x_vret k229_20 rfl ⟨hG, f, rfl⟩
    · skip
      refine x_A k229_10 (fun _ => rfl) ?_
      refine x_A k229_11 (fun _ => rfl) ?_
      refine x_A k229_12 (fun _ => rfl) ?_
      refine x_iast k229_13 (q := 210) (n := 6) ⟨by decide, rfl⟩ (by decide) (by first | exact x_rbl b_x2 rfl rfl | exact ⟨by omega, by omega⟩) ?_
      refine x_nh (fun s29 e_s29 => ?_)
      have hG_s29 : GI s29 := by rw [e_s29]; exact hG.up (show (-2147483648) ≤ x1 ∧ x1 ≤ 2147483647 from (by first | exact x_rb b_x1 rfl rfl | exact ⟨by omega, by omega⟩))
      have f_s29 : FL [1984] s0 s29 := by rw [e_s29]; exact f.up (show 1984 ∈ [1984] from by decide +kernel)
      have q30 : s29 210 x2.toNat = x1 := by rw [e_s29]; exact x_up_same
      refine x_iinc k229_14 (ls' := [(2, vi (x2 + 1)), (0, .ref 210), (1, vi x1), (3, vi x3)]) rfl (by decide) rfl ?_
      refine x_goto k229_17 (t := 5) rfl ?_
      refine x_ls (l := [(0, .ref 210), (1, vi x1), (2, vi (x2 + 1)), (3, vi x3)]) (show ([0, 1, 2, 3] : List Nat).Nodup from by decide +kernel) ⟨rfl, rfl, rfl, rfl, trivial⟩ ?_
      exact ih s29 x1 (x2 + 1) x3 hG_s29 f_s29 (by first | exact x_rb b_x1 rfl rfl | exact ⟨by omega, by omega⟩) ⟨by omega, by omega⟩ (by first | exact x_rb b_x3 rfl rfl | exact ⟨by omega, by omega⟩) (by omega)  (by omega)
theorem C_J7_fill_53178_210 (s0 : xS) (hG0 : GI s0) (a : Int) (b_a : (-2147483648) ≤ a ∧ a ≤ 2147483647) : xe none 229 0 (lv_args 0 [.ref 210, vi a]) [] s0 0 0 (fun s' v => GI s' ∧ FL [1984] s0 s' ∧ v = none) := by
  have f0 : FL [1984] s0 s0 := FL.rf
  show xe none 229 0 [(0, .ref 210), (1, vi a)] [] s0 0 0 _
  refine x_A k229_0 (fun _ => rfl) ?_
  refine x_istore_n k229_1 (ls' := [(2, vi 0), (0, .ref 210), (1, vi a)]) (by decide) rfl ?_
  refine x_A k229_2 (fun _ => rfl) ?_
  refine x_alen k229_3 (q := 210) (t := 20) (n := 6) (kd := 0) ⟨by decide, rfl⟩ (by decide) ?_
  refine x_top (fun z31 e_z31 => ?_)
  refine x_istore_n k229_4 (ls' := [(3, vi z31), (2, vi 0), (0, .ref 210), (1, vi a)]) (by decide) rfl ?_
  refine x_ls (l := [(0, .ref 210), (1, vi a), (2, vi 0), (3, vi z31)]) (show ([0, 1, 2, 3] : List Nat).Nodup from by decide +kernel) ⟨rfl, rfl, rfl, rfl, trivial⟩ ?_
  exact L_C_J7_fill_53178_210_5 s0   (((6 - 0) + 1 : Int)).toNat s0 a 0 z31 hG0 f0 (by first | exact x_rb b_a rfl rfl | exact ⟨by omega, by omega⟩) ⟨by decide, by decide⟩ (by first | exact x_rbe e_z31 g_z31 rfl rfl | exact x_rb g_z31 rfl rfl | exact ⟨by omega, by omega⟩) (by omega)  (by omega)
theorem L_C_J7_fill_53178_212_5 (s0 : xS)   : ∀ (n : Nat) (s : xS) (x1 : Int) (x2 : Int) (x3 : Int) (hG : GI s) (f : FL [2112] s0 s) (b_x1 : (-2147483648) ≤ x1 ∧ x1 ≤ 2147483647) (b_x2 : 0 ≤ x2 ∧ x2 ≤ 6) (b_x3 : 6 ≤ x3 ∧ x3 ≤ 6) (r_3_2 : x3 ≤ x2 + 6)  (hm : (6 - x2) < (n : Int)), xe none 229 5 [(0, .ref 212), (1, vi x1), (2, vi x2), (3, vi x3)] [] s 0 0 (fun s' v => GI s' ∧ FL [2112] s0 s' ∧ v = none) := by
  intro n
  induction n with
  | zero => intro s x1 x2 x3 hG f b_x1 b_x2 b_x3 r_3_2  hm; exfalso; omega
  | succ n ih =>
    intro s x1 x2 x3 hG f b_x1 b_x2 b_x3 r_3_2  hm
    refine x_A k229_5 (fun _ => rfl) ?_
    refine x_A k229_6 (fun _ => rfl) ?_
    refine x_ic_ge k229_7 (t := 20) rfl (by first | exact x_rb b_x2 rfl rfl | exact ⟨by omega, by omega⟩) (by first | exact x_rb b_x3 rfl rfl | exact ⟨by omega, by omega⟩) (fun c28 => ?_) (fun c28 => ?_)
    · skip
      exact x_vret k229_20 rfl ⟨hG, f, rfl⟩
    · skip
      refine x_A k229_10 (fun _ => rfl) ?_
      refine x_A k229_11 (fun _ => rfl) ?_
      refine x_A k229_12 (fun _ => rfl) ?_
      refine x_iast k229_13 (q := 212) (n := 6) ⟨by decide, rfl⟩ (by decide) (by first | exact x_rbl b_x2 rfl rfl | exact ⟨by omega, by omega⟩) ?_
      refine x_nh (fun s29 e_s29 => ?_)
      have hG_s29 : GI s29 := by rw [e_s29]; exact hG.up (show (-2147483648) ≤ x1 ∧ x1 ≤ 2147483647 from (by first | exact x_rb b_x1 rfl rfl | exact ⟨by omega, by omega⟩))
      have f_s29 : FL [2112] s0 s29 := by rw [e_s29]; exact f.up (show 2112 ∈ [2112] from by decide +kernel)
      have q30 : s29 212 x2.toNat = x1 := by rw [e_s29]; exact x_up_same
      refine x_iinc k229_14 (ls' := [(2, vi (x2 + 1)), (0, .ref 212), (1, vi x1), (3, vi x3)]) rfl (by decide) rfl ?_
      refine x_goto k229_17 (t := 5) rfl ?_
      refine x_ls (l := [(0, .ref 212), (1, vi x1), (2, vi (x2 + 1)), (3, vi x3)]) (show ([0, 1, 2, 3] : List Nat).Nodup from by decide +kernel) ⟨rfl, rfl, rfl, rfl, trivial⟩ ?_
      exact ih s29 x1 (x2 + 1) x3 hG_s29 f_s29 (by first | exact x_rb b_x1 rfl rfl | exact ⟨by omega, by omega⟩) ⟨by omega, by omega⟩ (by first | exact x_rb b_x3 rfl rfl | exact ⟨by omega, by omega⟩) (by omega)  (by omega)
theorem C_J7_fill_53178_212 (s0 : xS) (hG0 : GI s0) (a : Int) (b_a : (-2147483648) ≤ a ∧ a ≤ 2147483647) : xe none 229 0 (lv_args 0 [.ref 212, vi a]) [] s0 0 0 (fun s' v => GI s' ∧ FL [2112] s0 s' ∧ v = none) := by
  have f0 : FL [2112] s0 s0 := FL.rf
  show xe none 229 0 [(0, .ref 212), (1, vi a)] [] s0 0 0 _
  refine x_A k229_0 (fun _ => rfl) ?_
  refine x_istore_n k229_1 (ls' := [(2, vi 0), (0, .ref 212), (1, vi a)]) (by decide) rfl ?_
  refine x_A k229_2 (fun _ => rfl) ?_
  refine x_alen k229_3 (q := 212) (t := 20) (n := 6) (kd := 0) ⟨by decide, rfl⟩ (by decide) ?_
  refine x_top (fun z31 e_z31 => ?_)
  refine x_istore_n k229_4 (ls' := [(3, vi z31), (2, vi 0), (0, .ref 212), (1, vi a)]) (by decide) rfl ?_
  refine x_ls (l := [(0, .ref 212), (1, vi a), (2, vi 0), (3, vi z31)]) (show ([0, 1, 2, 3] : List Nat).Nodup from by decide +kernel) ⟨rfl, rfl, rfl, rfl, trivial⟩ ?_
  exact L_C_J7_fill_53178_212_5 s0   (((6 - 0) + 1 : Int)).toNat s0 a 0 z31 hG0 f0 (by first | exact x_rb b_a rfl rfl | exact ⟨by omega, by omega⟩) ⟨by decide, by decide⟩ (by first | exact x_rbe e_z31 g_z31 rfl rfl | exact x_rb g_z31 rfl rfl | exact ⟨by omega, by omega⟩) (by omega)  (by omega)
theorem L_C_J7_fill_53178_245_5 (s0 : xS)   : ∀ (n : Nat) (s : xS) (x1 : Int) (x2 : Int) (x3 : Int) (hG : GI s) (f : FL [3392] s0 s) (b_x1 : (-2147483648) ≤ x1 ∧ x1 ≤ 2147483647) (b_x2 : 0 ≤ x2 ∧ x2 ≤ 6) (b_x3 : 6 ≤ x3 ∧ x3 ≤ 6) (r_3_2 : x3 ≤ x2 + 6)  (hm : (6 - x2) < (n : Int)), xe none 229 5 [(0, .ref 245), (1, vi x1), (2, vi x2), (3, vi x3)] [] s 0 0 (fun s' v => GI s' ∧ FL [3392] s0 s' ∧ v = none) := by
  intro n
  induction n with
  | zero => intro s x1 x2 x3 hG f b_x1 b_x2 b_x3 r_3_2  hm; exfalso; omega
  | succ n ih =>
    intro s x1 x2 x3 hG f b_x1 b_x2 b_x3 r_3_2  hm
    refine x_A k229_5 (fun _ => rfl) ?_
    refine x_A k229_6 (fun _ => rfl) ?_
    refine x_ic_ge k229_7 (t := 20) rfl (by first | exact x_rb b_x2 rfl rfl | exact ⟨by omega, by omega⟩) (by first | exact x_rb b_x3 rfl rfl | exact ⟨by omega, by omega⟩) (fun c28 => ?_) (fun c28 => ?_)
    · skip
      exact x_vret k229_20 rfl ⟨hG, f, rfl⟩
    · skip
      refine x_A k229_10 (fun _ => rfl) ?_
      refine x_A k229_11 (fun _ => rfl) ?_
      refine x_A k229_12 (fun _ => rfl) ?_
      refine x_iast k229_13 (q := 245) (n := 6) ⟨by decide, rfl⟩ (by decide) (by first | exact x_rbl b_x2 rfl rfl | exact ⟨by omega, by omega⟩) ?_
      refine x_nh (fun s29 e_s29 => ?_)
      have hG_s29 : GI s29 := by rw [e_s29]; exact hG.up (show (-2147483648) ≤ x1 ∧ x1 ≤ 2147483647 from (by first | exact x_rb b_x1 rfl rfl | exact ⟨by omega, by omega⟩))
      have f_s29 : FL [3392] s0 s29 := by rw [e_s29]; exact f.up (show 3392 ∈ [3392] from by decide +kernel)
      have q30 : s29 245 x2.toNat = x1 := by rw [e_s29]; exact x_up_same
      refine x_iinc k229_14 (ls' := [(2, vi (x2 + 1)), (0, .ref 245), (1, vi x1), (3, vi x3)]) rfl (by decide) rfl ?_
      refine x_goto k229_17 (t := 5) rfl ?_
      refine x_ls (l := [(0, .ref 245), (1, vi x1), (2, vi (x2 + 1)), (3, vi x3)]) (show ([0, 1, 2, 3] : List Nat).Nodup from by decide +kernel) ⟨rfl, rfl, rfl, rfl, trivial⟩ ?_
      exact ih s29 x1 (x2 + 1) x3 hG_s29 f_s29 (by first | exact x_rb b_x1 rfl rfl | exact ⟨by omega, by omega⟩) ⟨by omega, by omega⟩ (by first | exact x_rb b_x3 rfl rfl | exact ⟨by omega, by omega⟩) (by omega)  (by omega)
theorem C_J7_fill_53178_245 (s0 : xS) (hG0 : GI s0) (a : Int) (b_a : (-2147483648) ≤ a ∧ a ≤ 2147483647) : xe none 229 0 (lv_args 0 [.ref 245, vi a]) [] s0 0 0 (fun s' v => GI s' ∧ FL [3392] s0 s' ∧ v = none) := by
  have f0 : FL [3392] s0 s0 := FL.rf
  show xe none 229 0 [(0, .ref 245), (1, vi a)] [] s0 0 0 _
  refine x_A k229_0 (fun _ => rfl) ?_
  refine x_istore_n k229_1 (ls' := [(2, vi 0), (0, .ref 245), (1, vi a)]) (by decide) rfl ?_
  refine x_A k229_2 (fun _ => rfl) ?_
  refine x_alen k229_3 (q := 245) (t := 20) (n := 6) (kd := 0) ⟨by decide, rfl⟩ (by decide) ?_
  refine x_top (fun z31 e_z31 => ?_)
  refine x_istore_n k229_4 (ls' := [(3, vi z31), (2, vi 0), (0, .ref 245), (1, vi a)]) (by decide) rfl ?_
  refine x_ls (l := [(0, .ref 245), (1, vi a), (2, vi 0), (3, vi z31)]) (show ([0, 1, 2, 3] : List Nat).Nodup from by decide +kernel) ⟨rfl, rfl, rfl, rfl, trivial⟩ ?_
  exact L_C_J7_fill_53178_245_5 s0   (((6 - 0) + 1 : Int)).toNat s0 a 0 z31 hG0 f0 (by first | exact x_rb b_a rfl rfl | exact ⟨by omega, by omega⟩) ⟨by decide, by decide⟩ (by first | exact x_rbe e_z31 g_z31 rfl rfl | exact x_rb g_z31 rfl rfl | exact ⟨by omega, by omega⟩) (by omega)  (by omega)
theorem L_C_J7_fill_53178_247_5 (s0 : xS)   : ∀ (n : Nat) (s : xS) (x1 : Int) (x2 : Int) (x3 : Int) (hG : GI s) (f : FL [3520] s0 s) (b_x1 : (-2147483648) ≤ x1 ∧ x1 ≤ 2147483647) (b_x2 : 0 ≤ x2 ∧ x2 ≤ 6) (b_x3 : 6 ≤ x3 ∧ x3 ≤ 6) (r_3_2 : x3 ≤ x2 + 6)  (hm : (6 - x2) < (n : Int)), xe none 229 5 [(0, .ref 247), (1, vi x1), (2, vi x2), (3, vi x3)] [] s 0 0 (fun s' v => GI s' ∧ FL [3520] s0 s' ∧ v = none) := by
  intro n
  induction n with
  | zero => intro s x1 x2 x3 hG f b_x1 b_x2 b_x3 r_3_2  hm; exfalso; omega
  | succ n ih =>
    intro s x1 x2 x3 hG f b_x1 b_x2 b_x3 r_3_2  hm
    refine x_A k229_5 (fun _ => rfl) ?_
    refine x_A k229_6 (fun _ => rfl) ?_
    refine x_ic_ge k229_7 (t := 20) rfl (by first | exact x_rb b_x2 rfl rfl | exact ⟨by omega, by omega⟩) (by first | exact x_rb b_x3 rfl rfl | exact ⟨by omega, by omega⟩) (fun c28 => ?_) (fun c28 => ?_)
    · skip
      exact x_vret k229_20 rfl ⟨hG, f, rfl⟩
    · skip
      refine x_A k229_10 (fun _ => rfl) ?_
      refine x_A k229_11 (fun _ => rfl) ?_
      refine x_A k229_12 (fun _ => rfl) ?_
      refine x_iast k229_13 (q := 247) (n := 6) ⟨by decide, rfl⟩ (by decide) (by first | exact x_rbl b_x2 rfl rfl | exact ⟨by omega, by omega⟩) ?_
      refine x_nh (fun s29 e_s29 => ?_)
      have hG_s29 : GI s29 := by rw [e_s29]; exact hG.up (show (-2147483648) ≤ x1 ∧ x1 ≤ 2147483647 from (by first | exact x_rb b_x1 rfl rfl | exact ⟨by omega, by omega⟩))
      have f_s29 : FL [3520] s0 s29 := by rw [e_s29]; exact f.up (show 3520 ∈ [3520] from by decide +kernel)
      have q30 : s29 247 x2.toNat = x1 := by rw [e_s29]; exact x_up_same
      refine x_iinc k229_14 (ls' := [(2, vi (x2 + 1)), (0, .ref 247), (1, vi x1), (3, vi x3)]) rfl (by decide) rfl ?_
      refine x_goto k229_17 (t := 5) rfl ?_
      refine x_ls (l := [(0, .ref 247), (1, vi x1), (2, vi (x2 + 1)), (3, vi x3)]) (show ([0, 1, 2, 3] : List Nat).Nodup from by decide +kernel) ⟨rfl, rfl, rfl, rfl, trivial⟩ ?_
      exact ih s29 x1 (x2 + 1) x3 hG_s29 f_s29 (by first | exact x_rb b_x1 rfl rfl | exact ⟨by omega, by omega⟩) ⟨by omega, by omega⟩ (by first | exact x_rb b_x3 rfl rfl | exact ⟨by omega, by omega⟩) (by omega)  (by omega)
theorem C_J7_fill_53178_247 (s0 : xS) (hG0 : GI s0) (a : Int) (b_a : (-2147483648) ≤ a ∧ a ≤ 2147483647) : xe none 229 0 (lv_args 0 [.ref 247, vi a]) [] s0 0 0 (fun s' v => GI s' ∧ FL [3520] s0 s' ∧ v = none) := by
  have f0 : FL [3520] s0 s0 := FL.rf
  show xe none 229 0 [(0, .ref 247), (1, vi a)] [] s0 0 0 _
  refine x_A k229_0 (fun _ => rfl) ?_
  refine x_istore_n k229_1 (ls' := [(2, vi 0), (0, .ref 247), (1, vi a)]) (by decide) rfl ?_
  refine x_A k229_2 (fun _ => rfl) ?_
  refine x_alen k229_3 (q := 247) (t := 20) (n := 6) (kd := 0) ⟨by decide, rfl⟩ (by decide) ?_
  refine x_top (fun z31 e_z31 => ?_)
  refine x_istore_n k229_4 (ls' := [(3, vi z31), (2, vi 0), (0, .ref 247), (1, vi a)]) (by decide) rfl ?_
  refine x_ls (l := [(0, .ref 247), (1, vi a), (2, vi 0), (3, vi z31)]) (show ([0, 1, 2, 3] : List Nat).Nodup from by decide +kernel) ⟨rfl, rfl, rfl, rfl, trivial⟩ ?_
  exact L_C_J7_fill_53178_247_5 s0   (((6 - 0) + 1 : Int)).toNat s0 a 0 z31 hG0 f0 (by first | exact x_rb b_a rfl rfl | exact ⟨by omega, by omega⟩) ⟨by decide, by decide⟩ (by first | exact x_rbe e_z31 g_z31 rfl rfl | exact x_rb g_z31 rfl rfl | exact ⟨by omega, by omega⟩) (by omega)  (by omega)
theorem L_C_J7_fill_53178_249_5 (s0 : xS)   : ∀ (n : Nat) (s : xS) (x1 : Int) (x2 : Int) (x3 : Int) (hG : GI s) (f : FL [3648] s0 s) (b_x1 : 0 ≤ x1 ∧ x1 ≤ 120) (b_x2 : 0 ≤ x2 ∧ x2 ≤ 40) (b_x3 : 40 ≤ x3 ∧ x3 ≤ 40) (r_3_2 : x3 ≤ x2 + 40)  (hm : (40 - x2) < (n : Int)), xe none 229 5 [(0, .ref 249), (1, vi x1), (2, vi x2), (3, vi x3)] [] s 0 0 (fun s' v => GI s' ∧ FL [3648] s0 s' ∧ v = none) := by
  intro n
  induction n with
  | zero => intro s x1 x2 x3 hG f b_x1 b_x2 b_x3 r_3_2  hm; exfalso; omega
  | succ n ih =>
    intro s x1 x2 x3 hG f b_x1 b_x2 b_x3 r_3_2  hm
    refine x_A k229_5 (fun _ => rfl) ?_
    refine x_A k229_6 (fun _ => rfl) ?_
    refine x_ic_ge k229_7 (t := 20) rfl (by first | exact x_rb b_x2 rfl rfl | exact ⟨by omega, by omega⟩) (by first | exact x_rb b_x3 rfl rfl | exact ⟨by omega, by omega⟩) (fun c56 => ?_) (fun c56 => ?_)
    · skip
      exact x_vret k229_20 rfl ⟨hG, f, rfl⟩
    · skip
      refine x_A k229_10 (fun _ => rfl) ?_
      refine x_A k229_11 (fun _ => rfl) ?_
      refine x_A k229_12 (fun _ => rfl) ?_
      refine x_iast k229_13 (q := 249) (n := 40) ⟨by decide, rfl⟩ (by decide) (by first | exact x_rbl b_x2 rfl rfl | exact ⟨by omega, by omega⟩) ?_
      refine x_nh (fun s57 e_s57 => ?_)
      have hG_s57 : GI s57 := by rw [e_s57]; exact hG.up (show (-2147483648) ≤ x1 ∧ x1 ≤ 2147483647 from (by first | exact x_rb b_x1 rfl rfl | exact ⟨by omega, by omega⟩))
      have f_s57 : FL [3648] s0 s57 := by rw [e_s57]; exact f.up (show 3648 ∈ [3648] from by decide +kernel)
      have q58 : s57 249 x2.toNat = x1 := by rw [e_s57]; exact x_up_same
      refine x_iinc k229_14 (ls' := [(2, vi (x2 + 1)), (0, .ref 249), (1, vi x1), (3, vi x3)]) rfl (by decide) rfl ?_
      refine x_goto k229_17 (t := 5) rfl ?_
      refine x_ls (l := [(0, .ref 249), (1, vi x1), (2, vi (x2 + 1)), (3, vi x3)]) (show ([0, 1, 2, 3] : List Nat).Nodup from by decide +kernel) ⟨rfl, rfl, rfl, rfl, trivial⟩ ?_
      exact ih s57 x1 (x2 + 1) x3 hG_s57 f_s57 (by first | exact x_rb b_x1 rfl rfl | exact ⟨by omega, by omega⟩) ⟨by omega, by omega⟩ (by first | exact x_rb b_x3 rfl rfl | exact ⟨by omega, by omega⟩) (by omega)  (by omega)
theorem C_J7_fill_53178_249 (s0 : xS) (hG0 : GI s0) (a : Int) (b_a : 0 ≤ a ∧ a ≤ 120) : xe none 229 0 (lv_args 0 [.ref 249, vi a]) [] s0 0 0 (fun s' v => GI s' ∧ FL [3648] s0 s' ∧ v = none) := by
  have f0 : FL [3648] s0 s0 := FL.rf
  show xe none 229 0 [(0, .ref 249), (1, vi a)] [] s0 0 0 _
  refine x_A k229_0 (fun _ => rfl) ?_
  refine x_istore_n k229_1 (ls' := [(2, vi 0), (0, .ref 249), (1, vi a)]) (by decide) rfl ?_
  refine x_A k229_2 (fun _ => rfl) ?_
  refine x_alen k229_3 (q := 249) (t := 20) (n := 40) (kd := 0) ⟨by decide, rfl⟩ (by decide) ?_
  refine x_top (fun z59 e_z59 => ?_)
  refine x_istore_n k229_4 (ls' := [(3, vi z59), (2, vi 0), (0, .ref 249), (1, vi a)]) (by decide) rfl ?_
  refine x_ls (l := [(0, .ref 249), (1, vi a), (2, vi 0), (3, vi z59)]) (show ([0, 1, 2, 3] : List Nat).Nodup from by decide +kernel) ⟨rfl, rfl, rfl, rfl, trivial⟩ ?_
  exact L_C_J7_fill_53178_249_5 s0   (((40 - 0) + 1 : Int)).toNat s0 a 0 z59 hG0 f0 (by first | exact x_rb b_a rfl rfl | exact ⟨by omega, by omega⟩) ⟨by decide, by decide⟩ (by first | exact x_rbe e_z59 g_z59 rfl rfl | exact x_rb g_z59 rfl rfl | exact ⟨by omega, by omega⟩) (by omega)  (by omega)
theorem L_C_J7_fill_53178_g57_5 (s0 : xS)   : ∀ (n : Nat) (s : xS) (x0 : Nat) (x1 : Int) (x2 : Int) (x3 : Int) (hG : GI s) (f : FL [1152] s0 s) (b_x0 : 57 ≤ x0 ∧ x0 ≤ 176) (b_x1 : (-1) ≤ x1 ∧ x1 ≤ 9) (b_x2 : 0 ≤ x2 ∧ x2 ≤ 8) (b_x3 : 8 ≤ x3 ∧ x3 ≤ 8) (r_3_2 : x3 ≤ x2 + 8)  (hm : (8 - x2) < (n : Int)), xe none 229 5 [(0, .ref x0), (1, vi x1), (2, vi x2), (3, vi x3)] [] s 0 0 (fun s' v => GI s' ∧ FL [1152] s0 s' ∧ v = none) := by
  intro n
  induction n with
  | zero => intro s x0 x1 x2 x3 hG f b_x0 b_x1 b_x2 b_x3 r_3_2  hm; exfalso; omega
  | succ n ih =>
    intro s x0 x1 x2 x3 hG f b_x0 b_x1 b_x2 b_x3 r_3_2  hm
    refine x_A k229_5 (fun _ => rfl) ?_
    refine x_A k229_6 (fun _ => rfl) ?_
    refine x_ic_ge k229_7 (t := 20) rfl (by first | exact x_rb b_x2 rfl rfl | exact ⟨by omega, by omega⟩) (by first | exact x_rb b_x3 rfl rfl | exact ⟨by omega, by omega⟩) (fun c45 => ?_) (fun c45 => ?_)
    · skip
      exact x_vret k229_20 rfl ⟨hG, f, rfl⟩
    · skip
      refine x_A k229_10 (fun _ => rfl) ?_
      refine x_A k229_11 (fun _ => rfl) ?_
      refine x_A k229_12 (fun _ => rfl) ?_
      refine x_iast k229_13 (q := x0) (n := 8) (xg_57 (by omega) (by omega)) (by decide) (by first | exact x_rbl b_x2 rfl rfl | exact ⟨by omega, by omega⟩) ?_
      refine x_nh (fun s46 e_s46 => ?_)
      have w47 := gr_57 x2.toNat (show 57 ≤ x0 by omega) (by omega)
      have hG_s46 : GI s46 := by rw [e_s46]; exact hG.up (by rw [w47.1, w47.2.1]; exact (show (-1) ≤ x1 ∧ x1 ≤ 9 from (by first | exact x_rb b_x1 rfl rfl | exact ⟨by omega, by omega⟩)))
      have f_s46 : FL [1152] s0 s46 := by rw [e_s46]; exact f.up (by rw [w47.2.2]; decide)
      have q48 : s46 x0 x2.toNat = x1 := by rw [e_s46]; exact x_up_same
      refine x_iinc k229_14 (ls' := [(2, vi (x2 + 1)), (0, .ref x0), (1, vi x1), (3, vi x3)]) rfl (by decide) rfl ?_
      refine x_goto k229_17 (t := 5) rfl ?_
      refine x_ls (l := [(0, .ref x0), (1, vi x1), (2, vi (x2 + 1)), (3, vi x3)]) (show ([0, 1, 2, 3] : List Nat).Nodup from by decide +kernel) ⟨rfl, rfl, rfl, rfl, trivial⟩ ?_
      exact ih s46 x0 x1 (x2 + 1) x3 hG_s46 f_s46 ⟨by omega, by omega⟩ (by first | exact x_rb b_x1 rfl rfl | exact ⟨by omega, by omega⟩) ⟨by omega, by omega⟩ (by first | exact x_rb b_x3 rfl rfl | exact ⟨by omega, by omega⟩) (by omega)  (by omega)
theorem C_J7_fill_53178_g57 (s0 : xS) (hG0 : GI s0) (q : Nat) (b_q : 57 ≤ q ∧ q ≤ 176) (a : Int) (b_a : (-1) ≤ a ∧ a ≤ 9) : xe none 229 0 (lv_args 0 [.ref q, vi a]) [] s0 0 0 (fun s' v => GI s' ∧ FL [1152] s0 s' ∧ v = none) := by
  have f0 : FL [1152] s0 s0 := FL.rf
  show xe none 229 0 [(0, .ref q), (1, vi a)] [] s0 0 0 _
  refine x_A k229_0 (fun _ => rfl) ?_
  refine x_istore_n k229_1 (ls' := [(2, vi 0), (0, .ref q), (1, vi a)]) (by decide) rfl ?_
  refine x_A k229_2 (fun _ => rfl) ?_
  refine x_alen k229_3 (q := q) (t := 20) (n := 8) (kd := 0) (xg_57 (by omega) (by omega)) (by decide) ?_
  refine x_top (fun z49 e_z49 => ?_)
  refine x_istore_n k229_4 (ls' := [(3, vi z49), (2, vi 0), (0, .ref q), (1, vi a)]) (by decide) rfl ?_
  refine x_ls (l := [(0, .ref q), (1, vi a), (2, vi 0), (3, vi z49)]) (show ([0, 1, 2, 3] : List Nat).Nodup from by decide +kernel) ⟨rfl, rfl, rfl, rfl, trivial⟩ ?_
  exact L_C_J7_fill_53178_g57_5 s0   (((8 - 0) + 1 : Int)).toNat s0 q a 0 z49 hG0 f0 ⟨by omega, by omega⟩ (by first | exact x_rb b_a rfl rfl | exact ⟨by omega, by omega⟩) ⟨by decide, by decide⟩ (by first | exact x_rbe e_z49 g_z49 rfl rfl | exact x_rb g_z49 rfl rfl | exact ⟨by omega, by omega⟩) (by omega)  (by omega)
theorem L_C_J7_fill_d0a16_211_6 (s0 : xS)   : ∀ (n : Nat) (s : xS) (x1 : Int) (x3 : Int) (x4 : Int) (hG : GI s) (f : FL [2048] s0 s) (b_x1 : in64 x1) (b_x3 : 0 ≤ x3 ∧ x3 ≤ 6) (b_x4 : 6 ≤ x4 ∧ x4 ≤ 6) (r_4_3 : x4 ≤ x3 + 6)  (hm : (6 - x3) < (n : Int)), xe none 228 6 [(0, .ref 211), (1, vj x1), (3, vi x3), (4, vi x4)] [] s 0 0 (fun s' v => GI s' ∧ FL [2048] s0 s' ∧ v = none) := by
  intro n
  induction n with
  | zero => intro s x1 x3 x4 hG f b_x1 b_x3 b_x4 r_4_3  hm; exfalso; omega
  | succ n ih =>
    intro s x1 x3 x4 hG f b_x1 b_x3 b_x4 r_4_3  hm
    refine x_A k228_6 (fun _ => rfl) ?_
    refine x_A k228_7 (fun _ => rfl) ?_
    refine x_ic_ge k228_9 (t := 22) rfl (by first | exact x_rb b_x3 rfl rfl | exact ⟨by omega, by omega⟩) (by first | exact x_rb b_x4 rfl rfl | exact ⟨by omega, by omega⟩) (fun c21 => ?_) (fun c21 => ?_)
    · skip
      exact x_vret k228_22 rfl ⟨hG, f, rfl⟩
    · skip
      refine x_A k228_12 (fun _ => rfl) ?_
      refine x_A k228_13 (fun _ => rfl) ?_
      refine x_A k228_14 (fun _ => rfl) ?_
      refine x_last k228_15 (q := 211) (n := 6) ⟨by decide, rfl⟩ (by decide) (by first | exact x_rbl b_x3 rfl rfl | exact ⟨by omega, by omega⟩) ?_
      refine x_nh (fun s22 e_s22 => ?_)
      have hG_s22 : GI s22 := by rw [e_s22]; exact hG.up (show in64 x1 from b_x1)
      have f_s22 : FL [2048] s0 s22 := by rw [e_s22]; exact f.up (show 2048 ∈ [2048] from by decide +kernel)
      refine x_iinc k228_16 (ls' := [(3, vi (x3 + 1)), (0, .ref 211), (1, vj x1), (4, vi x4)]) rfl (by decide) rfl ?_
      refine x_goto k228_19 (t := 6) rfl ?_
      refine x_ls (l := [(0, .ref 211), (1, vj x1), (3, vi (x3 + 1)), (4, vi x4)]) (show ([0, 1, 3, 4] : List Nat).Nodup from by decide +kernel) ⟨rfl, rfl, rfl, rfl, trivial⟩ ?_
      exact ih s22 x1 (x3 + 1) x4 hG_s22 f_s22 b_x1 ⟨by omega, by omega⟩ (by first | exact x_rb b_x4 rfl rfl | exact ⟨by omega, by omega⟩) (by omega)  (by omega)
theorem C_J7_fill_d0a16_211 (s0 : xS) (hG0 : GI s0) (a : Int) (b_a : in64 a) : xe none 228 0 (lv_args 0 [.ref 211, vj a]) [] s0 0 0 (fun s' v => GI s' ∧ FL [2048] s0 s' ∧ v = none) := by
  have f0 : FL [2048] s0 s0 := FL.rf
  show xe none 228 0 [(0, .ref 211), (1, vj a)] [] s0 0 0 _
  refine x_A k228_0 (fun _ => rfl) ?_
  refine x_istore_n k228_1 (ls' := [(3, vi 0), (0, .ref 211), (1, vj a)]) (by decide) rfl ?_
  refine x_A k228_2 (fun _ => rfl) ?_
  refine x_alen k228_3 (q := 211) (t := 21) (n := 6) (kd := 1) ⟨by decide, rfl⟩ (by decide) ?_
  refine x_top (fun z23 e_z23 => ?_)
  refine x_istore k228_4 (ls' := [(4, vi z23), (3, vi 0), (0, .ref 211), (1, vj a)]) (by decide) rfl ?_
  refine x_ls (l := [(0, .ref 211), (1, vj a), (3, vi 0), (4, vi z23)]) (show ([0, 1, 3, 4] : List Nat).Nodup from by decide +kernel) ⟨rfl, rfl, rfl, rfl, trivial⟩ ?_
  exact L_C_J7_fill_d0a16_211_6 s0   (((6 - 0) + 1 : Int)).toNat s0 a 0 z23 hG0 f0 b_a ⟨by decide, by decide⟩ (by first | exact x_rbe e_z23 g_z23 rfl rfl | exact x_rb g_z23 rfl rfl | exact ⟨by omega, by omega⟩) (by omega)  (by omega)
theorem L_C_J7_fill_d0a16_213_6 (s0 : xS)   : ∀ (n : Nat) (s : xS) (x1 : Int) (x3 : Int) (x4 : Int) (hG : GI s) (f : FL [2176] s0 s) (b_x1 : in64 x1) (b_x3 : 0 ≤ x3 ∧ x3 ≤ 40) (b_x4 : 40 ≤ x4 ∧ x4 ≤ 40) (r_4_3 : x4 ≤ x3 + 40)  (hm : (40 - x3) < (n : Int)), xe none 228 6 [(0, .ref 213), (1, vj x1), (3, vi x3), (4, vi x4)] [] s 0 0 (fun s' v => GI s' ∧ FL [2176] s0 s' ∧ v = none) := by
  intro n
  induction n with
  | zero => intro s x1 x3 x4 hG f b_x1 b_x3 b_x4 r_4_3  hm; exfalso; omega
  | succ n ih =>
    intro s x1 x3 x4 hG f b_x1 b_x3 b_x4 r_4_3  hm
    refine x_A k228_6 (fun _ => rfl) ?_
    refine x_A k228_7 (fun _ => rfl) ?_
    refine x_ic_ge k228_9 (t := 22) rfl (by first | exact x_rb b_x3 rfl rfl | exact ⟨by omega, by omega⟩) (by first | exact x_rb b_x4 rfl rfl | exact ⟨by omega, by omega⟩) (fun c42 => ?_) (fun c42 => ?_)
    · skip
      exact x_vret k228_22 rfl ⟨hG, f, rfl⟩
    · skip
      refine x_A k228_12 (fun _ => rfl) ?_
      refine x_A k228_13 (fun _ => rfl) ?_
      refine x_A k228_14 (fun _ => rfl) ?_
      refine x_last k228_15 (q := 213) (n := 40) ⟨by decide, rfl⟩ (by decide) (by first | exact x_rbl b_x3 rfl rfl | exact ⟨by omega, by omega⟩) ?_
      refine x_nh (fun s43 e_s43 => ?_)
      have hG_s43 : GI s43 := by rw [e_s43]; exact hG.up (show in64 x1 from b_x1)
      have f_s43 : FL [2176] s0 s43 := by rw [e_s43]; exact f.up (show 2176 ∈ [2176] from by decide +kernel)
      refine x_iinc k228_16 (ls' := [(3, vi (x3 + 1)), (0, .ref 213), (1, vj x1), (4, vi x4)]) rfl (by decide) rfl ?_
      refine x_goto k228_19 (t := 6) rfl ?_
      refine x_ls (l := [(0, .ref 213), (1, vj x1), (3, vi (x3 + 1)), (4, vi x4)]) (show ([0, 1, 3, 4] : List Nat).Nodup from by decide +kernel) ⟨rfl, rfl, rfl, rfl, trivial⟩ ?_
      exact ih s43 x1 (x3 + 1) x4 hG_s43 f_s43 b_x1 ⟨by omega, by omega⟩ (by first | exact x_rb b_x4 rfl rfl | exact ⟨by omega, by omega⟩) (by omega)  (by omega)
theorem C_J7_fill_d0a16_213 (s0 : xS) (hG0 : GI s0) (a : Int) (b_a : in64 a) : xe none 228 0 (lv_args 0 [.ref 213, vj a]) [] s0 0 0 (fun s' v => GI s' ∧ FL [2176] s0 s' ∧ v = none) := by
  have f0 : FL [2176] s0 s0 := FL.rf
  show xe none 228 0 [(0, .ref 213), (1, vj a)] [] s0 0 0 _
  refine x_A k228_0 (fun _ => rfl) ?_
  refine x_istore_n k228_1 (ls' := [(3, vi 0), (0, .ref 213), (1, vj a)]) (by decide) rfl ?_
  refine x_A k228_2 (fun _ => rfl) ?_
  refine x_alen k228_3 (q := 213) (t := 21) (n := 40) (kd := 1) ⟨by decide, rfl⟩ (by decide) ?_
  refine x_top (fun z44 e_z44 => ?_)
  refine x_istore k228_4 (ls' := [(4, vi z44), (3, vi 0), (0, .ref 213), (1, vj a)]) (by decide) rfl ?_
  refine x_ls (l := [(0, .ref 213), (1, vj a), (3, vi 0), (4, vi z44)]) (show ([0, 1, 3, 4] : List Nat).Nodup from by decide +kernel) ⟨rfl, rfl, rfl, rfl, trivial⟩ ?_
  exact L_C_J7_fill_d0a16_213_6 s0   (((40 - 0) + 1 : Int)).toNat s0 a 0 z44 hG0 f0 b_a ⟨by decide, by decide⟩ (by first | exact x_rbe e_z44 g_z44 rfl rfl | exact x_rb g_z44 rfl rfl | exact ⟨by omega, by omega⟩) (by omega)  (by omega)
theorem L_C_J7_fill_d0a16_246_6 (s0 : xS)   : ∀ (n : Nat) (s : xS) (x1 : Int) (x3 : Int) (x4 : Int) (hG : GI s) (f : FL [3456] s0 s) (b_x1 : in64 x1) (b_x3 : 0 ≤ x3 ∧ x3 ≤ 6) (b_x4 : 6 ≤ x4 ∧ x4 ≤ 6) (r_4_3 : x4 ≤ x3 + 6)  (hm : (6 - x3) < (n : Int)), xe none 228 6 [(0, .ref 246), (1, vj x1), (3, vi x3), (4, vi x4)] [] s 0 0 (fun s' v => GI s' ∧ FL [3456] s0 s' ∧ v = none) := by
  intro n
  induction n with
  | zero => intro s x1 x3 x4 hG f b_x1 b_x3 b_x4 r_4_3  hm; exfalso; omega
  | succ n ih =>
    intro s x1 x3 x4 hG f b_x1 b_x3 b_x4 r_4_3  hm
    refine x_A k228_6 (fun _ => rfl) ?_
    refine x_A k228_7 (fun _ => rfl) ?_
    refine x_ic_ge k228_9 (t := 22) rfl (by first | exact x_rb b_x3 rfl rfl | exact ⟨by omega, by omega⟩) (by first | exact x_rb b_x4 rfl rfl | exact ⟨by omega, by omega⟩) (fun c21 => ?_) (fun c21 => ?_)
    · skip
      exact x_vret k228_22 rfl ⟨hG, f, rfl⟩
    · skip
      refine x_A k228_12 (fun _ => rfl) ?_
      refine x_A k228_13 (fun _ => rfl) ?_
      refine x_A k228_14 (fun _ => rfl) ?_
      refine x_last k228_15 (q := 246) (n := 6) ⟨by decide, rfl⟩ (by decide) (by first | exact x_rbl b_x3 rfl rfl | exact ⟨by omega, by omega⟩) ?_
      refine x_nh (fun s22 e_s22 => ?_)
      have hG_s22 : GI s22 := by rw [e_s22]; exact hG.up (show in64 x1 from b_x1)
      have f_s22 : FL [3456] s0 s22 := by rw [e_s22]; exact f.up (show 3456 ∈ [3456] from by decide +kernel)
      refine x_iinc k228_16 (ls' := [(3, vi (x3 + 1)), (0, .ref 246), (1, vj x1), (4, vi x4)]) rfl (by decide) rfl ?_
      refine x_goto k228_19 (t := 6) rfl ?_
      refine x_ls (l := [(0, .ref 246), (1, vj x1), (3, vi (x3 + 1)), (4, vi x4)]) (show ([0, 1, 3, 4] : List Nat).Nodup from by decide +kernel) ⟨rfl, rfl, rfl, rfl, trivial⟩ ?_
      exact ih s22 x1 (x3 + 1) x4 hG_s22 f_s22 b_x1 ⟨by omega, by omega⟩ (by first | exact x_rb b_x4 rfl rfl | exact ⟨by omega, by omega⟩) (by omega)  (by omega)
theorem C_J7_fill_d0a16_246 (s0 : xS) (hG0 : GI s0) (a : Int) (b_a : in64 a) : xe none 228 0 (lv_args 0 [.ref 246, vj a]) [] s0 0 0 (fun s' v => GI s' ∧ FL [3456] s0 s' ∧ v = none) := by
  have f0 : FL [3456] s0 s0 := FL.rf
  show xe none 228 0 [(0, .ref 246), (1, vj a)] [] s0 0 0 _
  refine x_A k228_0 (fun _ => rfl) ?_
  refine x_istore_n k228_1 (ls' := [(3, vi 0), (0, .ref 246), (1, vj a)]) (by decide) rfl ?_
  refine x_A k228_2 (fun _ => rfl) ?_
  refine x_alen k228_3 (q := 246) (t := 21) (n := 6) (kd := 1) ⟨by decide, rfl⟩ (by decide) ?_
  refine x_top (fun z23 e_z23 => ?_)
  refine x_istore k228_4 (ls' := [(4, vi z23), (3, vi 0), (0, .ref 246), (1, vj a)]) (by decide) rfl ?_
  refine x_ls (l := [(0, .ref 246), (1, vj a), (3, vi 0), (4, vi z23)]) (show ([0, 1, 3, 4] : List Nat).Nodup from by decide +kernel) ⟨rfl, rfl, rfl, rfl, trivial⟩ ?_
  exact L_C_J7_fill_d0a16_246_6 s0   (((6 - 0) + 1 : Int)).toNat s0 a 0 z23 hG0 f0 b_a ⟨by decide, by decide⟩ (by first | exact x_rbe e_z23 g_z23 rfl rfl | exact x_rb g_z23 rfl rfl | exact ⟨by omega, by omega⟩) (by omega)  (by omega)
theorem L_C_J7_fill_d0a16_248_6 (s0 : xS)   : ∀ (n : Nat) (s : xS) (x1 : Int) (x3 : Int) (x4 : Int) (hG : GI s) (f : FL [3584] s0 s) (b_x1 : in64 x1) (b_x3 : 0 ≤ x3 ∧ x3 ≤ 40) (b_x4 : 40 ≤ x4 ∧ x4 ≤ 40) (r_4_3 : x4 ≤ x3 + 40)  (hm : (40 - x3) < (n : Int)), xe none 228 6 [(0, .ref 248), (1, vj x1), (3, vi x3), (4, vi x4)] [] s 0 0 (fun s' v => GI s' ∧ FL [3584] s0 s' ∧ v = none) := by
  intro n
  induction n with
  | zero => intro s x1 x3 x4 hG f b_x1 b_x3 b_x4 r_4_3  hm; exfalso; omega
  | succ n ih =>
    intro s x1 x3 x4 hG f b_x1 b_x3 b_x4 r_4_3  hm
    refine x_A k228_6 (fun _ => rfl) ?_
    refine x_A k228_7 (fun _ => rfl) ?_
    refine x_ic_ge k228_9 (t := 22) rfl (by first | exact x_rb b_x3 rfl rfl | exact ⟨by omega, by omega⟩) (by first | exact x_rb b_x4 rfl rfl | exact ⟨by omega, by omega⟩) (fun c42 => ?_) (fun c42 => ?_)
    · skip
      exact x_vret k228_22 rfl ⟨hG, f, rfl⟩
    · skip
      refine x_A k228_12 (fun _ => rfl) ?_
      refine x_A k228_13 (fun _ => rfl) ?_
      refine x_A k228_14 (fun _ => rfl) ?_
      refine x_last k228_15 (q := 248) (n := 40) ⟨by decide, rfl⟩ (by decide) (by first | exact x_rbl b_x3 rfl rfl | exact ⟨by omega, by omega⟩) ?_
      refine x_nh (fun s43 e_s43 => ?_)
      have hG_s43 : GI s43 := by rw [e_s43]; exact hG.up (show in64 x1 from b_x1)
      have f_s43 : FL [3584] s0 s43 := by rw [e_s43]; exact f.up (show 3584 ∈ [3584] from by decide +kernel)
      refine x_iinc k228_16 (ls' := [(3, vi (x3 + 1)), (0, .ref 248), (1, vj x1), (4, vi x4)]) rfl (by decide) rfl ?_
      refine x_goto k228_19 (t := 6) rfl ?_
      refine x_ls (l := [(0, .ref 248), (1, vj x1), (3, vi (x3 + 1)), (4, vi x4)]) (show ([0, 1, 3, 4] : List Nat).Nodup from by decide +kernel) ⟨rfl, rfl, rfl, rfl, trivial⟩ ?_
      exact ih s43 x1 (x3 + 1) x4 hG_s43 f_s43 b_x1 ⟨by omega, by omega⟩ (by first | exact x_rb b_x4 rfl rfl | exact ⟨by omega, by omega⟩) (by omega)  (by omega)
theorem C_J7_fill_d0a16_248 (s0 : xS) (hG0 : GI s0) (a : Int) (b_a : in64 a) : xe none 228 0 (lv_args 0 [.ref 248, vj a]) [] s0 0 0 (fun s' v => GI s' ∧ FL [3584] s0 s' ∧ v = none) := by
  have f0 : FL [3584] s0 s0 := FL.rf
  show xe none 228 0 [(0, .ref 248), (1, vj a)] [] s0 0 0 _
  refine x_A k228_0 (fun _ => rfl) ?_
  refine x_istore_n k228_1 (ls' := [(3, vi 0), (0, .ref 248), (1, vj a)]) (by decide) rfl ?_
  refine x_A k228_2 (fun _ => rfl) ?_
  refine x_alen k228_3 (q := 248) (t := 21) (n := 40) (kd := 1) ⟨by decide, rfl⟩ (by decide) ?_
  refine x_top (fun z44 e_z44 => ?_)
  refine x_istore k228_4 (ls' := [(4, vi z44), (3, vi 0), (0, .ref 248), (1, vj a)]) (by decide) rfl ?_
  refine x_ls (l := [(0, .ref 248), (1, vj a), (3, vi 0), (4, vi z44)]) (show ([0, 1, 3, 4] : List Nat).Nodup from by decide +kernel) ⟨rfl, rfl, rfl, rfl, trivial⟩ ?_
  exact L_C_J7_fill_d0a16_248_6 s0   (((40 - 0) + 1 : Int)).toNat s0 a 0 z44 hG0 f0 b_a ⟨by decide, by decide⟩ (by first | exact x_rbe e_z44 g_z44 rfl rfl | exact x_rb g_z44 rfl rfl | exact ⟨by omega, by omega⟩) (by omega)  (by omega)
theorem L_C_J7_fill_d0a16_255_6 (s0 : xS)   : ∀ (n : Nat) (s : xS) (x1 : Int) (x3 : Int) (x4 : Int) (hG : GI s) (f : FL [4032] s0 s) (b_x1 : in64 x1) (b_x3 : 0 ≤ x3 ∧ x3 ≤ 40) (b_x4 : 40 ≤ x4 ∧ x4 ≤ 40) (r_4_3 : x4 ≤ x3 + 40)  (hm : (40 - x3) < (n : Int)), xe none 228 6 [(0, .ref 255), (1, vj x1), (3, vi x3), (4, vi x4)] [] s 0 0 (fun s' v => GI s' ∧ FL [4032] s0 s' ∧ v = none) := by
  intro n
  induction n with
  | zero => intro s x1 x3 x4 hG f b_x1 b_x3 b_x4 r_4_3  hm; exfalso; omega
  | succ n ih =>
    intro s x1 x3 x4 hG f b_x1 b_x3 b_x4 r_4_3  hm
    refine x_A k228_6 (fun _ => rfl) ?_
    refine x_A k228_7 (fun _ => rfl) ?_
    refine x_ic_ge k228_9 (t := 22) rfl (by first | exact x_rb b_x3 rfl rfl | exact ⟨by omega, by omega⟩) (by first | exact x_rb b_x4 rfl rfl | exact ⟨by omega, by omega⟩) (fun c42 => ?_) (fun c42 => ?_)
    · skip
      exact x_vret k228_22 rfl ⟨hG, f, rfl⟩
    · skip
      refine x_A k228_12 (fun _ => rfl) ?_
      refine x_A k228_13 (fun _ => rfl) ?_
      refine x_A k228_14 (fun _ => rfl) ?_
      refine x_last k228_15 (q := 255) (n := 40) ⟨by decide, rfl⟩ (by decide) (by first | exact x_rbl b_x3 rfl rfl | exact ⟨by omega, by omega⟩) ?_
      refine x_nh (fun s43 e_s43 => ?_)
      have hG_s43 : GI s43 := by rw [e_s43]; exact hG.up (show in64 x1 from b_x1)
      have f_s43 : FL [4032] s0 s43 := by rw [e_s43]; exact f.up (show 4032 ∈ [4032] from by decide +kernel)
      refine x_iinc k228_16 (ls' := [(3, vi (x3 + 1)), (0, .ref 255), (1, vj x1), (4, vi x4)]) rfl (by decide) rfl ?_
      refine x_goto k228_19 (t := 6) rfl ?_
      refine x_ls (l := [(0, .ref 255), (1, vj x1), (3, vi (x3 + 1)), (4, vi x4)]) (show ([0, 1, 3, 4] : List Nat).Nodup from by decide +kernel) ⟨rfl, rfl, rfl, rfl, trivial⟩ ?_
      exact ih s43 x1 (x3 + 1) x4 hG_s43 f_s43 b_x1 ⟨by omega, by omega⟩ (by first | exact x_rb b_x4 rfl rfl | exact ⟨by omega, by omega⟩) (by omega)  (by omega)
theorem C_J7_fill_d0a16_255 (s0 : xS) (hG0 : GI s0) (a : Int) (b_a : in64 a) : xe none 228 0 (lv_args 0 [.ref 255, vj a]) [] s0 0 0 (fun s' v => GI s' ∧ FL [4032] s0 s' ∧ v = none) := by
  have f0 : FL [4032] s0 s0 := FL.rf
  show xe none 228 0 [(0, .ref 255), (1, vj a)] [] s0 0 0 _
  refine x_A k228_0 (fun _ => rfl) ?_
  refine x_istore_n k228_1 (ls' := [(3, vi 0), (0, .ref 255), (1, vj a)]) (by decide) rfl ?_
  refine x_A k228_2 (fun _ => rfl) ?_
  refine x_alen k228_3 (q := 255) (t := 21) (n := 40) (kd := 1) ⟨by decide, rfl⟩ (by decide) ?_
  refine x_top (fun z44 e_z44 => ?_)
  refine x_istore k228_4 (ls' := [(4, vi z44), (3, vi 0), (0, .ref 255), (1, vj a)]) (by decide) rfl ?_
  refine x_ls (l := [(0, .ref 255), (1, vj a), (3, vi 0), (4, vi z44)]) (show ([0, 1, 3, 4] : List Nat).Nodup from by decide +kernel) ⟨rfl, rfl, rfl, rfl, trivial⟩ ?_
  exact L_C_J7_fill_d0a16_255_6 s0   (((40 - 0) + 1 : Int)).toNat s0 a 0 z44 hG0 f0 b_a ⟨by decide, by decide⟩ (by first | exact x_rbe e_z44 g_z44 rfl rfl | exact x_rb g_z44 rfl rfl | exact ⟨by omega, by omega⟩) (by omega)  (by omega)
theorem C_X1_clear_209 (s0 : xS) (hG0 : GI s0)  : xe none 15 0 (lv_args 0 [.ref 209]) [] s0 0 0 (fun s' v => GI s' ∧ FL [1921, 1926, 1927, 1928, 1984, 2048, 2112, 2176] s0 s' ∧ v = none) := by
  have f0 : FL [1921, 1926, 1927, 1928, 1984, 2048, 2112, 2176] s0 s0 := FL.rf
  show xe none 15 0 [(0, .ref 209)] [] s0 0 0 _
  refine x_A k15_0 (fun _ => rfl) ?_
  refine x_bipush k15_1 (by decide +kernel) ?_
  refine x_putI k15_3 (f := 0) rfl (q := 209) (n := 8) (kd := 9) ⟨by decide, rfl⟩ rfl rfl rfl ?_
  refine x_nh (fun s1 e_s1 => ?_)
  have hG_s1 : GI s1 := by rw [e_s1]; exact hG0.up (show (-2147483648) ≤ 20 ∧ 20 ≤ 2147483647 from ⟨by decide, by decide⟩)
  have f_s1 : FL [1921, 1926, 1927, 1928, 1984, 2048, 2112, 2176] s0 s1 := by rw [e_s1]; exact f0.up (show 1921 ∈ [1921, 1926, 1927, 1928, 1984, 2048, 2112, 2176] from by decide +kernel)
  have q2 : s1 209 0 = 20 := by rw [e_s1]; exact x_up_same
  refine x_A k15_6 (fun _ => rfl) ?_
  refine x_getR k15_7 (f := 1) rfl (q := 209) (n := 8) (kd := 9) ⟨by decide, rfl⟩ (q2 := 210) (by decide) rfl ?_
  refine x_A k15_10 (fun _ => rfl) ?_
  refine x_callS k15_11 (y := 229) (n := 2) (w0 := 0) (w1 := 2) (as := [.ref 210, vi 0]) (rest := []) (by decide +kernel) rfl rfl rfl rfl (xe_mono (C_J7_fill_53178_210 s1 hG_s1 0 ⟨by decide, by decide⟩) ?_)
  rintro s4 v ⟨hG_s4, t_s4, rfl⟩
  have f_s4 : FL [1921, 1926, 1927, 1928, 1984, 2048, 2112, 2176] s0 s4 := f_s1.tr t_s4 (by decide +kernel)
  have q5 : s4 209 0 = 20 := (t_s4 209 0 (show 1921 ∉ [1984] from by decide +kernel)).trans q2
  show xe none 15 14 [(0, .ref 209)] [] s4 0 0 _
  refine x_A k15_14 (fun _ => rfl) ?_
  refine x_getR k15_15 (f := 2) rfl (q := 209) (n := 8) (kd := 9) ⟨by decide, rfl⟩ (q2 := 211) (by decide) rfl ?_
  refine x_lconst k15_18 (z := 0) (by decide +kernel) ?_
  refine x_callS k15_19 (y := 228) (n := 2) (w0 := 0) (w1 := 3) (as := [.ref 211, vj 0]) (rest := []) (by decide +kernel) rfl rfl rfl rfl (xe_mono (C_J7_fill_d0a16_211 s4 hG_s4 0 ⟨by omega, by omega⟩) ?_)
  rintro s7 v ⟨hG_s7, t_s7, rfl⟩
  have f_s7 : FL [1921, 1926, 1927, 1928, 1984, 2048, 2112, 2176] s0 s7 := f_s4.tr t_s7 (by decide +kernel)
  have q8 : s7 209 0 = 20 := (t_s7 209 0 (show 1921 ∉ [2048] from by decide +kernel)).trans q5
  show xe none 15 22 [(0, .ref 209)] [] s7 0 0 _
  refine x_A k15_22 (fun _ => rfl) ?_
  refine x_getR k15_23 (f := 3) rfl (q := 209) (n := 8) (kd := 9) ⟨by decide, rfl⟩ (q2 := 212) (by decide) rfl ?_
  refine x_A k15_26 (fun _ => rfl) ?_
  refine x_callS k15_27 (y := 229) (n := 2) (w0 := 0) (w1 := 2) (as := [.ref 212, vi 0]) (rest := []) (by decide +kernel) rfl rfl rfl rfl (xe_mono (C_J7_fill_53178_212 s7 hG_s7 0 ⟨by decide, by decide⟩) ?_)
  rintro s10 v ⟨hG_s10, t_s10, rfl⟩
  have f_s10 : FL [1921, 1926, 1927, 1928, 1984, 2048, 2112, 2176] s0 s10 := f_s7.tr t_s10 (by decide +kernel)
  have q11 : s10 209 0 = 20 := (t_s10 209 0 (show 1921 ∉ [2112] from by decide +kernel)).trans q8
  show xe none 15 30 [(0, .ref 209)] [] s10 0 0 _
  refine x_A k15_30 (fun _ => rfl) ?_
  refine x_getR k15_31 (f := 4) rfl (q := 209) (n := 8) (kd := 9) ⟨by decide, rfl⟩ (q2 := 213) (by decide) rfl ?_
  refine x_lconst k15_34 (z := 0) (by decide +kernel) ?_
  refine x_callS k15_35 (y := 228) (n := 2) (w0 := 0) (w1 := 3) (as := [.ref 213, vj 0]) (rest := []) (by decide +kernel) rfl rfl rfl rfl (xe_mono (C_J7_fill_d0a16_213 s10 hG_s10 0 ⟨by omega, by omega⟩) ?_)
  rintro s13 v ⟨hG_s13, t_s13, rfl⟩
  have f_s13 : FL [1921, 1926, 1927, 1928, 1984, 2048, 2112, 2176] s0 s13 := f_s10.tr t_s13 (by decide +kernel)
  have q14 : s13 209 0 = 20 := (t_s13 209 0 (show 1921 ∉ [2176] from by decide +kernel)).trans q11
  show xe none 15 38 [(0, .ref 209)] [] s13 0 0 _
  refine x_A k15_38 (fun _ => rfl) ?_
  refine x_A k15_39 (fun _ => rfl) ?_
  refine x_putI k15_40 (f := 5) rfl (q := 209) (n := 8) (kd := 9) ⟨by decide, rfl⟩ rfl rfl rfl ?_
  refine x_nh (fun s15 e_s15 => ?_)
  have hG_s15 : GI s15 := by rw [e_s15]; exact hG_s13.up (show (-2147483648) ≤ 0 ∧ 0 ≤ 2147483647 from ⟨by decide, by decide⟩)
  have f_s15 : FL [1921, 1926, 1927, 1928, 1984, 2048, 2112, 2176] s0 s15 := by rw [e_s15]; exact f_s13.up (show 1926 ∈ [1921, 1926, 1927, 1928, 1984, 2048, 2112, 2176] from by decide +kernel)
  have q16 : s15 209 0 = 20 := by rw [e_s15, x_up_i (by decide)]; exact q14
  have q17 : s15 209 5 = 0 := by rw [e_s15]; exact x_up_same
  refine x_A k15_43 (fun _ => rfl) ?_
  refine x_A k15_44 (fun _ => rfl) ?_
  refine x_putI k15_45 (f := 6) rfl (q := 209) (n := 8) (kd := 9) ⟨by decide, rfl⟩ rfl rfl rfl ?_
  refine x_nh (fun s18 e_s18 => ?_)
  have hG_s18 : GI s18 := by rw [e_s18]; exact hG_s15.up (show (-2147483648) ≤ 0 ∧ 0 ≤ 2147483647 from ⟨by decide, by decide⟩)
  have f_s18 : FL [1921, 1926, 1927, 1928, 1984, 2048, 2112, 2176] s0 s18 := by rw [e_s18]; exact f_s15.up (show 1927 ∈ [1921, 1926, 1927, 1928, 1984, 2048, 2112, 2176] from by decide +kernel)
  have q19 : s18 209 0 = 20 := by rw [e_s18, x_up_i (by decide)]; exact q16
  have q20 : s18 209 5 = 0 := by rw [e_s18, x_up_i (by decide)]; exact q17
  have q21 : s18 209 6 = 0 := by rw [e_s18]; exact x_up_same
  refine x_A k15_48 (fun _ => rfl) ?_
  refine x_A k15_49 (fun _ => rfl) ?_
  refine x_putI k15_50 (f := 7) rfl (q := 209) (n := 8) (kd := 9) ⟨by decide, rfl⟩ rfl rfl rfl ?_
  refine x_nh (fun s22 e_s22 => ?_)
  have hG_s22 : GI s22 := by rw [e_s22]; exact hG_s18.up (show (-2147483648) ≤ 0 ∧ 0 ≤ 2147483647 from ⟨by decide, by decide⟩)
  have f_s22 : FL [1921, 1926, 1927, 1928, 1984, 2048, 2112, 2176] s0 s22 := by rw [e_s22]; exact f_s18.up (show 1928 ∈ [1921, 1926, 1927, 1928, 1984, 2048, 2112, 2176] from by decide +kernel)
  have q23 : s22 209 0 = 20 := by rw [e_s22, x_up_i (by decide)]; exact q19
  have q24 : s22 209 5 = 0 := by rw [e_s22, x_up_i (by decide)]; exact q20
  have q25 : s22 209 6 = 0 := by rw [e_s22, x_up_i (by decide)]; exact q21
  have q26 : s22 209 7 = 0 := by rw [e_s22]; exact x_up_same
  exact x_vret k15_53 rfl ⟨hG_s22, f_s22, rfl⟩
theorem C_X1_clear_244 (s0 : xS) (hG0 : GI s0)  : xe none 15 0 (lv_args 0 [.ref 244]) [] s0 0 0 (fun s' v => GI s' ∧ FL [3329, 3334, 3335, 3336, 3392, 3456, 3520, 3584] s0 s' ∧ v = none) := by
  have f0 : FL [3329, 3334, 3335, 3336, 3392, 3456, 3520, 3584] s0 s0 := FL.rf
  show xe none 15 0 [(0, .ref 244)] [] s0 0 0 _
  refine x_A k15_0 (fun _ => rfl) ?_
  refine x_bipush k15_1 (by decide +kernel) ?_
  refine x_putI k15_3 (f := 0) rfl (q := 244) (n := 8) (kd := 14) ⟨by decide, rfl⟩ rfl rfl rfl ?_
  refine x_nh (fun s1 e_s1 => ?_)
  have hG_s1 : GI s1 := by rw [e_s1]; exact hG0.up (show (-2147483648) ≤ 20 ∧ 20 ≤ 2147483647 from ⟨by decide, by decide⟩)
  have f_s1 : FL [3329, 3334, 3335, 3336, 3392, 3456, 3520, 3584] s0 s1 := by rw [e_s1]; exact f0.up (show 3329 ∈ [3329, 3334, 3335, 3336, 3392, 3456, 3520, 3584] from by decide +kernel)
  have q2 : s1 244 0 = 20 := by rw [e_s1]; exact x_up_same
  refine x_A k15_6 (fun _ => rfl) ?_
  refine x_getR k15_7 (f := 1) rfl (q := 244) (n := 8) (kd := 14) ⟨by decide, rfl⟩ (q2 := 245) (by decide) rfl ?_
  refine x_A k15_10 (fun _ => rfl) ?_
  refine x_callS k15_11 (y := 229) (n := 2) (w0 := 0) (w1 := 2) (as := [.ref 245, vi 0]) (rest := []) (by decide +kernel) rfl rfl rfl rfl (xe_mono (C_J7_fill_53178_245 s1 hG_s1 0 ⟨by decide, by decide⟩) ?_)
  rintro s4 v ⟨hG_s4, t_s4, rfl⟩
  have f_s4 : FL [3329, 3334, 3335, 3336, 3392, 3456, 3520, 3584] s0 s4 := f_s1.tr t_s4 (by decide +kernel)
  have q5 : s4 244 0 = 20 := (t_s4 244 0 (show 3329 ∉ [3392] from by decide +kernel)).trans q2
  show xe none 15 14 [(0, .ref 244)] [] s4 0 0 _
  refine x_A k15_14 (fun _ => rfl) ?_
  refine x_getR k15_15 (f := 2) rfl (q := 244) (n := 8) (kd := 14) ⟨by decide, rfl⟩ (q2 := 246) (by decide) rfl ?_
  refine x_lconst k15_18 (z := 0) (by decide +kernel) ?_
  refine x_callS k15_19 (y := 228) (n := 2) (w0 := 0) (w1 := 3) (as := [.ref 246, vj 0]) (rest := []) (by decide +kernel) rfl rfl rfl rfl (xe_mono (C_J7_fill_d0a16_246 s4 hG_s4 0 ⟨by omega, by omega⟩) ?_)
  rintro s7 v ⟨hG_s7, t_s7, rfl⟩
  have f_s7 : FL [3329, 3334, 3335, 3336, 3392, 3456, 3520, 3584] s0 s7 := f_s4.tr t_s7 (by decide +kernel)
  have q8 : s7 244 0 = 20 := (t_s7 244 0 (show 3329 ∉ [3456] from by decide +kernel)).trans q5
  show xe none 15 22 [(0, .ref 244)] [] s7 0 0 _
  refine x_A k15_22 (fun _ => rfl) ?_
  refine x_getR k15_23 (f := 3) rfl (q := 244) (n := 8) (kd := 14) ⟨by decide, rfl⟩ (q2 := 247) (by decide) rfl ?_
  refine x_A k15_26 (fun _ => rfl) ?_
  refine x_callS k15_27 (y := 229) (n := 2) (w0 := 0) (w1 := 2) (as := [.ref 247, vi 0]) (rest := []) (by decide +kernel) rfl rfl rfl rfl (xe_mono (C_J7_fill_53178_247 s7 hG_s7 0 ⟨by decide, by decide⟩) ?_)
  rintro s10 v ⟨hG_s10, t_s10, rfl⟩
  have f_s10 : FL [3329, 3334, 3335, 3336, 3392, 3456, 3520, 3584] s0 s10 := f_s7.tr t_s10 (by decide +kernel)
  have q11 : s10 244 0 = 20 := (t_s10 244 0 (show 3329 ∉ [3520] from by decide +kernel)).trans q8
  show xe none 15 30 [(0, .ref 244)] [] s10 0 0 _
  refine x_A k15_30 (fun _ => rfl) ?_
  refine x_getR k15_31 (f := 4) rfl (q := 244) (n := 8) (kd := 14) ⟨by decide, rfl⟩ (q2 := 248) (by decide) rfl ?_
  refine x_lconst k15_34 (z := 0) (by decide +kernel) ?_
  refine x_callS k15_35 (y := 228) (n := 2) (w0 := 0) (w1 := 3) (as := [.ref 248, vj 0]) (rest := []) (by decide +kernel) rfl rfl rfl rfl (xe_mono (C_J7_fill_d0a16_248 s10 hG_s10 0 ⟨by omega, by omega⟩) ?_)
  rintro s13 v ⟨hG_s13, t_s13, rfl⟩
  have f_s13 : FL [3329, 3334, 3335, 3336, 3392, 3456, 3520, 3584] s0 s13 := f_s10.tr t_s13 (by decide +kernel)
  have q14 : s13 244 0 = 20 := (t_s13 244 0 (show 3329 ∉ [3584] from by decide +kernel)).trans q11
  show xe none 15 38 [(0, .ref 244)] [] s13 0 0 _
  refine x_A k15_38 (fun _ => rfl) ?_
  refine x_A k15_39 (fun _ => rfl) ?_
  refine x_putI k15_40 (f := 5) rfl (q := 244) (n := 8) (kd := 14) ⟨by decide, rfl⟩ rfl rfl rfl ?_
  refine x_nh (fun s15 e_s15 => ?_)
  have hG_s15 : GI s15 := by rw [e_s15]; exact hG_s13.up (show (-2147483648) ≤ 0 ∧ 0 ≤ 2147483647 from ⟨by decide, by decide⟩)
  have f_s15 : FL [3329, 3334, 3335, 3336, 3392, 3456, 3520, 3584] s0 s15 := by rw [e_s15]; exact f_s13.up (show 3334 ∈ [3329, 3334, 3335, 3336, 3392, 3456, 3520, 3584] from by decide +kernel)
  have q16 : s15 244 0 = 20 := by rw [e_s15, x_up_i (by decide)]; exact q14
  have q17 : s15 244 5 = 0 := by rw [e_s15]; exact x_up_same
  refine x_A k15_43 (fun _ => rfl) ?_
  refine x_A k15_44 (fun _ => rfl) ?_
  refine x_putI k15_45 (f := 6) rfl (q := 244) (n := 8) (kd := 14) ⟨by decide, rfl⟩ rfl rfl rfl ?_
  refine x_nh (fun s18 e_s18 => ?_)
  have hG_s18 : GI s18 := by rw [e_s18]; exact hG_s15.up (show (-2147483648) ≤ 0 ∧ 0 ≤ 2147483647 from ⟨by decide, by decide⟩)
  have f_s18 : FL [3329, 3334, 3335, 3336, 3392, 3456, 3520, 3584] s0 s18 := by rw [e_s18]; exact f_s15.up (show 3335 ∈ [3329, 3334, 3335, 3336, 3392, 3456, 3520, 3584] from by decide +kernel)
  have q19 : s18 244 0 = 20 := by rw [e_s18, x_up_i (by decide)]; exact q16
  have q20 : s18 244 5 = 0 := by rw [e_s18, x_up_i (by decide)]; exact q17
  have q21 : s18 244 6 = 0 := by rw [e_s18]; exact x_up_same
  refine x_A k15_48 (fun _ => rfl) ?_
  refine x_A k15_49 (fun _ => rfl) ?_
  refine x_putI k15_50 (f := 7) rfl (q := 244) (n := 8) (kd := 14) ⟨by decide, rfl⟩ rfl rfl rfl ?_
  refine x_nh (fun s22 e_s22 => ?_)
  have hG_s22 : GI s22 := by rw [e_s22]; exact hG_s18.up (show (-2147483648) ≤ 0 ∧ 0 ≤ 2147483647 from ⟨by decide, by decide⟩)
  have f_s22 : FL [3329, 3334, 3335, 3336, 3392, 3456, 3520, 3584] s0 s22 := by rw [e_s22]; exact f_s18.up (show 3336 ∈ [3329, 3334, 3335, 3336, 3392, 3456, 3520, 3584] from by decide +kernel)
  have q23 : s22 244 0 = 20 := by rw [e_s22, x_up_i (by decide)]; exact q19
  have q24 : s22 244 5 = 0 := by rw [e_s22, x_up_i (by decide)]; exact q20
  have q25 : s22 244 6 = 0 := by rw [e_s22, x_up_i (by decide)]; exact q21
  have q26 : s22 244 7 = 0 := by rw [e_s22]; exact x_up_same
  exact x_vret k15_53 rfl ⟨hG_s22, f_s22, rfl⟩
theorem C_X2_add_50 (s0 : xS) (hG0 : GI s0) (a : Int) (b_a : 0 ≤ a ∧ a ≤ 39) (b : Int) (b_b : 0 ≤ b ∧ b ≤ 39) (d : Int) (b_d : 0 ≤ d ∧ d ≤ 7) (e : Int) (b_e : 0 ≤ e ∧ e ≤ 63) (g : Int) (b_g : 0 ≤ g ∧ g ≤ 9) : xe none 25 0 (lv_args 0 [.ref 50, vi a, vi b, vi d, vi e, vi g]) [] s0 0 0 (fun s' v => GI s' ∧ FL [711, 768, 832, 896, 960, 1024, 1152] s0 s' ∧ ∃ z, v = some (vi z) ∧ ((-1004) ≤ z ∧ z ≤ 119)) := by
  have f0 : FL [711, 768, 832, 896, 960, 1024, 1152] s0 s0 := FL.rf
  show xe none 25 0 [(0, .ref 50), (1, vi a), (2, vi b), (3, vi d), (4, vi e), (5, vi g)] [] s0 0 0 _
  refine x_A k25_0 (fun _ => rfl) ?_
  refine x_getI k25_1 (f := 6) rfl (q := 50) (n := 7) (kd := 6) ⟨by decide, rfl⟩ (by decide) rfl ?_
  refine x_top (fun z1 e_z1 => ?_)
  have g_z1 : (0 : Int) ≤ s0 50 6 ∧ s0 50 6 ≤ 120 := hG0 50 6
  refine x_istore k25_4 (ls' := [(6, vi z1), (0, .ref 50), (1, vi a), (2, vi b), (3, vi d), (4, vi e), (5, vi g)]) (by decide) rfl ?_
  refine x_A k25_6 (fun _ => rfl) ?_
  refine x_bipush k25_8 (by decide +kernel) ?_
  refine x_ic_lt k25_10 (t := 17) rfl (by first | exact x_rbe e_z1 g_z1 rfl rfl | exact x_rb g_z1 rfl rfl | exact ⟨by omega, by omega⟩) ⟨by decide, by decide⟩ (fun c2 => ?_) (fun c2 => ?_)
  · skip
    refine x_A k25_17 (fun _ => rfl) ?_
    refine x_getR k25_18 (f := 0) rfl (q := 50) (n := 7) (kd := 6) ⟨by decide, rfl⟩ (q2 := 51) (by decide) rfl ?_
    refine x_A k25_21 (fun _ => rfl) ?_
    refine x_A k25_23 (fun _ => rfl) ?_
    refine x_iast k25_24 (q := 51) (n := 120) ⟨by decide, rfl⟩ (by decide) (by first | exact x_rbel e_z1 g_z1 rfl rfl | exact x_rbl g_z1 rfl rfl | exact ⟨by omega, by omega⟩) ?_
    refine x_nh (fun s3 e_s3 => ?_)
    have hG_s3 : GI s3 := by rw [e_s3]; exact hG0.up (show 0 ≤ a ∧ a ≤ 39 from (by first | exact x_rb b_a rfl rfl | exact ⟨by omega, by omega⟩))
    have f_s3 : FL [711, 768, 832, 896, 960, 1024, 1152] s0 s3 := by rw [e_s3]; exact f0.up (show 768 ∈ [711, 768, 832, 896, 960, 1024, 1152] from by decide +kernel)
    have q4 : s3 50 6 = z1 := by rw [e_s3, x_up_q (by decide)]; exact e_z1.symm
    have q5 : s3 51 z1.toNat = a := by rw [e_s3]; exact x_up_same
    refine x_A k25_25 (fun _ => rfl) ?_
    refine x_getR k25_26 (f := 1) rfl (q := 50) (n := 7) (kd := 6) ⟨by decide, rfl⟩ (q2 := 52) (by decide) rfl ?_
    refine x_A k25_29 (fun _ => rfl) ?_
    refine x_A k25_31 (fun _ => rfl) ?_
    refine x_iast k25_32 (q := 52) (n := 120) ⟨by decide, rfl⟩ (by decide) (by first | exact x_rbel e_z1 g_z1 rfl rfl | exact x_rbl g_z1 rfl rfl | exact ⟨by omega, by omega⟩) ?_
    refine x_nh (fun s6 e_s6 => ?_)
    have hG_s6 : GI s6 := by rw [e_s6]; exact hG_s3.up (show 0 ≤ b ∧ b ≤ 39 from (by first | exact x_rb b_b rfl rfl | exact ⟨by omega, by omega⟩))
    have f_s6 : FL [711, 768, 832, 896, 960, 1024, 1152] s0 s6 := by rw [e_s6]; exact f_s3.up (show 832 ∈ [711, 768, 832, 896, 960, 1024, 1152] from by decide +kernel)
    have q7 : s6 50 6 = z1 := by rw [e_s6, x_up_q (by decide)]; exact q4
    have q8 : s6 51 z1.toNat = a := by rw [e_s6, x_up_q (by first | decide | omega)]; exact q5
    have q9 : s6 52 z1.toNat = b := by rw [e_s6]; exact x_up_same
    refine x_A k25_33 (fun _ => rfl) ?_
    refine x_getR k25_34 (f := 2) rfl (q := 50) (n := 7) (kd := 6) ⟨by decide, rfl⟩ (q2 := 53) (by decide) rfl ?_
    refine x_A k25_37 (fun _ => rfl) ?_
    refine x_A k25_39 (fun _ => rfl) ?_
    refine x_iast k25_40 (q := 53) (n := 120) ⟨by decide, rfl⟩ (by decide) (by first | exact x_rbel e_z1 g_z1 rfl rfl | exact x_rbl g_z1 rfl rfl | exact ⟨by omega, by omega⟩) ?_
    refine x_nh (fun s10 e_s10 => ?_)
    have hG_s10 : GI s10 := by rw [e_s10]; exact hG_s6.up (show 0 ≤ d ∧ d ≤ 7 from (by first | exact x_rb b_d rfl rfl | exact ⟨by omega, by omega⟩))
    have f_s10 : FL [711, 768, 832, 896, 960, 1024, 1152] s0 s10 := by rw [e_s10]; exact f_s6.up (show 896 ∈ [711, 768, 832, 896, 960, 1024, 1152] from by decide +kernel)
    have q11 : s10 50 6 = z1 := by rw [e_s10, x_up_q (by decide)]; exact q7
    have q12 : s10 51 z1.toNat = a := by rw [e_s10, x_up_q (by first | decide | omega)]; exact q8
    have q13 : s10 52 z1.toNat = b := by rw [e_s10, x_up_q (by first | decide | omega)]; exact q9
    have q14 : s10 53 z1.toNat = d := by rw [e_s10]; exact x_up_same
    refine x_A k25_41 (fun _ => rfl) ?_
    refine x_getR k25_42 (f := 3) rfl (q := 50) (n := 7) (kd := 6) ⟨by decide, rfl⟩ (q2 := 54) (by decide) rfl ?_
    refine x_A k25_45 (fun _ => rfl) ?_
    refine x_A k25_47 (fun _ => rfl) ?_
    refine x_iast k25_49 (q := 54) (n := 120) ⟨by decide, rfl⟩ (by decide) (by first | exact x_rbel e_z1 g_z1 rfl rfl | exact x_rbl g_z1 rfl rfl | exact ⟨by omega, by omega⟩) ?_
    refine x_nh (fun s15 e_s15 => ?_)
    have hG_s15 : GI s15 := by rw [e_s15]; exact hG_s10.up (show 0 ≤ e ∧ e ≤ 63 from (by first | exact x_rb b_e rfl rfl | exact ⟨by omega, by omega⟩))
    have f_s15 : FL [711, 768, 832, 896, 960, 1024, 1152] s0 s15 := by rw [e_s15]; exact f_s10.up (show 960 ∈ [711, 768, 832, 896, 960, 1024, 1152] from by decide +kernel)
    have q16 : s15 50 6 = z1 := by rw [e_s15, x_up_q (by decide)]; exact q11
    have q17 : s15 51 z1.toNat = a := by rw [e_s15, x_up_q (by first | decide | omega)]; exact q12
    have q18 : s15 52 z1.toNat = b := by rw [e_s15, x_up_q (by first | decide | omega)]; exact q13
    have q19 : s15 53 z1.toNat = d := by rw [e_s15, x_up_q (by first | decide | omega)]; exact q14
    have q20 : s15 54 z1.toNat = e := by rw [e_s15]; exact x_up_same
    refine x_A k25_50 (fun _ => rfl) ?_
    refine x_getR k25_51 (f := 4) rfl (q := 50) (n := 7) (kd := 6) ⟨by decide, rfl⟩ (q2 := 55) (by decide) rfl ?_
    refine x_A k25_54 (fun _ => rfl) ?_
    refine x_A k25_56 (fun _ => rfl) ?_
    refine x_iast k25_58 (q := 55) (n := 120) ⟨by decide, rfl⟩ (by decide) (by first | exact x_rbel e_z1 g_z1 rfl rfl | exact x_rbl g_z1 rfl rfl | exact ⟨by omega, by omega⟩) ?_
    refine x_nh (fun s21 e_s21 => ?_)
    have hG_s21 : GI s21 := by rw [e_s21]; exact hG_s15.up (show 0 ≤ g ∧ g ≤ 9 from (by first | exact x_rb b_g rfl rfl | exact ⟨by omega, by omega⟩))
    have f_s21 : FL [711, 768, 832, 896, 960, 1024, 1152] s0 s21 := by rw [e_s21]; exact f_s15.up (show 1024 ∈ [711, 768, 832, 896, 960, 1024, 1152] from by decide +kernel)
    have q22 : s21 50 6 = z1 := by rw [e_s21, x_up_q (by decide)]; exact q16
    have q23 : s21 51 z1.toNat = a := by rw [e_s21, x_up_q (by first | decide | omega)]; exact q17
    have q24 : s21 52 z1.toNat = b := by rw [e_s21, x_up_q (by first | decide | omega)]; exact q18
    have q25 : s21 53 z1.toNat = d := by rw [e_s21, x_up_q (by first | decide | omega)]; exact q19
    have q26 : s21 54 z1.toNat = e := by rw [e_s21, x_up_q (by first | decide | omega)]; exact q20
    have q27 : s21 55 z1.toNat = g := by rw [e_s21]; exact x_up_same
    refine x_A k25_59 (fun _ => rfl) ?_
    refine x_getR k25_60 (f := 5) rfl (q := 50) (n := 7) (kd := 6) ⟨by decide, rfl⟩ (q2 := 56) (by decide) rfl ?_
    refine x_A k25_63 (fun _ => rfl) ?_
    refine x_aald k25_65 (q := 56) (t := 23) (n := 120) ⟨by decide, rfl⟩ (by decide) (by decide) ⟨by omega, by omega⟩ ?_
    refine x_A k25_66 (fun _ => rfl) ?_
    refine x_callS k25_67 (y := 229) (n := 2) (w0 := 0) (w1 := 2) (as := [.ref (56 + 1 + z1.toNat), vi (-1)]) (rest := []) (by decide +kernel) rfl rfl rfl rfl (xe_mono (C_J7_fill_53178_g57 s21 hG_s21 (56 + 1 + z1.toNat) ⟨by omega, by omega⟩ (-1) ⟨by decide, by decide⟩) ?_)
    rintro s29 v ⟨hG_s29, t_s29, rfl⟩
    have f_s29 : FL [711, 768, 832, 896, 960, 1024, 1152] s0 s29 := f_s21.tr t_s29 (by decide +kernel)
    have q30 : s29 50 6 = z1 := (t_s29 50 6 (show 711 ∉ [1152] from by decide +kernel)).trans q22
    have q31 : s29 51 z1.toNat = a := (t_s29 51 z1.toNat (show 768 ∉ [1152] from by decide +kernel)).trans q23
    have q32 : s29 52 z1.toNat = b := (t_s29 52 z1.toNat (show 832 ∉ [1152] from by decide +kernel)).trans q24
    have q33 : s29 53 z1.toNat = d := (t_s29 53 z1.toNat (show 896 ∉ [1152] from by decide +kernel)).trans q25
    have q34 : s29 54 z1.toNat = e := (t_s29 54 z1.toNat (show 960 ∉ [1152] from by decide +kernel)).trans q26
    have q35 : s29 55 z1.toNat = g := (t_s29 55 z1.toNat (show 1024 ∉ [1152] from by decide +kernel)).trans q27
    show xe none 25 70 [(6, vi z1), (0, .ref 50), (1, vi a), (2, vi b), (3, vi d), (4, vi e), (5, vi g)] [] s29 0 0 _
    refine x_A k25_70 (fun _ => rfl) ?_
    refine x_A k25_71 (fun _ => rfl) ?_
    refine x_getI k25_72 (f := 6) rfl (q := 50) (n := 7) (kd := 6) ⟨by decide, rfl⟩ (by decide) rfl ?_
    rw [q30]
    refine x_A k25_75 (fun _ => rfl) ?_
    refine x_iadd k25_76 ?_
    refine x_top (fun z36 e_z36 => ?_)
    refine x_putI k25_77 (f := 6) rfl (q := 50) (n := 7) (kd := 6) ⟨by decide, rfl⟩ rfl rfl rfl ?_
    refine x_nh (fun s37 e_s37 => ?_)
    have hG_s37 : GI s37 := by rw [e_s37]; exact hG_s29.up (show 0 ≤ z36 ∧ z36 ≤ 120 from (by first | exact x_rbe e_z36 g_z36 rfl rfl | exact x_rb g_z36 rfl rfl | exact ⟨by omega, by omega⟩))
    have f_s37 : FL [711, 768, 832, 896, 960, 1024, 1152] s0 s37 := by rw [e_s37]; exact f_s29.up (show 711 ∈ [711, 768, 832, 896, 960, 1024, 1152] from by decide +kernel)
    have q38 : s37 50 6 = z36 := by rw [e_s37]; exact x_up_same
    have q39 : s37 51 z1.toNat = a := by rw [e_s37, x_up_q (by first | decide | omega)]; exact q31
    have q40 : s37 52 z1.toNat = b := by rw [e_s37, x_up_q (by first | decide | omega)]; exact q32
    have q41 : s37 53 z1.toNat = d := by rw [e_s37, x_up_q (by first | decide | omega)]; exact q33
    have q42 : s37 54 z1.toNat = e := by rw [e_s37, x_up_q (by first | decide | omega)]; exact q34
    have q43 : s37 55 z1.toNat = g := by rw [e_s37, x_up_q (by first | decide | omega)]; exact q35
    refine x_A k25_80 (fun _ => rfl) ?_
    exact x_iret k25_82 rfl ⟨hG_s37, f_s37, z1, rfl, (by first | exact x_rbe e_z1 g_z1 rfl rfl | exact x_rb g_z1 rfl rfl | exact ⟨by omega, by omega⟩)⟩
  · skip
    refine x_sipush k25_13 (by decide +kernel) ?_
    exact x_iret k25_16 rfl ⟨hG0, f0, (-1004), rfl, ⟨by decide, by decide⟩⟩
theorem C_X10_give_0 (s0 : xS) (hG0 : GI s0) (a : Int) (b_a : (-2147483648) ≤ a ∧ a ≤ 2147483647) (b : Int) (b_b : (-2147483648) ≤ b ∧ b ≤ 2147483647) (d : Int) (b_d : (-2147483648) ≤ d ∧ d ≤ 2147483647) (e : Int) (b_e : (-2147483648) ≤ e ∧ e ≤ 2147483647) : xe none 98 0 (lv_args 0 [.ref 0, vi a, vi b, vi d, vi e]) [] s0 0 0 (fun s' v => GI s' ∧ FL [711, 768, 832, 896, 960, 1024, 1152, 3276, 3277] s0 s' ∧ ∃ z, v = some (vi z) ∧ ((-1004) ≤ z ∧ z ≤ 119)) := by
  have f0 : FL [711, 768, 832, 896, 960, 1024, 1152, 3276, 3277] s0 s0 := FL.rf
  show xe none 98 0 [(0, .ref 0), (1, vi a), (2, vi b), (3, vi d), (4, vi e)] [] s0 0 0 _
  refine x_A k98_0 (fun _ => rfl) ?_
  refine x_getR k98_1 (f := 1) rfl (q := 0) (n := 12) (kd := 3) ⟨by decide, rfl⟩ (q2 := 46) (by decide) rfl ?_
  refine x_A k98_4 (fun _ => rfl) ?_
  obtain ⟨z1, e_z1⟩ : ∃ z, z = s0 46 3 := ⟨_, rfl⟩
  have g_z1 : (0 : Int) ≤ s0 46 3 ∧ s0 46 3 ≤ 40 := hG0 46 3
  refine x_callV k98_5 (y := 29) (n := 1) (w0 := 0) (w1 := 1) (as := [vi a]) (rest := []) (by decide +kernel) (q := 46) (nq := 4) (kq := 5) ⟨by decide, rfl⟩ rfl rfl rfl rfl (xe_mono (C_X3_has_46 s0 hG0 a (by first | exact x_rb b_a rfl rfl | exact ⟨by omega, by omega⟩)) ?_)
  rintro s3 v ⟨h_s3, z2, rfl, hz_z2⟩
  rw [h_s3]
  rcases hz_z2 with ⟨c_z2, e_z2⟩ | ⟨c_z2, e_z2⟩
  · rw [e_z2]
    show xe none 98 8 [(0, .ref 0), (1, vi a), (2, vi b), (3, vi d), (4, vi e)] [vi 1] s0 0 0 _
    refine x_if_eq k98_8 (t := 22) rfl ⟨by decide, by decide⟩ (fun c4 => by exfalso; omega) (fun c4 => ?_)
    refine x_A k98_11 (fun _ => rfl) ?_
    refine x_getR k98_12 (f := 0) rfl (q := 0) (n := 12) (kd := 3) ⟨by decide, rfl⟩ (q2 := 1) (by decide) rfl ?_
    refine x_A k98_15 (fun _ => rfl) ?_
    obtain ⟨z5, e_z5⟩ : ∃ z, z = s0 1 4 := ⟨_, rfl⟩
    have g_z5 : (1 : Int) ≤ s0 1 4 ∧ s0 1 4 ≤ 40 := hG0 1 4
    refine x_callV k98_16 (y := 59) (n := 1) (w0 := 0) (w1 := 1) (as := [vi b]) (rest := []) (by decide +kernel) (q := 1) (nq := 5) (kq := 4) ⟨by decide, rfl⟩ rfl rfl rfl rfl (xe_mono (C_X7_has_1 s0 hG0 b (by first | exact x_rb b_b rfl rfl | exact ⟨by omega, by omega⟩)) ?_)
    rintro s7 v ⟨h_s7, z6, rfl, hz_z6⟩
    rw [h_s7]
    rcases hz_z6 with ⟨c_z6, e_z6⟩ | ⟨c_z6, e_z6⟩
    · rw [e_z6]
      show xe none 98 19 [(0, .ref 0), (1, vi a), (2, vi b), (3, vi d), (4, vi e)] [vi 1] s0 0 0 _
      refine x_if_ne k98_19 (t := 26) rfl ⟨by decide, by decide⟩ (fun c8 => ?_) (fun c8 => by exfalso; omega)
      refine x_A k98_26 (fun _ => rfl) ?_
      refine x_callS k98_27 (y := 123) (n := 1) (w0 := 0) (w1 := 1) (as := [vi d]) (rest := []) (by decide +kernel) rfl rfl rfl rfl (xe_mono (C_X10_isHand s0 hG0 d (by first | exact x_rb b_d rfl rfl | exact ⟨by omega, by omega⟩)) ?_)
      rintro s10 v ⟨h_s10, z9, rfl, hz_z9⟩
      rw [h_s10]
      rcases hz_z9 with ⟨c_z9, e_z9⟩ | ⟨c_z9, e_z9⟩
      · rw [e_z9]
        show xe none 98 30 [(0, .ref 0), (1, vi a), (2, vi b), (3, vi d), (4, vi e)] [vi 1] s0 0 0 _
        refine x_if_eq k98_30 (t := 44) rfl ⟨by decide, by decide⟩ (fun c11 => by exfalso; omega) (fun c11 => ?_)
        refine x_A k98_33 (fun _ => rfl) ?_
        refine x_A k98_35 (fun _ => rfl) ?_
        refine x_bipush k98_36 (by decide +kernel) ?_
        refine x_callS k98_38 (y := 121) (n := 3) (w0 := 0) (w1 := 3) (as := [vi e, vi 0, vi 63]) (rest := []) (by decide +kernel) rfl rfl rfl rfl (xe_mono (C_X10_isWithin s0 hG0 e (by first | exact x_rb b_e rfl rfl | exact ⟨by omega, by omega⟩) 0 ⟨by decide, by decide⟩ 63 ⟨by decide, by decide⟩) ?_)
        rintro s13 v ⟨h_s13, z12, rfl, hz_z12⟩
        rw [h_s13]
        rcases hz_z12 with ⟨c_z12, e_z12⟩ | ⟨c_z12, e_z12⟩
        · rw [e_z12]
          show xe none 98 41 [(0, .ref 0), (1, vi a), (2, vi b), (3, vi d), (4, vi e)] [vi 1] s0 0 0 _
          refine x_if_ne k98_41 (t := 48) rfl ⟨by decide, by decide⟩ (fun c14 => ?_) (fun c14 => by exfalso; omega)
          refine x_A k98_48 (fun _ => rfl) ?_
          refine x_getR k98_49 (f := 9) rfl (q := 0) (n := 12) (kd := 3) ⟨by decide, rfl⟩ (q2 := 243) (by decide) rfl ?_
          refine x_callV k98_52 (y := 73) (n := 0) (w0 := 0) (w1 := 0) (as := []) (rest := []) (by decide +kernel) (q := 243) (nq := 13) (kq := 13) ⟨by decide, rfl⟩ rfl rfl rfl rfl (xe_mono (C_X8_forget_243 s0 hG0) ?_)
          rintro s16 v ⟨hG_s16, t_s16, rfl⟩
          have f_s16 : FL [711, 768, 832, 896, 960, 1024, 1152, 3276, 3277] s0 s16 := f0.tr t_s16 (by decide +kernel)
          have q17 : s16 46 3 = z1 := (t_s16 46 3 (show 452 ∉ [3276, 3277] from by decide +kernel)).trans e_z1.symm
          have q18 : s16 1 4 = z5 := (t_s16 1 4 (show 69 ∉ [3276, 3277] from by decide +kernel)).trans e_z5.symm
          show xe none 98 55 [(0, .ref 0), (1, vi a), (2, vi b), (3, vi d), (4, vi e)] [] s16 0 0 _
          refine x_A k98_55 (fun _ => rfl) ?_
          refine x_getR k98_56 (f := 2) rfl (q := 0) (n := 12) (kd := 3) ⟨by decide, rfl⟩ (q2 := 50) (by decide) rfl ?_
          refine x_A k98_59 (fun _ => rfl) ?_
          refine x_A k98_60 (fun _ => rfl) ?_
          refine x_A k98_61 (fun _ => rfl) ?_
          refine x_A k98_62 (fun _ => rfl) ?_
          refine x_A k98_64 (fun _ => rfl) ?_
          refine x_getI k98_65 (f := 10) rfl (q := 0) (n := 12) (kd := 3) ⟨by decide, rfl⟩ (by decide) rfl ?_
          refine x_top (fun z19 e_z19 => ?_)
          have g_z19 : (0 : Int) ≤ s16 0 10 ∧ s16 0 10 ≤ 9 := hG_s16 0 10
          refine x_callV k98_68 (y := 25) (n := 5) (w0 := 0) (w1 := 5) (as := [vi a, vi b, vi d, vi e, vi z19]) (rest := []) (by decide +kernel) (q := 50) (nq := 7) (kq := 6) ⟨by decide, rfl⟩ rfl rfl rfl rfl (xe_mono (C_X2_add_50 s16 hG_s16 a (by first | exact x_rb b_a rfl rfl | exact ⟨by omega, by omega⟩) b (by first | exact x_rb b_b rfl rfl | exact ⟨by omega, by omega⟩) d (by first | exact x_rb b_d rfl rfl | exact ⟨by omega, by omega⟩) e (by first | exact x_rb b_e rfl rfl | exact ⟨by omega, by omega⟩) z19 (by first | exact x_rbe e_z19 g_z19 rfl rfl | exact x_rb g_z19 rfl rfl | exact ⟨by omega, by omega⟩)) ?_)
          rintro s21 v ⟨hG_s21, t_s21, z20, rfl, g_z20⟩
          have f_s21 : FL [711, 768, 832, 896, 960, 1024, 1152, 3276, 3277] s0 s21 := f_s16.tr t_s21 (by decide +kernel)
          have q22 : s21 46 3 = z1 := (t_s21 46 3 (show 452 ∉ [711, 768, 832, 896, 960, 1024, 1152] from by decide +kernel)).trans q17
          have q23 : s21 1 4 = z5 := (t_s21 1 4 (show 69 ∉ [711, 768, 832, 896, 960, 1024, 1152] from by decide +kernel)).trans q18
          have q24 : s21 0 10 = z19 := (t_s21 0 10 (show 11 ∉ [711, 768, 832, 896, 960, 1024, 1152] from by decide +kernel)).trans e_z19.symm
          show xe none 98 71 [(0, .ref 0), (1, vi a), (2, vi b), (3, vi d), (4, vi e)] [vi z20] s21 0 0 _
          exact x_iret k98_71 rfl ⟨hG_s21, f_s21, z20, rfl, (by first | exact x_rbe e_z20 g_z20 rfl rfl | exact x_rb g_z20 rfl rfl | exact ⟨by omega, by omega⟩)⟩
        · rw [e_z12]
          show xe none 98 41 [(0, .ref 0), (1, vi a), (2, vi b), (3, vi d), (4, vi e)] [vi 0] s0 0 0 _
          refine x_if_ne k98_41 (t := 48) rfl ⟨by decide, by decide⟩ (fun c25 => by exfalso; omega) (fun c25 => ?_)
          refine x_sipush k98_44 (by decide +kernel) ?_
          exact x_iret k98_47 rfl ⟨hG0, f0, (-1002), rfl, ⟨by decide, by decide⟩⟩
      · rw [e_z9]
        show xe none 98 30 [(0, .ref 0), (1, vi a), (2, vi b), (3, vi d), (4, vi e)] [vi 0] s0 0 0 _
        refine x_if_eq k98_30 (t := 44) rfl ⟨by decide, by decide⟩ (fun c26 => ?_) (fun c26 => by exfalso; omega)
        refine x_sipush k98_44 (by decide +kernel) ?_
        exact x_iret k98_47 rfl ⟨hG0, f0, (-1002), rfl, ⟨by decide, by decide⟩⟩
    · rw [e_z6]
      show xe none 98 19 [(0, .ref 0), (1, vi a), (2, vi b), (3, vi d), (4, vi e)] [vi 0] s0 0 0 _
      refine x_if_ne k98_19 (t := 26) rfl ⟨by decide, by decide⟩ (fun c27 => by exfalso; omega) (fun c27 => ?_)
      refine x_sipush k98_22 (by decide +kernel) ?_
      exact x_iret k98_25 rfl ⟨hG0, f0, (-1001), rfl, ⟨by decide, by decide⟩⟩
  · rw [e_z2]
    show xe none 98 8 [(0, .ref 0), (1, vi a), (2, vi b), (3, vi d), (4, vi e)] [vi 0] s0 0 0 _
    refine x_if_eq k98_8 (t := 22) rfl ⟨by decide, by decide⟩ (fun c28 => ?_) (fun c28 => by exfalso; omega)
    refine x_sipush k98_22 (by decide +kernel) ?_
    exact x_iret k98_25 rfl ⟨hG0, f0, (-1001), rfl, ⟨by decide, by decide⟩⟩
theorem C_X10_doubt_0 (s0 : xS) (hG0 : GI s0) (a : Int) (b_a : (-2147483648) ≤ a ∧ a ≤ 2147483647) (b : Int) (b_b : (-2147483648) ≤ b ∧ b ≤ 2147483647) : xe none 99 0 (lv_args 0 [.ref 0, vi a, vi b]) [] s0 0 0 (fun s' v => GI s' ∧ FL [1152, 3276, 3277] s0 s' ∧ ∃ z, v = some (vi z) ∧ ((-1004) ≤ z ∧ z ≤ 8)) := by
  have f0 : FL [1152, 3276, 3277] s0 s0 := FL.rf
  show xe none 99 0 [(0, .ref 0), (1, vi a), (2, vi b)] [] s0 0 0 _
  refine x_A k99_0 (fun _ => rfl) ?_
  refine x_getR k99_1 (f := 2) rfl (q := 0) (n := 12) (kd := 3) ⟨by decide, rfl⟩ (q2 := 50) (by decide) rfl ?_
  refine x_A k99_4 (fun _ => rfl) ?_
  obtain ⟨z1, e_z1⟩ : ∃ z, z = s0 50 6 := ⟨_, rfl⟩
  have g_z1 : (0 : Int) ≤ s0 50 6 ∧ s0 50 6 ≤ 120 := hG0 50 6
  refine x_callV k99_5 (y := 24) (n := 1) (w0 := 0) (w1 := 1) (as := [vi a]) (rest := []) (by decide +kernel) (q := 50) (nq := 7) (kq := 6) ⟨by decide, rfl⟩ rfl rfl rfl rfl (xe_mono (C_X2_has_50 s0 hG0 a (by first | exact x_rb b_a rfl rfl | exact ⟨by omega, by omega⟩)) ?_)
  rintro s3 v ⟨h_s3, z2, rfl, hz_z2⟩
  rw [h_s3]
  rcases hz_z2 with ⟨c_z2, e_z2⟩ | ⟨c_z2, e_z2⟩
  · rw [e_z2]
    show xe none 99 8 [(0, .ref 0), (1, vi a), (2, vi b)] [vi 1] s0 0 0 _
    refine x_if_ne k99_8 (t := 15) rfl ⟨by decide, by decide⟩ (fun c4 => ?_) (fun c4 => by exfalso; omega)
    refine x_A k99_15 (fun _ => rfl) ?_
    refine x_callS k99_16 (y := 123) (n := 1) (w0 := 0) (w1 := 1) (as := [vi b]) (rest := []) (by decide +kernel) rfl rfl rfl rfl (xe_mono (C_X10_isHand s0 hG0 b (by first | exact x_rb b_b rfl rfl | exact ⟨by omega, by omega⟩)) ?_)
    rintro s6 v ⟨h_s6, z5, rfl, hz_z5⟩
    rw [h_s6]
    rcases hz_z5 with ⟨c_z5, e_z5⟩ | ⟨c_z5, e_z5⟩
    · rw [e_z5]
      show xe none 99 19 [(0, .ref 0), (1, vi a), (2, vi b)] [vi 1] s0 0 0 _
      refine x_if_ne k99_19 (t := 26) rfl ⟨by decide, by decide⟩ (fun c7 => ?_) (fun c7 => by exfalso; omega)
      refine x_A k99_26 (fun _ => rfl) ?_
      refine x_getR k99_27 (f := 2) rfl (q := 0) (n := 12) (kd := 3) ⟨by decide, rfl⟩ (q2 := 50) (by decide) rfl ?_
      refine x_getR k99_30 (f := 2) rfl (q := 50) (n := 7) (kd := 6) ⟨by decide, rfl⟩ (q2 := 53) (by decide) rfl ?_
      refine x_A k99_33 (fun _ => rfl) ?_
      refine x_iald k99_34 (q := 53) (n := 120) ⟨by decide, rfl⟩ (by decide) (by first | exact x_rbl b_a rfl rfl | exact ⟨by omega, by omega⟩) ?_
      refine x_top (fun z8 e_z8 => ?_)
      have g_z8 : (0 : Int) ≤ s0 53 a.toNat ∧ s0 53 a.toNat ≤ 7 := hG0 53 a.toNat
      refine x_A k99_35 (fun _ => rfl) ?_
      refine x_ic_eq k99_36 (t := 54) rfl (by first | exact x_rbe e_z8 g_z8 rfl rfl | exact x_rb g_z8 rfl rfl | exact ⟨by omega, by omega⟩) (by first | exact x_rb b_b rfl rfl | exact ⟨by omega, by omega⟩) (fun c9 => ?_) (fun c9 => ?_)
      · skip
        refine x_sipush k99_54 (by decide +kernel) ?_
        exact x_iret k99_57 rfl ⟨hG0, f0, (-1003), rfl, ⟨by decide, by decide⟩⟩
      · skip
        refine x_A k99_39 (fun _ => rfl) ?_
        refine x_getR k99_40 (f := 2) rfl (q := 0) (n := 12) (kd := 3) ⟨by decide, rfl⟩ (q2 := 50) (by decide) rfl ?_
        refine x_getR k99_43 (f := 5) rfl (q := 50) (n := 7) (kd := 6) ⟨by decide, rfl⟩ (q2 := 56) (by decide) rfl ?_
        refine x_A k99_46 (fun _ => rfl) ?_
        refine x_aald k99_47 (q := 56) (t := 23) (n := 120) ⟨by decide, rfl⟩ (by decide) (by decide) ⟨by omega, by omega⟩ ?_
        refine x_A k99_48 (fun _ => rfl) ?_
        refine x_iald k99_49 (q := (56 + 1 + a.toNat)) (n := 8) (xg_57 (by omega) (by omega)) (by decide) (by first | exact x_rbl b_b rfl rfl | exact ⟨by omega, by omega⟩) ?_
        refine x_top (fun z10 e_z10 => ?_)
        have r_z10 := hG0 (56 + 1 + a.toNat) b.toNat
        rw [(gr_57 b.toNat (show 57 ≤ (56 + 1 + a.toNat) by omega) (by omega)).1, (gr_57 b.toNat (show 57 ≤ (56 + 1 + a.toNat) by omega) (by omega)).2.1, ← e_z10] at r_z10
        refine x_A k99_50 (fun _ => rfl) ?_
        refine x_ic_eq k99_51 (t := 58) rfl (by first | exact x_rbe e_z10 g_z10 rfl rfl | exact x_rb g_z10 rfl rfl | exact ⟨by omega, by omega⟩) ⟨by decide, by decide⟩ (fun c11 => ?_) (fun c11 => ?_)
        · skip
          refine x_A k99_58 (fun _ => rfl) ?_
          refine x_getR k99_59 (f := 9) rfl (q := 0) (n := 12) (kd := 3) ⟨by decide, rfl⟩ (q2 := 243) (by decide) rfl ?_
          refine x_callV k99_62 (y := 73) (n := 0) (w0 := 0) (w1 := 0) (as := []) (rest := []) (by decide +kernel) (q := 243) (nq := 13) (kq := 13) ⟨by decide, rfl⟩ rfl rfl rfl rfl (xe_mono (C_X8_forget_243 s0 hG0) ?_)
          rintro s13 v ⟨hG_s13, t_s13, rfl⟩
          have f_s13 : FL [1152, 3276, 3277] s0 s13 := f0.tr t_s13 (by decide +kernel)
          have q14 : s13 50 6 = z1 := (t_s13 50 6 (show 711 ∉ [3276, 3277] from by decide +kernel)).trans e_z1.symm
          have q15 : s13 53 a.toNat = z8 := (t_s13 53 a.toNat (show 896 ∉ [3276, 3277] from by decide +kernel)).trans e_z8.symm
          show xe none 99 65 [(0, .ref 0), (1, vi a), (2, vi b)] [] s13 0 0 _
          refine x_A k99_65 (fun _ => rfl) ?_
          refine x_getR k99_66 (f := 2) rfl (q := 0) (n := 12) (kd := 3) ⟨by decide, rfl⟩ (q2 := 50) (by decide) rfl ?_
          refine x_getR k99_69 (f := 5) rfl (q := 50) (n := 7) (kd := 6) ⟨by decide, rfl⟩ (q2 := 56) (by decide) rfl ?_
          refine x_A k99_72 (fun _ => rfl) ?_
          refine x_aald k99_73 (q := 56) (t := 23) (n := 120) ⟨by decide, rfl⟩ (by decide) (by decide) ⟨by omega, by omega⟩ ?_
          refine x_A k99_74 (fun _ => rfl) ?_
          refine x_A k99_75 (fun _ => rfl) ?_
          refine x_getI k99_76 (f := 10) rfl (q := 0) (n := 12) (kd := 3) ⟨by decide, rfl⟩ (by decide) rfl ?_
          refine x_top (fun z16 e_z16 => ?_)
          have g_z16 : (0 : Int) ≤ s13 0 10 ∧ s13 0 10 ≤ 9 := hG_s13 0 10
          refine x_iast k99_79 (q := (56 + 1 + a.toNat)) (n := 8) (xg_57 (by omega) (by omega)) (by decide) (by first | exact x_rbl b_b rfl rfl | exact ⟨by omega, by omega⟩) ?_
          refine x_nh (fun s17 e_s17 => ?_)
          have w18 := gr_57 b.toNat (show 57 ≤ (56 + 1 + a.toNat) by omega) (by omega)
          have hG_s17 : GI s17 := by rw [e_s17]; exact hG_s13.up (by rw [w18.1, w18.2.1]; exact (show (-1) ≤ z16 ∧ z16 ≤ 9 from (by first | exact x_rbe e_z16 g_z16 rfl rfl | exact x_rb g_z16 rfl rfl | exact ⟨by omega, by omega⟩)))
          have f_s17 : FL [1152, 3276, 3277] s0 s17 := by rw [e_s17]; exact f_s13.up (by rw [w18.2.2]; decide)
          have q19 : s17 50 6 = z1 := by rw [e_s17, x_up_q (by omega)]; exact q14
          have q20 : s17 0 10 = z16 := by rw [e_s17, x_up_q (by omega)]; exact e_z16.symm
          have q21 : s17 53 a.toNat = z8 := by rw [e_s17, x_up_q (by first | decide | omega)]; exact q15
          have q22 : s17 (56 + 1 + a.toNat) b.toNat = z16 := by rw [e_s17]; exact x_up_same
          refine x_A k99_80 (fun _ => rfl) ?_
          refine x_getR k99_81 (f := 2) rfl (q := 0) (n := 12) (kd := 3) ⟨by decide, rfl⟩ (q2 := 50) (by decide) rfl ?_
          refine x_A k99_84 (fun _ => rfl) ?_
          refine x_A k99_85 (fun _ => rfl) ?_
          refine x_getI k99_86 (f := 10) rfl (q := 0) (n := 12) (kd := 3) ⟨by decide, rfl⟩ (by decide) rfl ?_
          rw [q20]
          refine x_callV k99_89 (y := 26) (n := 2) (w0 := 0) (w1 := 2) (as := [vi a, vi z16]) (rest := []) (by decide +kernel) (q := 50) (nq := 7) (kq := 6) ⟨by decide, rfl⟩ rfl rfl rfl rfl (xe_mono (C_X2_doubters_50 s17 hG_s17 a (by first | exact x_rb b_a rfl rfl | exact ⟨by omega, by omega⟩) z16 (by first | exact x_rbe e_z16 g_z16 rfl rfl | exact x_rb g_z16 rfl rfl | exact ⟨by omega, by omega⟩)) ?_)
          rintro s24 v ⟨-, t_s24, z23, rfl, g_z23⟩
          rw [t_s24.nil]
          show xe none 99 92 [(0, .ref 0), (1, vi a), (2, vi b)] [vi z23] s17 0 0 _
          exact x_iret k99_92 rfl ⟨hG_s17, f_s17, z23, rfl, (by first | exact x_rbe e_z23 g_z23 rfl rfl | exact x_rb g_z23 rfl rfl | exact ⟨by omega, by omega⟩)⟩
        · skip
          refine x_sipush k99_54 (by decide +kernel) ?_
          exact x_iret k99_57 rfl ⟨hG0, f0, (-1003), rfl, ⟨by decide, by decide⟩⟩
    · rw [e_z5]
      show xe none 99 19 [(0, .ref 0), (1, vi a), (2, vi b)] [vi 0] s0 0 0 _
      refine x_if_ne k99_19 (t := 26) rfl ⟨by decide, by decide⟩ (fun c25 => by exfalso; omega) (fun c25 => ?_)
      refine x_sipush k99_22 (by decide +kernel) ?_
      exact x_iret k99_25 rfl ⟨hG0, f0, (-1002), rfl, ⟨by decide, by decide⟩⟩
  · rw [e_z2]
    show xe none 99 8 [(0, .ref 0), (1, vi a), (2, vi b)] [vi 0] s0 0 0 _
    refine x_if_ne k99_8 (t := 15) rfl ⟨by decide, by decide⟩ (fun c26 => by exfalso; omega) (fun c26 => ?_)
    refine x_sipush k99_11 (by decide +kernel) ?_
    exact x_iret k99_14 rfl ⟨hG0, f0, (-1001), rfl, ⟨by decide, by decide⟩⟩
theorem L_C_X1_disallows_209_3 (s0 : xS)   : ∀ (n : Nat) (s : xS) (x1 : Int) (x2 : Int) (x4 : Int) (hG : GI s) (f : FL [] s0 s) (b_x1 : (-2147483648) ≤ x1 ∧ x1 ≤ 2147483647) (b_x2 : in64 x2) (b_x4 : 0 ≤ x4 ∧ x4 ≤ 6)  (hm : (6 - x4) < (n : Int)), xe none 20 3 [(0, .ref 209), (1, vi x1), (2, vj x2), (4, vi x4)] [] s 0 0 (fun s' v => GI s' ∧ FL [] s0 s' ∧ ∃ z, v = some (vi z) ∧ (0 ≤ z ∧ z ≤ 1)) := by
  intro n
  induction n with
  | zero => intro s x1 x2 x4 hG f b_x1 b_x2 b_x4  hm; exfalso; omega
  | succ n ih =>
    intro s x1 x2 x4 hG f b_x1 b_x2 b_x4  hm
    refine x_A k20_3 (fun _ => rfl) ?_
    refine x_bipush k20_5 (by decide +kernel) ?_
    refine x_ic_ge k20_7 (t := 53) rfl (by first | exact x_rb b_x4 rfl rfl | exact ⟨by omega, by omega⟩) ⟨by decide, by decide⟩ (fun c64 => ?_) (fun c64 => ?_)
    · skip
      refine x_A k20_53 (fun _ => rfl) ?_
      exact x_zret k20_54 rfl ⟨by omega, by omega⟩ ⟨hG, f, 0, rfl, ⟨by decide, by decide⟩⟩
    · skip
      refine x_A k20_10 (fun _ => rfl) ?_
      refine x_A k20_11 (fun _ => rfl) ?_
      refine x_callS k20_13 (y := 19) (n := 2) (w0 := 0) (w1 := 2) (as := [vi x1, vi x4]) (rest := []) (by decide +kernel) rfl rfl rfl rfl (xe_mono (C_X1_hasKey s hG x1 (by first | exact x_rb b_x1 rfl rfl | exact ⟨by omega, by omega⟩) x4 (by first | exact x_rb b_x4 rfl rfl | exact ⟨by omega, by omega⟩)) ?_)
      rintro s66 v ⟨-, t_s66, z65, rfl, g_z65⟩
      rw [t_s66.nil]
      show xe none 20 16 [(0, .ref 209), (1, vi x1), (2, vj x2), (4, vi x4)] [vi z65] s 0 0 _
      refine x_if_eq k20_16 (t := 47) rfl (by first | exact x_rbe e_z65 g_z65 rfl rfl | exact x_rb g_z65 rfl rfl | exact ⟨by omega, by omega⟩) (fun c67 => ?_) (fun c67 => ?_)
      · skip
        refine x_iinc k20_47 (ls' := [(4, vi (x4 + 1)), (0, .ref 209), (1, vi x1), (2, vj x2)]) rfl (by decide) rfl ?_
        refine x_goto k20_50 (t := 3) rfl ?_
        refine x_ls (l := [(0, .ref 209), (1, vi x1), (2, vj x2), (4, vi (x4 + 1))]) (show ([0, 1, 2, 4] : List Nat).Nodup from by decide +kernel) ⟨rfl, rfl, rfl, rfl, trivial⟩ ?_
        exact ih s x1 x2 (x4 + 1) hG f (by first | exact x_rb b_x1 rfl rfl | exact ⟨by omega, by omega⟩) b_x2 ⟨by omega, by omega⟩  (by omega)
      · skip
        refine x_A k20_19 (fun _ => rfl) ?_
        refine x_getR k20_20 (f := 2) rfl (q := 209) (n := 8) (kd := 9) ⟨by decide, rfl⟩ (q2 := 211) (by decide) rfl ?_
        refine x_A k20_23 (fun _ => rfl) ?_
        refine x_lald k20_25 (q := 211) (n := 6) ⟨by decide, rfl⟩ (by decide) (by first | exact x_rbl b_x4 rfl rfl | exact ⟨by omega, by omega⟩) ?_
        refine x_topL (fun z68 e_z68 => ?_)
        have b_z68 : in64 z68 := by rw [e_z68]; exact hG 211 x4.toNat
        refine x_lconst k20_26 (z := 0) (by decide +kernel) ?_
        refine x_lc_eq k20_27 k20_28 (t := 47) rfl b_z68 ⟨by omega, by omega⟩ (fun c69 => ?_) (fun c69 => ?_)
        · skip
          refine x_iinc k20_47 (ls' := [(4, vi (x4 + 1)), (0, .ref 209), (1, vi x1), (2, vj x2)]) rfl (by decide) rfl ?_
          refine x_goto k20_50 (t := 3) rfl ?_
          refine x_ls (l := [(0, .ref 209), (1, vi x1), (2, vj x2), (4, vi (x4 + 1))]) (show ([0, 1, 2, 4] : List Nat).Nodup from by decide +kernel) ⟨rfl, rfl, rfl, rfl, trivial⟩ ?_
          exact ih s x1 x2 (x4 + 1) hG f (by first | exact x_rb b_x1 rfl rfl | exact ⟨by omega, by omega⟩) b_x2 ⟨by omega, by omega⟩  (by omega)
        · skip
          refine x_A k20_31 (fun _ => rfl) ?_
          refine x_getR k20_32 (f := 2) rfl (q := 209) (n := 8) (kd := 9) ⟨by decide, rfl⟩ (q2 := 211) (by decide) rfl ?_
          refine x_A k20_35 (fun _ => rfl) ?_
          refine x_lald k20_37 (q := 211) (n := 6) ⟨by decide, rfl⟩ (by decide) (by first | exact x_rbl b_x4 rfl rfl | exact ⟨by omega, by omega⟩) ?_
          refine x_topL (fun z70 e_z70 => ?_)
          have b_z70 : in64 z70 := by rw [e_z70]; exact hG 211 x4.toNat
          refine x_A k20_38 (fun _ => rfl) ?_
          refine x_land_any k20_39 (fun z71 b_z71 => ?_)
          refine x_lconst k20_40 (z := 0) (by decide +kernel) ?_
          refine x_lc_ne k20_41 k20_42 (t := 47) rfl b_z71 ⟨by omega, by omega⟩ (fun c72 => ?_) (fun c72 => ?_)
          · skip
            refine x_iinc k20_47 (ls' := [(4, vi (x4 + 1)), (0, .ref 209), (1, vi x1), (2, vj x2)]) rfl (by decide) rfl ?_
            refine x_goto k20_50 (t := 3) rfl ?_
            refine x_ls (l := [(0, .ref 209), (1, vi x1), (2, vj x2), (4, vi (x4 + 1))]) (show ([0, 1, 2, 4] : List Nat).Nodup from by decide +kernel) ⟨rfl, rfl, rfl, rfl, trivial⟩ ?_
            exact ih s x1 x2 (x4 + 1) hG f (by first | exact x_rb b_x1 rfl rfl | exact ⟨by omega, by omega⟩) b_x2 ⟨by omega, by omega⟩  (by omega)
          · skip
            refine x_A k20_45 (fun _ => rfl) ?_
            exact x_zret k20_46 rfl ⟨by omega, by omega⟩ ⟨hG, f, 1, rfl, ⟨by decide, by decide⟩⟩
theorem C_X1_disallows_209 (s0 : xS) (hG0 : GI s0) (a : Int) (b_a : (-2147483648) ≤ a ∧ a ≤ 2147483647) (b : Int) (b_b : in64 b) : xe none 20 0 (lv_args 0 [.ref 209, vi a, vj b]) [] s0 0 0 (fun s' v => GI s' ∧ FL [] s0 s' ∧ ∃ z, v = some (vi z) ∧ (0 ≤ z ∧ z ≤ 1)) := by
  have f0 : FL [] s0 s0 := FL.rf
  show xe none 20 0 [(0, .ref 209), (1, vi a), (2, vj b)] [] s0 0 0 _
  refine x_A k20_0 (fun _ => rfl) ?_
  refine x_istore k20_1 (ls' := [(4, vi 0), (0, .ref 209), (1, vi a), (2, vj b)]) (by decide) rfl ?_
  refine x_ls (l := [(0, .ref 209), (1, vi a), (2, vj b), (4, vi 0)]) (show ([0, 1, 2, 4] : List Nat).Nodup from by decide +kernel) ⟨rfl, rfl, rfl, rfl, trivial⟩ ?_
  exact L_C_X1_disallows_209_3 s0   (((6 - 0) + 1 : Int)).toNat s0 a b 0 hG0 f0 (by first | exact x_rb b_a rfl rfl | exact ⟨by omega, by omega⟩) b_b ⟨by decide, by decide⟩  (by omega)
theorem L_C_X1_barsTwo_209_2 (s0 : xS)   : ∀ (n : Nat) (s : xS) (x1 : Int) (x2 : Int) (hG : GI s) (f : FL [] s0 s) (b_x1 : (-2147483648) ≤ x1 ∧ x1 ≤ 2147483647) (b_x2 : 0 ≤ x2 ∧ x2 ≤ 6)  (hm : (6 - x2) < (n : Int)), xe none 21 2 [(0, .ref 209), (1, vi x1), (2, vi x2)] [] s 0 0 (fun s' v => GI s' ∧ FL [] s0 s' ∧ ∃ z, v = some (vi z) ∧ (0 ≤ z ∧ z ≤ 1)) := by
  intro n
  induction n with
  | zero => intro s x1 x2 hG f b_x1 b_x2  hm; exfalso; omega
  | succ n ih =>
    intro s x1 x2 hG f b_x1 b_x2  hm
    refine x_A k21_2 (fun _ => rfl) ?_
    refine x_bipush k21_3 (by decide +kernel) ?_
    refine x_ic_ge k21_5 (t := 35) rfl (by first | exact x_rb b_x2 rfl rfl | exact ⟨by omega, by omega⟩) ⟨by decide, by decide⟩ (fun c50 => ?_) (fun c50 => ?_)
    · skip
      refine x_A k21_35 (fun _ => rfl) ?_
      exact x_zret k21_36 rfl ⟨by omega, by omega⟩ ⟨hG, f, 0, rfl, ⟨by decide, by decide⟩⟩
    · skip
      refine x_A k21_8 (fun _ => rfl) ?_
      refine x_A k21_9 (fun _ => rfl) ?_
      refine x_callS k21_10 (y := 19) (n := 2) (w0 := 0) (w1 := 2) (as := [vi x1, vi x2]) (rest := []) (by decide +kernel) rfl rfl rfl rfl (xe_mono (C_X1_hasKey s hG x1 (by first | exact x_rb b_x1 rfl rfl | exact ⟨by omega, by omega⟩) x2 (by first | exact x_rb b_x2 rfl rfl | exact ⟨by omega, by omega⟩)) ?_)
      rintro s52 v ⟨-, t_s52, z51, rfl, g_z51⟩
      rw [t_s52.nil]
      show xe none 21 13 [(0, .ref 209), (1, vi x1), (2, vi x2)] [vi z51] s 0 0 _
      refine x_if_eq k21_13 (t := 29) rfl (by first | exact x_rbe e_z51 g_z51 rfl rfl | exact x_rb g_z51 rfl rfl | exact ⟨by omega, by omega⟩) (fun c53 => ?_) (fun c53 => ?_)
      · skip
        refine x_iinc k21_29 (ls' := [(2, vi (x2 + 1)), (0, .ref 209), (1, vi x1)]) rfl (by decide) rfl ?_
        refine x_goto k21_32 (t := 2) rfl ?_
        refine x_ls (l := [(0, .ref 209), (1, vi x1), (2, vi (x2 + 1))]) (show ([0, 1, 2] : List Nat).Nodup from by decide +kernel) ⟨rfl, rfl, rfl, trivial⟩ ?_
        exact ih s x1 (x2 + 1) hG f (by first | exact x_rb b_x1 rfl rfl | exact ⟨by omega, by omega⟩) ⟨by omega, by omega⟩  (by omega)
      · skip
        refine x_A k21_16 (fun _ => rfl) ?_
        refine x_getR k21_17 (f := 3) rfl (q := 209) (n := 8) (kd := 9) ⟨by decide, rfl⟩ (q2 := 212) (by decide) rfl ?_
        refine x_A k21_20 (fun _ => rfl) ?_
        refine x_iald k21_21 (q := 212) (n := 6) ⟨by decide, rfl⟩ (by decide) (by first | exact x_rbl b_x2 rfl rfl | exact ⟨by omega, by omega⟩) ?_
        refine x_top (fun z54 e_z54 => ?_)
        have g_z54 : (-2147483648) ≤ s 212 x2.toNat ∧ s 212 x2.toNat ≤ 2147483647 := hG 212 x2.toNat
        refine x_A k21_22 (fun _ => rfl) ?_
        refine x_iand_any k21_23 (fun z55 g_z55 => ?_)
        unfold in32 at g_z55
        refine x_if_eq k21_24 (t := 29) rfl (by first | exact x_rbe e_z55 g_z55 rfl rfl | exact x_rb g_z55 rfl rfl | exact ⟨by omega, by omega⟩) (fun c56 => ?_) (fun c56 => ?_)
        · skip
          refine x_iinc k21_29 (ls' := [(2, vi (x2 + 1)), (0, .ref 209), (1, vi x1)]) rfl (by decide) rfl ?_
          refine x_goto k21_32 (t := 2) rfl ?_
          refine x_ls (l := [(0, .ref 209), (1, vi x1), (2, vi (x2 + 1))]) (show ([0, 1, 2] : List Nat).Nodup from by decide +kernel) ⟨rfl, rfl, rfl, trivial⟩ ?_
          exact ih s x1 (x2 + 1) hG f (by first | exact x_rb b_x1 rfl rfl | exact ⟨by omega, by omega⟩) ⟨by omega, by omega⟩  (by omega)
        · skip
          refine x_A k21_27 (fun _ => rfl) ?_
          exact x_zret k21_28 rfl ⟨by omega, by omega⟩ ⟨hG, f, 1, rfl, ⟨by decide, by decide⟩⟩
theorem C_X1_barsTwo_209 (s0 : xS) (hG0 : GI s0) (a : Int) (b_a : (-2147483648) ≤ a ∧ a ≤ 2147483647) : xe none 21 0 (lv_args 0 [.ref 209, vi a]) [] s0 0 0 (fun s' v => GI s' ∧ FL [] s0 s' ∧ ∃ z, v = some (vi z) ∧ (0 ≤ z ∧ z ≤ 1)) := by
  have f0 : FL [] s0 s0 := FL.rf
  show xe none 21 0 [(0, .ref 209), (1, vi a)] [] s0 0 0 _
  refine x_A k21_0 (fun _ => rfl) ?_
  refine x_istore_n k21_1 (ls' := [(2, vi 0), (0, .ref 209), (1, vi a)]) (by decide) rfl ?_
  refine x_ls (l := [(0, .ref 209), (1, vi a), (2, vi 0)]) (show ([0, 1, 2] : List Nat).Nodup from by decide +kernel) ⟨rfl, rfl, rfl, trivial⟩ ?_
  exact L_C_X1_barsTwo_209_2 s0   (((6 - 0) + 1 : Int)).toNat s0 a 0 hG0 f0 (by first | exact x_rb b_a rfl rfl | exact ⟨by omega, by omega⟩) ⟨by decide, by decide⟩  (by omega)
theorem L_C_X1_countSense_209_5 (s0 : xS)   : ∀ (n : Nat) (s : xS) (x1 : Int) (x2 : Int) (x3 : Int) (x4 : Int) (hG : GI s) (f : FL [] s0 s) (b_x1 : (-2147483648) ≤ x1 ∧ x1 ≤ 2147483647) (b_x2 : (-2147483648) ≤ x2 ∧ x2 ≤ 2147483647) (b_x3 : 0 ≤ x3 ∧ x3 ≤ 7) (b_x4 : 0 ≤ x4 ∧ x4 ≤ 6) (r_3_4 : x3 ≤ x4 + 0)  (hm : (6 - x4) < (n : Int)), xe none 22 5 [(0, .ref 209), (1, vi x1), (2, vi x2), (3, vi x3), (4, vi x4)] [] s 0 0 (fun s' v => GI s' ∧ FL [] s0 s' ∧ ∃ z, v = some (vi z) ∧ (0 ≤ z ∧ z ≤ 6)) := by
  intro n
  induction n with
  | zero => intro s x1 x2 x3 x4 hG f b_x1 b_x2 b_x3 b_x4 r_3_4  hm; exfalso; omega
  | succ n ih =>
    intro s x1 x2 x3 x4 hG f b_x1 b_x2 b_x3 b_x4 r_3_4  hm
    refine x_A k22_5 (fun _ => rfl) ?_
    refine x_bipush k22_7 (by decide +kernel) ?_
    refine x_ic_ge k22_9 (t := 41) rfl (by first | exact x_rb b_x4 rfl rfl | exact ⟨by omega, by omega⟩) ⟨by decide, by decide⟩ (fun c49 => ?_) (fun c49 => ?_)
    · skip
      refine x_A k22_41 (fun _ => rfl) ?_
      exact x_iret k22_42 rfl ⟨hG, f, x3, rfl, (by first | exact x_rb b_x3 rfl rfl | exact ⟨by omega, by omega⟩)⟩
    · skip
      refine x_A k22_12 (fun _ => rfl) ?_
      refine x_A k22_13 (fun _ => rfl) ?_
      refine x_callS k22_15 (y := 19) (n := 2) (w0 := 0) (w1 := 2) (as := [vi x1, vi x4]) (rest := []) (by decide +kernel) rfl rfl rfl rfl (xe_mono (C_X1_hasKey s hG x1 (by first | exact x_rb b_x1 rfl rfl | exact ⟨by omega, by omega⟩) x4 (by first | exact x_rb b_x4 rfl rfl | exact ⟨by omega, by omega⟩)) ?_)
      rintro s51 v ⟨-, t_s51, z50, rfl, g_z50⟩
      rw [t_s51.nil]
      show xe none 22 18 [(0, .ref 209), (1, vi x1), (2, vi x2), (3, vi x3), (4, vi x4)] [vi z50] s 0 0 _
      refine x_if_eq k22_18 (t := 35) rfl (by first | exact x_rbe e_z50 g_z50 rfl rfl | exact x_rb g_z50 rfl rfl | exact ⟨by omega, by omega⟩) (fun c52 => ?_) (fun c52 => ?_)
      · skip
        refine x_iinc k22_35 (ls' := [(4, vi (x4 + 1)), (0, .ref 209), (1, vi x1), (2, vi x2), (3, vi x3)]) rfl (by decide) rfl ?_
        refine x_goto k22_38 (t := 5) rfl ?_
        refine x_ls (l := [(0, .ref 209), (1, vi x1), (2, vi x2), (3, vi x3), (4, vi (x4 + 1))]) (show ([0, 1, 2, 3, 4] : List Nat).Nodup from by decide +kernel) ⟨rfl, rfl, rfl, rfl, rfl, trivial⟩ ?_
        exact ih s x1 x2 x3 (x4 + 1) hG f (by first | exact x_rb b_x1 rfl rfl | exact ⟨by omega, by omega⟩) (by first | exact x_rb b_x2 rfl rfl | exact ⟨by omega, by omega⟩) (by first | exact x_rb b_x3 rfl rfl | exact ⟨by omega, by omega⟩) ⟨by omega, by omega⟩ (by omega)  (by omega)
      · skip
        refine x_A k22_21 (fun _ => rfl) ?_
        refine x_getR k22_22 (f := 1) rfl (q := 209) (n := 8) (kd := 9) ⟨by decide, rfl⟩ (q2 := 210) (by decide) rfl ?_
        refine x_A k22_25 (fun _ => rfl) ?_
        refine x_iald k22_27 (q := 210) (n := 6) ⟨by decide, rfl⟩ (by decide) (by first | exact x_rbl b_x4 rfl rfl | exact ⟨by omega, by omega⟩) ?_
        refine x_top (fun z53 e_z53 => ?_)
        have g_z53 : (-2147483648) ≤ s 210 x4.toNat ∧ s 210 x4.toNat ≤ 2147483647 := hG 210 x4.toNat
        refine x_A k22_28 (fun _ => rfl) ?_
        refine x_ic_ne k22_29 (t := 35) rfl (by first | exact x_rbe e_z53 g_z53 rfl rfl | exact x_rb g_z53 rfl rfl | exact ⟨by omega, by omega⟩) (by first | exact x_rb b_x2 rfl rfl | exact ⟨by omega, by omega⟩) (fun c54 => ?_) (fun c54 => ?_)
        · skip
          refine x_iinc k22_35 (ls' := [(4, vi (x4 + 1)), (0, .ref 209), (1, vi x1), (2, vi x2), (3, vi x3)]) rfl (by decide) rfl ?_
          refine x_goto k22_38 (t := 5) rfl ?_
          refine x_ls (l := [(0, .ref 209), (1, vi x1), (2, vi x2), (3, vi x3), (4, vi (x4 + 1))]) (show ([0, 1, 2, 3, 4] : List Nat).Nodup from by decide +kernel) ⟨rfl, rfl, rfl, rfl, rfl, trivial⟩ ?_
          exact ih s x1 x2 x3 (x4 + 1) hG f (by first | exact x_rb b_x1 rfl rfl | exact ⟨by omega, by omega⟩) (by first | exact x_rb b_x2 rfl rfl | exact ⟨by omega, by omega⟩) (by first | exact x_rb b_x3 rfl rfl | exact ⟨by omega, by omega⟩) ⟨by omega, by omega⟩ (by omega)  (by omega)
        · skip
          refine x_iinc k22_32 (ls' := [(3, vi (x3 + 1)), (0, .ref 209), (1, vi x1), (2, vi x2), (4, vi x4)]) rfl (by decide) rfl ?_
          refine x_iinc k22_35 (ls' := [(4, vi (x4 + 1)), (3, vi (x3 + 1)), (0, .ref 209), (1, vi x1), (2, vi x2)]) rfl (by decide) rfl ?_
          refine x_goto k22_38 (t := 5) rfl ?_
          refine x_ls (l := [(0, .ref 209), (1, vi x1), (2, vi x2), (3, vi (x3 + 1)), (4, vi (x4 + 1))]) (show ([0, 1, 2, 3, 4] : List Nat).Nodup from by decide +kernel) ⟨rfl, rfl, rfl, rfl, rfl, trivial⟩ ?_
          exact ih s x1 x2 (x3 + 1) (x4 + 1) hG f (by first | exact x_rb b_x1 rfl rfl | exact ⟨by omega, by omega⟩) (by first | exact x_rb b_x2 rfl rfl | exact ⟨by omega, by omega⟩) ⟨by omega, by omega⟩ ⟨by omega, by omega⟩ (by omega)  (by omega)
theorem C_X1_countSense_209 (s0 : xS) (hG0 : GI s0) (a : Int) (b_a : (-2147483648) ≤ a ∧ a ≤ 2147483647) (b : Int) (b_b : (-2147483648) ≤ b ∧ b ≤ 2147483647) : xe none 22 0 (lv_args 0 [.ref 209, vi a, vi b]) [] s0 0 0 (fun s' v => GI s' ∧ FL [] s0 s' ∧ ∃ z, v = some (vi z) ∧ (0 ≤ z ∧ z ≤ 6)) := by
  have f0 : FL [] s0 s0 := FL.rf
  show xe none 22 0 [(0, .ref 209), (1, vi a), (2, vi b)] [] s0 0 0 _
  refine x_A k22_0 (fun _ => rfl) ?_
  refine x_istore_n k22_1 (ls' := [(3, vi 0), (0, .ref 209), (1, vi a), (2, vi b)]) (by decide) rfl ?_
  refine x_A k22_2 (fun _ => rfl) ?_
  refine x_istore k22_3 (ls' := [(4, vi 0), (3, vi 0), (0, .ref 209), (1, vi a), (2, vi b)]) (by decide) rfl ?_
  refine x_ls (l := [(0, .ref 209), (1, vi a), (2, vi b), (3, vi 0), (4, vi 0)]) (show ([0, 1, 2, 3, 4] : List Nat).Nodup from by decide +kernel) ⟨rfl, rfl, rfl, rfl, rfl, trivial⟩ ?_
  exact L_C_X1_countSense_209_5 s0   (((6 - 0) + 1 : Int)).toNat s0 a b 0 0 hG0 f0 (by first | exact x_rb b_a rfl rfl | exact ⟨by omega, by omega⟩) (by first | exact x_rb b_b rfl rfl | exact ⟨by omega, by omega⟩) ⟨by decide, by decide⟩ ⟨by decide, by decide⟩ (by omega)  (by omega)
theorem L_C_X1_disallows_244_3 (s0 : xS)   : ∀ (n : Nat) (s : xS) (x1 : Int) (x2 : Int) (x4 : Int) (hG : GI s) (f : FL [] s0 s) (b_x1 : (-2147483648) ≤ x1 ∧ x1 ≤ 2147483647) (b_x2 : in64 x2) (b_x4 : 0 ≤ x4 ∧ x4 ≤ 6)  (hm : (6 - x4) < (n : Int)), xe none 20 3 [(0, .ref 244), (1, vi x1), (2, vj x2), (4, vi x4)] [] s 0 0 (fun s' v => GI s' ∧ FL [] s0 s' ∧ ∃ z, v = some (vi z) ∧ (0 ≤ z ∧ z ≤ 1)) := by
  intro n
  induction n with
  | zero => intro s x1 x2 x4 hG f b_x1 b_x2 b_x4  hm; exfalso; omega
  | succ n ih =>
    intro s x1 x2 x4 hG f b_x1 b_x2 b_x4  hm
    refine x_A k20_3 (fun _ => rfl) ?_
    refine x_bipush k20_5 (by decide +kernel) ?_
    refine x_ic_ge k20_7 (t := 53) rfl (by first | exact x_rb b_x4 rfl rfl | exact ⟨by omega, by omega⟩) ⟨by decide, by decide⟩ (fun c64 => ?_) (fun c64 => ?_)
    · skip
      refine x_A k20_53 (fun _ => rfl) ?_
      exact x_zret k20_54 rfl ⟨by omega, by omega⟩ ⟨hG, f, 0, rfl, ⟨by decide, by decide⟩⟩
    · skip
      refine x_A k20_10 (fun _ => rfl) ?_
      refine x_A k20_11 (fun _ => rfl) ?_
      refine x_callS k20_13 (y := 19) (n := 2) (w0 := 0) (w1 := 2) (as := [vi x1, vi x4]) (rest := []) (by decide +kernel) rfl rfl rfl rfl (xe_mono (C_X1_hasKey s hG x1 (by first | exact x_rb b_x1 rfl rfl | exact ⟨by omega, by omega⟩) x4 (by first | exact x_rb b_x4 rfl rfl | exact ⟨by omega, by omega⟩)) ?_)
      rintro s66 v ⟨-, t_s66, z65, rfl, g_z65⟩
      rw [t_s66.nil]
      show xe none 20 16 [(0, .ref 244), (1, vi x1), (2, vj x2), (4, vi x4)] [vi z65] s 0 0 _
      refine x_if_eq k20_16 (t := 47) rfl (by first | exact x_rbe e_z65 g_z65 rfl rfl | exact x_rb g_z65 rfl rfl | exact ⟨by omega, by omega⟩) (fun c67 => ?_) (fun c67 => ?_)
      · skip
        refine x_iinc k20_47 (ls' := [(4, vi (x4 + 1)), (0, .ref 244), (1, vi x1), (2, vj x2)]) rfl (by decide) rfl ?_
        refine x_goto k20_50 (t := 3) rfl ?_
        refine x_ls (l := [(0, .ref 244), (1, vi x1), (2, vj x2), (4, vi (x4 + 1))]) (show ([0, 1, 2, 4] : List Nat).Nodup from by decide +kernel) ⟨rfl, rfl, rfl, rfl, trivial⟩ ?_
        exact ih s x1 x2 (x4 + 1) hG f (by first | exact x_rb b_x1 rfl rfl | exact ⟨by omega, by omega⟩) b_x2 ⟨by omega, by omega⟩  (by omega)
      · skip
        refine x_A k20_19 (fun _ => rfl) ?_
        refine x_getR k20_20 (f := 2) rfl (q := 244) (n := 8) (kd := 14) ⟨by decide, rfl⟩ (q2 := 246) (by decide) rfl ?_
        refine x_A k20_23 (fun _ => rfl) ?_
        refine x_lald k20_25 (q := 246) (n := 6) ⟨by decide, rfl⟩ (by decide) (by first | exact x_rbl b_x4 rfl rfl | exact ⟨by omega, by omega⟩) ?_
        refine x_topL (fun z68 e_z68 => ?_)
        have b_z68 : in64 z68 := by rw [e_z68]; exact hG 246 x4.toNat
        refine x_lconst k20_26 (z := 0) (by decide +kernel) ?_
        refine x_lc_eq k20_27 k20_28 (t := 47) rfl b_z68 ⟨by omega, by omega⟩ (fun c69 => ?_) (fun c69 => ?_)
        · skip
          refine x_iinc k20_47 (ls' := [(4, vi (x4 + 1)), (0, .ref 244), (1, vi x1), (2, vj x2)]) rfl (by decide) rfl ?_
          refine x_goto k20_50 (t := 3) rfl ?_
          refine x_ls (l := [(0, .ref 244), (1, vi x1), (2, vj x2), (4, vi (x4 + 1))]) (show ([0, 1, 2, 4] : List Nat).Nodup from by decide +kernel) ⟨rfl, rfl, rfl, rfl, trivial⟩ ?_
          exact ih s x1 x2 (x4 + 1) hG f (by first | exact x_rb b_x1 rfl rfl | exact ⟨by omega, by omega⟩) b_x2 ⟨by omega, by omega⟩  (by omega)
        · skip
          refine x_A k20_31 (fun _ => rfl) ?_
          refine x_getR k20_32 (f := 2) rfl (q := 244) (n := 8) (kd := 14) ⟨by decide, rfl⟩ (q2 := 246) (by decide) rfl ?_
          refine x_A k20_35 (fun _ => rfl) ?_
          refine x_lald k20_37 (q := 246) (n := 6) ⟨by decide, rfl⟩ (by decide) (by first | exact x_rbl b_x4 rfl rfl | exact ⟨by omega, by omega⟩) ?_
          refine x_topL (fun z70 e_z70 => ?_)
          have b_z70 : in64 z70 := by rw [e_z70]; exact hG 246 x4.toNat
          refine x_A k20_38 (fun _ => rfl) ?_
          refine x_land_any k20_39 (fun z71 b_z71 => ?_)
          refine x_lconst k20_40 (z := 0) (by decide +kernel) ?_
          refine x_lc_ne k20_41 k20_42 (t := 47) rfl b_z71 ⟨by omega, by omega⟩ (fun c72 => ?_) (fun c72 => ?_)
          · skip
            refine x_iinc k20_47 (ls' := [(4, vi (x4 + 1)), (0, .ref 244), (1, vi x1), (2, vj x2)]) rfl (by decide) rfl ?_
            refine x_goto k20_50 (t := 3) rfl ?_
            refine x_ls (l := [(0, .ref 244), (1, vi x1), (2, vj x2), (4, vi (x4 + 1))]) (show ([0, 1, 2, 4] : List Nat).Nodup from by decide +kernel) ⟨rfl, rfl, rfl, rfl, trivial⟩ ?_
            exact ih s x1 x2 (x4 + 1) hG f (by first | exact x_rb b_x1 rfl rfl | exact ⟨by omega, by omega⟩) b_x2 ⟨by omega, by omega⟩  (by omega)
          · skip
            refine x_A k20_45 (fun _ => rfl) ?_
            exact x_zret k20_46 rfl ⟨by omega, by omega⟩ ⟨hG, f, 1, rfl, ⟨by decide, by decide⟩⟩
theorem C_X1_disallows_244 (s0 : xS) (hG0 : GI s0) (a : Int) (b_a : (-2147483648) ≤ a ∧ a ≤ 2147483647) (b : Int) (b_b : in64 b) : xe none 20 0 (lv_args 0 [.ref 244, vi a, vj b]) [] s0 0 0 (fun s' v => GI s' ∧ FL [] s0 s' ∧ ∃ z, v = some (vi z) ∧ (0 ≤ z ∧ z ≤ 1)) := by
  have f0 : FL [] s0 s0 := FL.rf
  show xe none 20 0 [(0, .ref 244), (1, vi a), (2, vj b)] [] s0 0 0 _
  refine x_A k20_0 (fun _ => rfl) ?_
  refine x_istore k20_1 (ls' := [(4, vi 0), (0, .ref 244), (1, vi a), (2, vj b)]) (by decide) rfl ?_
  refine x_ls (l := [(0, .ref 244), (1, vi a), (2, vj b), (4, vi 0)]) (show ([0, 1, 2, 4] : List Nat).Nodup from by decide +kernel) ⟨rfl, rfl, rfl, rfl, trivial⟩ ?_
  exact L_C_X1_disallows_244_3 s0   (((6 - 0) + 1 : Int)).toNat s0 a b 0 hG0 f0 (by first | exact x_rb b_a rfl rfl | exact ⟨by omega, by omega⟩) b_b ⟨by decide, by decide⟩  (by omega)
theorem L_C_X1_barsTwo_244_2 (s0 : xS)   : ∀ (n : Nat) (s : xS) (x1 : Int) (x2 : Int) (hG : GI s) (f : FL [] s0 s) (b_x1 : (-2147483648) ≤ x1 ∧ x1 ≤ 2147483647) (b_x2 : 0 ≤ x2 ∧ x2 ≤ 6)  (hm : (6 - x2) < (n : Int)), xe none 21 2 [(0, .ref 244), (1, vi x1), (2, vi x2)] [] s 0 0 (fun s' v => GI s' ∧ FL [] s0 s' ∧ ∃ z, v = some (vi z) ∧ (0 ≤ z ∧ z ≤ 1)) := by
  intro n
  induction n with
  | zero => intro s x1 x2 hG f b_x1 b_x2  hm; exfalso; omega
  | succ n ih =>
    intro s x1 x2 hG f b_x1 b_x2  hm
    refine x_A k21_2 (fun _ => rfl) ?_
    refine x_bipush k21_3 (by decide +kernel) ?_
    refine x_ic_ge k21_5 (t := 35) rfl (by first | exact x_rb b_x2 rfl rfl | exact ⟨by omega, by omega⟩) ⟨by decide, by decide⟩ (fun c50 => ?_) (fun c50 => ?_)
    · skip
      refine x_A k21_35 (fun _ => rfl) ?_
      exact x_zret k21_36 rfl ⟨by omega, by omega⟩ ⟨hG, f, 0, rfl, ⟨by decide, by decide⟩⟩
    · skip
      refine x_A k21_8 (fun _ => rfl) ?_
      refine x_A k21_9 (fun _ => rfl) ?_
      refine x_callS k21_10 (y := 19) (n := 2) (w0 := 0) (w1 := 2) (as := [vi x1, vi x2]) (rest := []) (by decide +kernel) rfl rfl rfl rfl (xe_mono (C_X1_hasKey s hG x1 (by first | exact x_rb b_x1 rfl rfl | exact ⟨by omega, by omega⟩) x2 (by first | exact x_rb b_x2 rfl rfl | exact ⟨by omega, by omega⟩)) ?_)
      rintro s52 v ⟨-, t_s52, z51, rfl, g_z51⟩
      rw [t_s52.nil]
      show xe none 21 13 [(0, .ref 244), (1, vi x1), (2, vi x2)] [vi z51] s 0 0 _
      refine x_if_eq k21_13 (t := 29) rfl (by first | exact x_rbe e_z51 g_z51 rfl rfl | exact x_rb g_z51 rfl rfl | exact ⟨by omega, by omega⟩) (fun c53 => ?_) (fun c53 => ?_)
      · skip
        refine x_iinc k21_29 (ls' := [(2, vi (x2 + 1)), (0, .ref 244), (1, vi x1)]) rfl (by decide) rfl ?_
        refine x_goto k21_32 (t := 2) rfl ?_
        refine x_ls (l := [(0, .ref 244), (1, vi x1), (2, vi (x2 + 1))]) (show ([0, 1, 2] : List Nat).Nodup from by decide +kernel) ⟨rfl, rfl, rfl, trivial⟩ ?_
        exact ih s x1 (x2 + 1) hG f (by first | exact x_rb b_x1 rfl rfl | exact ⟨by omega, by omega⟩) ⟨by omega, by omega⟩  (by omega)
      · skip
        refine x_A k21_16 (fun _ => rfl) ?_
        refine x_getR k21_17 (f := 3) rfl (q := 244) (n := 8) (kd := 14) ⟨by decide, rfl⟩ (q2 := 247) (by decide) rfl ?_
        refine x_A k21_20 (fun _ => rfl) ?_
        refine x_iald k21_21 (q := 247) (n := 6) ⟨by decide, rfl⟩ (by decide) (by first | exact x_rbl b_x2 rfl rfl | exact ⟨by omega, by omega⟩) ?_
        refine x_top (fun z54 e_z54 => ?_)
        have g_z54 : (-2147483648) ≤ s 247 x2.toNat ∧ s 247 x2.toNat ≤ 2147483647 := hG 247 x2.toNat
        refine x_A k21_22 (fun _ => rfl) ?_
        refine x_iand_any k21_23 (fun z55 g_z55 => ?_)
        unfold in32 at g_z55
        refine x_if_eq k21_24 (t := 29) rfl (by first | exact x_rbe e_z55 g_z55 rfl rfl | exact x_rb g_z55 rfl rfl | exact ⟨by omega, by omega⟩) (fun c56 => ?_) (fun c56 => ?_)
        · skip
          refine x_iinc k21_29 (ls' := [(2, vi (x2 + 1)), (0, .ref 244), (1, vi x1)]) rfl (by decide) rfl ?_
          refine x_goto k21_32 (t := 2) rfl ?_
          refine x_ls (l := [(0, .ref 244), (1, vi x1), (2, vi (x2 + 1))]) (show ([0, 1, 2] : List Nat).Nodup from by decide +kernel) ⟨rfl, rfl, rfl, trivial⟩ ?_
          exact ih s x1 (x2 + 1) hG f (by first | exact x_rb b_x1 rfl rfl | exact ⟨by omega, by omega⟩) ⟨by omega, by omega⟩  (by omega)
        · skip
          refine x_A k21_27 (fun _ => rfl) ?_
          exact x_zret k21_28 rfl ⟨by omega, by omega⟩ ⟨hG, f, 1, rfl, ⟨by decide, by decide⟩⟩
theorem C_X1_barsTwo_244 (s0 : xS) (hG0 : GI s0) (a : Int) (b_a : (-2147483648) ≤ a ∧ a ≤ 2147483647) : xe none 21 0 (lv_args 0 [.ref 244, vi a]) [] s0 0 0 (fun s' v => GI s' ∧ FL [] s0 s' ∧ ∃ z, v = some (vi z) ∧ (0 ≤ z ∧ z ≤ 1)) := by
  have f0 : FL [] s0 s0 := FL.rf
  show xe none 21 0 [(0, .ref 244), (1, vi a)] [] s0 0 0 _
  refine x_A k21_0 (fun _ => rfl) ?_
  refine x_istore_n k21_1 (ls' := [(2, vi 0), (0, .ref 244), (1, vi a)]) (by decide) rfl ?_
  refine x_ls (l := [(0, .ref 244), (1, vi a), (2, vi 0)]) (show ([0, 1, 2] : List Nat).Nodup from by decide +kernel) ⟨rfl, rfl, rfl, trivial⟩ ?_
  exact L_C_X1_barsTwo_244_2 s0   (((6 - 0) + 1 : Int)).toNat s0 a 0 hG0 f0 (by first | exact x_rb b_a rfl rfl | exact ⟨by omega, by omega⟩) ⟨by decide, by decide⟩  (by omega)
theorem L_C_X1_countSense_244_5 (s0 : xS)   : ∀ (n : Nat) (s : xS) (x1 : Int) (x2 : Int) (x3 : Int) (x4 : Int) (hG : GI s) (f : FL [] s0 s) (b_x1 : (-2147483648) ≤ x1 ∧ x1 ≤ 2147483647) (b_x2 : (-2147483648) ≤ x2 ∧ x2 ≤ 2147483647) (b_x3 : 0 ≤ x3 ∧ x3 ≤ 7) (b_x4 : 0 ≤ x4 ∧ x4 ≤ 6) (r_3_4 : x3 ≤ x4 + 0)  (hm : (6 - x4) < (n : Int)), xe none 22 5 [(0, .ref 244), (1, vi x1), (2, vi x2), (3, vi x3), (4, vi x4)] [] s 0 0 (fun s' v => GI s' ∧ FL [] s0 s' ∧ ∃ z, v = some (vi z) ∧ (0 ≤ z ∧ z ≤ 6)) := by
  intro n
  induction n with
  | zero => intro s x1 x2 x3 x4 hG f b_x1 b_x2 b_x3 b_x4 r_3_4  hm; exfalso; omega
  | succ n ih =>
    intro s x1 x2 x3 x4 hG f b_x1 b_x2 b_x3 b_x4 r_3_4  hm
    refine x_A k22_5 (fun _ => rfl) ?_
    refine x_bipush k22_7 (by decide +kernel) ?_
    refine x_ic_ge k22_9 (t := 41) rfl (by first | exact x_rb b_x4 rfl rfl | exact ⟨by omega, by omega⟩) ⟨by decide, by decide⟩ (fun c49 => ?_) (fun c49 => ?_)
    · skip
      refine x_A k22_41 (fun _ => rfl) ?_
      exact x_iret k22_42 rfl ⟨hG, f, x3, rfl, (by first | exact x_rb b_x3 rfl rfl | exact ⟨by omega, by omega⟩)⟩
    · skip
      refine x_A k22_12 (fun _ => rfl) ?_
      refine x_A k22_13 (fun _ => rfl) ?_
      refine x_callS k22_15 (y := 19) (n := 2) (w0 := 0) (w1 := 2) (as := [vi x1, vi x4]) (rest := []) (by decide +kernel) rfl rfl rfl rfl (xe_mono (C_X1_hasKey s hG x1 (by first | exact x_rb b_x1 rfl rfl | exact ⟨by omega, by omega⟩) x4 (by first | exact x_rb b_x4 rfl rfl | exact ⟨by omega, by omega⟩)) ?_)
      rintro s51 v ⟨-, t_s51, z50, rfl, g_z50⟩
      rw [t_s51.nil]
      show xe none 22 18 [(0, .ref 244), (1, vi x1), (2, vi x2), (3, vi x3), (4, vi x4)] [vi z50] s 0 0 _
      refine x_if_eq k22_18 (t := 35) rfl (by first | exact x_rbe e_z50 g_z50 rfl rfl | exact x_rb g_z50 rfl rfl | exact ⟨by omega, by omega⟩) (fun c52 => ?_) (fun c52 => ?_)
      · skip
        refine x_iinc k22_35 (ls' := [(4, vi (x4 + 1)), (0, .ref 244), (1, vi x1), (2, vi x2), (3, vi x3)]) rfl (by decide) rfl ?_
        refine x_goto k22_38 (t := 5) rfl ?_
        refine x_ls (l := [(0, .ref 244), (1, vi x1), (2, vi x2), (3, vi x3), (4, vi (x4 + 1))]) (show ([0, 1, 2, 3, 4] : List Nat).Nodup from by decide +kernel) ⟨rfl, rfl, rfl, rfl, rfl, trivial⟩ ?_
        exact ih s x1 x2 x3 (x4 + 1) hG f (by first | exact x_rb b_x1 rfl rfl | exact ⟨by omega, by omega⟩) (by first | exact x_rb b_x2 rfl rfl | exact ⟨by omega, by omega⟩) (by first | exact x_rb b_x3 rfl rfl | exact ⟨by omega, by omega⟩) ⟨by omega, by omega⟩ (by omega)  (by omega)
      · skip
        refine x_A k22_21 (fun _ => rfl) ?_
        refine x_getR k22_22 (f := 1) rfl (q := 244) (n := 8) (kd := 14) ⟨by decide, rfl⟩ (q2 := 245) (by decide) rfl ?_
        refine x_A k22_25 (fun _ => rfl) ?_
        refine x_iald k22_27 (q := 245) (n := 6) ⟨by decide, rfl⟩ (by decide) (by first | exact x_rbl b_x4 rfl rfl | exact ⟨by omega, by omega⟩) ?_
        refine x_top (fun z53 e_z53 => ?_)
        have g_z53 : (-2147483648) ≤ s 245 x4.toNat ∧ s 245 x4.toNat ≤ 2147483647 := hG 245 x4.toNat
        refine x_A k22_28 (fun _ => rfl) ?_
        refine x_ic_ne k22_29 (t := 35) rfl (by first | exact x_rbe e_z53 g_z53 rfl rfl | exact x_rb g_z53 rfl rfl | exact ⟨by omega, by omega⟩) (by first | exact x_rb b_x2 rfl rfl | exact ⟨by omega, by omega⟩) (fun c54 => ?_) (fun c54 => ?_)
        · skip
          refine x_iinc k22_35 (ls' := [(4, vi (x4 + 1)), (0, .ref 244), (1, vi x1), (2, vi x2), (3, vi x3)]) rfl (by decide) rfl ?_
          refine x_goto k22_38 (t := 5) rfl ?_
          refine x_ls (l := [(0, .ref 244), (1, vi x1), (2, vi x2), (3, vi x3), (4, vi (x4 + 1))]) (show ([0, 1, 2, 3, 4] : List Nat).Nodup from by decide +kernel) ⟨rfl, rfl, rfl, rfl, rfl, trivial⟩ ?_
          exact ih s x1 x2 x3 (x4 + 1) hG f (by first | exact x_rb b_x1 rfl rfl | exact ⟨by omega, by omega⟩) (by first | exact x_rb b_x2 rfl rfl | exact ⟨by omega, by omega⟩) (by first | exact x_rb b_x3 rfl rfl | exact ⟨by omega, by omega⟩) ⟨by omega, by omega⟩ (by omega)  (by omega)
        · skip
          refine x_iinc k22_32 (ls' := [(3, vi (x3 + 1)), (0, .ref 244), (1, vi x1), (2, vi x2), (4, vi x4)]) rfl (by decide) rfl ?_
          refine x_iinc k22_35 (ls' := [(4, vi (x4 + 1)), (3, vi (x3 + 1)), (0, .ref 244), (1, vi x1), (2, vi x2)]) rfl (by decide) rfl ?_
          refine x_goto k22_38 (t := 5) rfl ?_
          refine x_ls (l := [(0, .ref 244), (1, vi x1), (2, vi x2), (3, vi (x3 + 1)), (4, vi (x4 + 1))]) (show ([0, 1, 2, 3, 4] : List Nat).Nodup from by decide +kernel) ⟨rfl, rfl, rfl, rfl, rfl, trivial⟩ ?_
          exact ih s x1 x2 (x3 + 1) (x4 + 1) hG f (by first | exact x_rb b_x1 rfl rfl | exact ⟨by omega, by omega⟩) (by first | exact x_rb b_x2 rfl rfl | exact ⟨by omega, by omega⟩) ⟨by omega, by omega⟩ ⟨by omega, by omega⟩ (by omega)  (by omega)
theorem C_X1_countSense_244 (s0 : xS) (hG0 : GI s0) (a : Int) (b_a : (-2147483648) ≤ a ∧ a ≤ 2147483647) (b : Int) (b_b : (-2147483648) ≤ b ∧ b ≤ 2147483647) : xe none 22 0 (lv_args 0 [.ref 244, vi a, vi b]) [] s0 0 0 (fun s' v => GI s' ∧ FL [] s0 s' ∧ ∃ z, v = some (vi z) ∧ (0 ≤ z ∧ z ≤ 6)) := by
  have f0 : FL [] s0 s0 := FL.rf
  show xe none 22 0 [(0, .ref 244), (1, vi a), (2, vi b)] [] s0 0 0 _
  refine x_A k22_0 (fun _ => rfl) ?_
  refine x_istore_n k22_1 (ls' := [(3, vi 0), (0, .ref 244), (1, vi a), (2, vi b)]) (by decide) rfl ?_
  refine x_A k22_2 (fun _ => rfl) ?_
  refine x_istore k22_3 (ls' := [(4, vi 0), (3, vi 0), (0, .ref 244), (1, vi a), (2, vi b)]) (by decide) rfl ?_
  refine x_ls (l := [(0, .ref 244), (1, vi a), (2, vi b), (3, vi 0), (4, vi 0)]) (show ([0, 1, 2, 3, 4] : List Nat).Nodup from by decide +kernel) ⟨rfl, rfl, rfl, rfl, rfl, trivial⟩ ?_
  exact L_C_X1_countSense_244_5 s0   (((6 - 0) + 1 : Int)).toNat s0 a b 0 0 hG0 f0 (by first | exact x_rb b_a rfl rfl | exact ⟨by omega, by omega⟩) (by first | exact x_rb b_b rfl rfl | exact ⟨by omega, by omega⟩) ⟨by decide, by decide⟩ ⟨by decide, by decide⟩ (by omega)  (by omega)
theorem C_X0_closeBracket_218 (s0 : xS) (hG0 : GI s0)  : xe none 9 0 (lv_args 0 [.ref 218]) [] s0 0 0 (fun s' v => GI s' ∧ FL [2501, 2502, 2560, 2688] s0 s' ∧ v = none) := by
  have f0 : FL [2501, 2502, 2560, 2688] s0 s0 := FL.rf
  show xe none 9 0 [(0, .ref 218)] [] s0 0 0 _
  refine x_A k9_0 (fun _ => rfl) ?_
  refine x_bipush k9_1 (by decide +kernel) ?_
  refine x_callV k9_3 (y := 12) (n := 1) (w0 := 0) (w1 := 1) (as := [vi 7]) (rest := []) (by decide +kernel) (q := 218) (nq := 7) (kq := 11) ⟨by decide, rfl⟩ rfl rfl rfl rfl (xe_mono (C_X0_releaseDownTo_218 s0 hG0 7 ⟨by decide, by decide⟩) ?_)
  rintro s2 v ⟨hG_s2, t_s2, rfl⟩
  have f_s2 : FL [2501, 2502, 2560, 2688] s0 s2 := f0.tr t_s2 (by decide +kernel)
  show xe none 9 6 [(0, .ref 218)] [] s2 0 0 _
  refine x_A k9_6 (fun _ => rfl) ?_
  refine x_getI k9_7 (f := 4) rfl (q := 218) (n := 7) (kd := 11) ⟨by decide, rfl⟩ (by decide) rfl ?_
  refine x_top (fun z3 e_z3 => ?_)
  have g_z3 : (0 : Int) ≤ s2 218 4 ∧ s2 218 4 ≤ 100 := hG_s2 218 4
  refine x_if_le k9_10 (t := 23) rfl (by first | exact x_rbe e_z3 g_z3 rfl rfl | exact x_rb g_z3 rfl rfl | exact ⟨by omega, by omega⟩) (fun c4 => ?_) (fun c4 => ?_)
  · skip
    refine x_A k9_23 (fun _ => rfl) ?_
    refine x_A k9_24 (fun _ => rfl) ?_
    refine x_getI k9_25 (f := 5) rfl (q := 218) (n := 7) (kd := 11) ⟨by decide, rfl⟩ (by decide) rfl ?_
    refine x_top (fun z5 e_z5 => ?_)
    have g_z5 : (-2147483648) ≤ s2 218 5 ∧ s2 218 5 ≤ 2147483647 := hG_s2 218 5
    refine x_A k9_28 (fun _ => rfl) ?_
    refine x_isub k9_29 ?_
    refine x_topW (fun z6 g_z6 => ?_)
    unfold in32 at g_z6
    refine x_putI k9_30 (f := 5) rfl (q := 218) (n := 7) (kd := 11) ⟨by decide, rfl⟩ rfl rfl rfl ?_
    refine x_nh (fun s7 e_s7 => ?_)
    have hG_s7 : GI s7 := by rw [e_s7]; exact hG_s2.up (show (-2147483648) ≤ z6 ∧ z6 ≤ 2147483647 from (by first | exact x_rbe e_z6 g_z6 rfl rfl | exact x_rb g_z6 rfl rfl | exact ⟨by omega, by omega⟩))
    have f_s7 : FL [2501, 2502, 2560, 2688] s0 s7 := by rw [e_s7]; exact f_s2.up (show 2502 ∈ [2501, 2502, 2560, 2688] from by decide +kernel)
    have q8 : s7 218 4 = z3 := by rw [e_s7, x_up_i (by decide)]; exact e_z3.symm
    have q9 : s7 218 5 = z6 := by rw [e_s7]; exact x_up_same
    exact x_vret k9_33 rfl ⟨hG_s7, f_s7, rfl⟩
  · skip
    refine x_A k9_13 (fun _ => rfl) ?_
    refine x_A k9_14 (fun _ => rfl) ?_
    refine x_getI k9_15 (f := 4) rfl (q := 218) (n := 7) (kd := 11) ⟨by decide, rfl⟩ (by decide) rfl ?_
    rw [e_z3.symm]
    refine x_A k9_18 (fun _ => rfl) ?_
    refine x_isub k9_19 ?_
    refine x_top (fun z10 e_z10 => ?_)
    refine x_putI k9_20 (f := 4) rfl (q := 218) (n := 7) (kd := 11) ⟨by decide, rfl⟩ rfl rfl rfl ?_
    refine x_nh (fun s11 e_s11 => ?_)
    have hG_s11 : GI s11 := by rw [e_s11]; exact hG_s2.up (show 0 ≤ z10 ∧ z10 ≤ 100 from (by first | exact x_rbe e_z10 g_z10 rfl rfl | exact x_rb g_z10 rfl rfl | exact ⟨by omega, by omega⟩))
    have f_s11 : FL [2501, 2502, 2560, 2688] s0 s11 := by rw [e_s11]; exact f_s2.up (show 2501 ∈ [2501, 2502, 2560, 2688] from by decide +kernel)
    have q12 : s11 218 4 = z10 := by rw [e_s11]; exact x_up_same
    refine x_A k9_23 (fun _ => rfl) ?_
    refine x_A k9_24 (fun _ => rfl) ?_
    refine x_getI k9_25 (f := 5) rfl (q := 218) (n := 7) (kd := 11) ⟨by decide, rfl⟩ (by decide) rfl ?_
    refine x_top (fun z13 e_z13 => ?_)
    have g_z13 : (-2147483648) ≤ s11 218 5 ∧ s11 218 5 ≤ 2147483647 := hG_s11 218 5
    refine x_A k9_28 (fun _ => rfl) ?_
    refine x_isub k9_29 ?_
    refine x_topW (fun z14 g_z14 => ?_)
    unfold in32 at g_z14
    refine x_putI k9_30 (f := 5) rfl (q := 218) (n := 7) (kd := 11) ⟨by decide, rfl⟩ rfl rfl rfl ?_
    refine x_nh (fun s15 e_s15 => ?_)
    have hG_s15 : GI s15 := by rw [e_s15]; exact hG_s11.up (show (-2147483648) ≤ z14 ∧ z14 ≤ 2147483647 from (by first | exact x_rbe e_z14 g_z14 rfl rfl | exact x_rb g_z14 rfl rfl | exact ⟨by omega, by omega⟩))
    have f_s15 : FL [2501, 2502, 2560, 2688] s0 s15 := by rw [e_s15]; exact f_s11.up (show 2502 ∈ [2501, 2502, 2560, 2688] from by decide +kernel)
    have q16 : s15 218 4 = z10 := by rw [e_s15, x_up_i (by decide)]; exact q12
    have q17 : s15 218 5 = z14 := by rw [e_s15]; exact x_up_same
    exact x_vret k9_33 rfl ⟨hG_s15, f_s15, rfl⟩
theorem C_X0_joinBy_218 (s0 : xS) (hG0 : GI s0) (a : Int) (b_a : 0 ≤ a ∧ a ≤ 9) : xe none 10 0 (lv_args 0 [.ref 218, vi a]) [] s0 0 0 (fun s' v => GI s' ∧ FL [2501, 2560, 2688, 2816] s0 s' ∧ v = none) := by
  have f0 : FL [2501, 2560, 2688, 2816] s0 s0 := FL.rf
  show xe none 10 0 [(0, .ref 218), (1, vi a)] [] s0 0 0 _
  refine x_A k10_0 (fun _ => rfl) ?_
  refine x_A k10_1 (fun _ => rfl) ?_
  refine x_callV k10_2 (y := 12) (n := 1) (w0 := 0) (w1 := 1) (as := [vi a]) (rest := []) (by decide +kernel) (q := 218) (nq := 7) (kq := 11) ⟨by decide, rfl⟩ rfl rfl rfl rfl (xe_mono (C_X0_releaseDownTo_218 s0 hG0 a (by first | exact x_rb b_a rfl rfl | exact ⟨by omega, by omega⟩)) ?_)
  rintro s2 v ⟨hG_s2, t_s2, rfl⟩
  have f_s2 : FL [2501, 2560, 2688, 2816] s0 s2 := f0.tr t_s2 (by decide +kernel)
  show xe none 10 5 [(0, .ref 218), (1, vi a)] [] s2 0 0 _
  refine x_A k10_5 (fun _ => rfl) ?_
  refine x_A k10_6 (fun _ => rfl) ?_
  refine x_callV k10_7 (y := 11) (n := 1) (w0 := 0) (w1 := 1) (as := [vi a]) (rest := []) (by decide +kernel) (q := 218) (nq := 7) (kq := 11) ⟨by decide, rfl⟩ rfl rfl rfl rfl (xe_mono (C_X0_hold_218 s2 hG_s2 a (by first | exact x_rb b_a rfl rfl | exact ⟨by omega, by omega⟩)) ?_)
  rintro s4 v ⟨hG_s4, t_s4, rfl⟩
  have f_s4 : FL [2501, 2560, 2688, 2816] s0 s4 := f_s2.tr t_s4 (by decide +kernel)
  show xe none 10 10 [(0, .ref 218), (1, vi a)] [] s4 0 0 _
  exact x_vret k10_10 rfl ⟨hG_s4, f_s4, rfl⟩
theorem C_X0_openBracket_218_177 (s0 : xS) (hG0 : GI s0)  : xe none 4 0 (lv_args 0 [.ref 218, .ref 177]) [] s0 0 0 (fun s' v => GI s' ∧ FL [2501, 2502, 2816, 1222, 1223] s0 s' ∧ v = none) := by
  have f0 : FL [2501, 2502, 2816, 1222, 1223] s0 s0 := FL.rf
  show xe none 4 0 [(0, .ref 218), (1, .ref 177)] [] s0 0 0 _
  refine x_A k4_0 (fun _ => rfl) ?_
  refine x_getI k4_1 (f := 5) rfl (q := 218) (n := 7) (kd := 11) ⟨by decide, rfl⟩ (by decide) rfl ?_
  refine x_top (fun z1 e_z1 => ?_)
  have g_z1 : (-2147483648) ≤ s0 218 5 ∧ s0 218 5 ≤ 2147483647 := hG0 218 5
  refine x_A k4_4 (fun _ => rfl) ?_
  refine x_ic_lt k4_5 (t := 17) rfl (by first | exact x_rbe e_z1 g_z1 rfl rfl | exact x_rb g_z1 rfl rfl | exact ⟨by omega, by omega⟩) ⟨by decide, by decide⟩ (fun c2 => ?_) (fun c2 => ?_)
  · skip
    refine x_A k4_17 (fun _ => rfl) ?_
    refine x_A k4_18 (fun _ => rfl) ?_
    refine x_getI k4_19 (f := 5) rfl (q := 218) (n := 7) (kd := 11) ⟨by decide, rfl⟩ (by decide) rfl ?_
    rw [e_z1.symm]
    refine x_A k4_22 (fun _ => rfl) ?_
    refine x_iadd k4_23 ?_
    refine x_top (fun z3 e_z3 => ?_)
    refine x_putI k4_24 (f := 5) rfl (q := 218) (n := 7) (kd := 11) ⟨by decide, rfl⟩ rfl rfl rfl ?_
    refine x_nh (fun s4 e_s4 => ?_)
    have hG_s4 : GI s4 := by rw [e_s4]; exact hG0.up (show (-2147483648) ≤ z3 ∧ z3 ≤ 2147483647 from (by first | exact x_rbe e_z3 g_z3 rfl rfl | exact x_rb g_z3 rfl rfl | exact ⟨by omega, by omega⟩))
    have f_s4 : FL [2501, 2502, 2816, 1222, 1223] s0 s4 := by rw [e_s4]; exact f0.up (show 2502 ∈ [2501, 2502, 2816, 1222, 1223] from by decide +kernel)
    have q5 : s4 218 5 = z3 := by rw [e_s4]; exact x_up_same
    refine x_A k4_27 (fun _ => rfl) ?_
    refine x_bipush k4_28 (by decide +kernel) ?_
    refine x_callV k4_30 (y := 11) (n := 1) (w0 := 0) (w1 := 1) (as := [vi 6]) (rest := []) (by decide +kernel) (q := 218) (nq := 7) (kq := 11) ⟨by decide, rfl⟩ rfl rfl rfl rfl (xe_mono (C_X0_hold_218 s4 hG_s4 6 ⟨by decide, by decide⟩) ?_)
    rintro s7 v ⟨hG_s7, t_s7, rfl⟩
    have f_s7 : FL [2501, 2502, 2816, 1222, 1223] s0 s7 := f_s4.tr t_s7 (by decide +kernel)
    have q8 : s7 218 5 = z3 := (t_s7 218 5 (show 2502 ∉ [2501, 2816] from by decide +kernel)).trans q5
    show xe none 4 33 [(0, .ref 218), (1, .ref 177)] [] s7 0 0 _
    exact x_vret k4_33 rfl ⟨hG_s7, f_s7, rfl⟩
  · skip
    refine x_A k4_8 (fun _ => rfl) ?_
    refine x_A k4_9 (fun _ => rfl) ?_
    refine x_A k4_10 (fun _ => rfl) ?_
    refine x_getI k4_11 (f := 3) rfl (q := 177) (n := 7) (kd := 7) ⟨by decide, rfl⟩ (by decide) rfl ?_
    refine x_top (fun z9 e_z9 => ?_)
    have g_z9 : (0 : Int) ≤ s0 177 3 ∧ s0 177 3 ≤ 160 := hG0 177 3
    refine x_callV k4_14 (y := 52) (n := 2) (w0 := 0) (w1 := 2) (as := [vi 5, vi z9]) (rest := []) (by decide +kernel) (q := 177) (nq := 7) (kq := 7) ⟨by decide, rfl⟩ rfl rfl rfl rfl (xe_mono (C_X6_fail_177 s0 hG0 5 ⟨by decide, by decide⟩ z9 (by first | exact x_rbe e_z9 g_z9 rfl rfl | exact x_rb g_z9 rfl rfl | exact ⟨by omega, by omega⟩)) ?_)
    rintro s11 v ⟨hG_s11, t_s11, rfl, xp_z10⟩
    have f_s11 : FL [2501, 2502, 2816, 1222, 1223] s0 s11 := f0.tr t_s11 (by decide +kernel)
    have q12 : s11 218 5 = z1 := (t_s11 218 5 (show 2502 ∉ [1222, 1223] from by decide +kernel)).trans e_z1.symm
    have q13 : s11 177 3 = z9 := (t_s11 177 3 (show 1220 ∉ [1222, 1223] from by decide +kernel)).trans e_z9.symm
    obtain ⟨z14, e_z14⟩ : ∃ z, z = s11 177 5 := ⟨_, rfl⟩
    have g_z14 : (0 : Int) ≤ s11 177 5 ∧ s11 177 5 ≤ 5 := hG_s11 177 5
    show xe none 4 17 [(0, .ref 218), (1, .ref 177)] [] s11 0 0 _
    refine x_A k4_17 (fun _ => rfl) ?_
    refine x_A k4_18 (fun _ => rfl) ?_
    refine x_getI k4_19 (f := 5) rfl (q := 218) (n := 7) (kd := 11) ⟨by decide, rfl⟩ (by decide) rfl ?_
    rw [q12]
    refine x_A k4_22 (fun _ => rfl) ?_
    refine x_iadd k4_23 ?_
    refine x_topW (fun z15 g_z15 => ?_)
    unfold in32 at g_z15
    refine x_putI k4_24 (f := 5) rfl (q := 218) (n := 7) (kd := 11) ⟨by decide, rfl⟩ rfl rfl rfl ?_
    refine x_nh (fun s16 e_s16 => ?_)
    have hG_s16 : GI s16 := by rw [e_s16]; exact hG_s11.up (show (-2147483648) ≤ z15 ∧ z15 ≤ 2147483647 from (by first | exact x_rbe e_z15 g_z15 rfl rfl | exact x_rb g_z15 rfl rfl | exact ⟨by omega, by omega⟩))
    have f_s16 : FL [2501, 2502, 2816, 1222, 1223] s0 s16 := by rw [e_s16]; exact f_s11.up (show 2502 ∈ [2501, 2502, 2816, 1222, 1223] from by decide +kernel)
    have q17 : s16 177 3 = z9 := by rw [e_s16, x_up_q (by decide)]; exact q13
    have q18 : s16 177 5 = z14 := by rw [e_s16, x_up_q (by decide)]; exact e_z14.symm
    have q19 : s16 218 5 = z15 := by rw [e_s16]; exact x_up_same
    refine x_A k4_27 (fun _ => rfl) ?_
    refine x_bipush k4_28 (by decide +kernel) ?_
    refine x_callV k4_30 (y := 11) (n := 1) (w0 := 0) (w1 := 1) (as := [vi 6]) (rest := []) (by decide +kernel) (q := 218) (nq := 7) (kq := 11) ⟨by decide, rfl⟩ rfl rfl rfl rfl (xe_mono (C_X0_hold_218 s16 hG_s16 6 ⟨by decide, by decide⟩) ?_)
    rintro s21 v ⟨hG_s21, t_s21, rfl⟩
    have f_s21 : FL [2501, 2502, 2816, 1222, 1223] s0 s21 := f_s16.tr t_s21 (by decide +kernel)
    have q22 : s21 177 3 = z9 := (t_s21 177 3 (show 1220 ∉ [2501, 2816] from by decide +kernel)).trans q17
    have q23 : s21 177 5 = z14 := (t_s21 177 5 (show 1222 ∉ [2501, 2816] from by decide +kernel)).trans q18
    have q24 : s21 218 5 = z15 := (t_s21 218 5 (show 2502 ∉ [2501, 2816] from by decide +kernel)).trans q19
    show xe none 4 33 [(0, .ref 218), (1, .ref 177)] [] s21 0 0 _
    exact x_vret k4_33 rfl ⟨hG_s21, f_s21, rfl⟩
theorem C_X0_readNumber_177 (s0 : xS) (hG0 : GI s0) (a : Int) (b_a : (-2147483648) ≤ a ∧ a ≤ 2147483647) : xe none 7 0 (lv_args 0 [.ref 177, vi a]) [] s0 0 0 (fun s' v => GI s' ∧ FL [1219, 1220, 1221, 1222, 1223] s0 s' ∧ ∃ z, v = some (vi z) ∧ ((-2147483648) ≤ z ∧ z ≤ 2147483647)) := by
  have f0 : FL [1219, 1220, 1221, 1222, 1223] s0 s0 := FL.rf
  show xe none 7 0 [(0, .ref 177), (1, vi a)] [] s0 0 0 _
  refine x_A k7_0 (fun _ => rfl) ?_
  have c1 : a = 1 ∨ a = 2 ∨ a = 3 ∨ a = 4 ∨ a = 5 ∨ ¬ (1 ≤ a ∧ a ≤ 5) := by omega
  rcases c1 with c1 | c1 | c1 | c1 | c1 | c1
  · rw [c1]
    refine x_B k7_1 rfl (fun _ => rfl) (fun _ => rfl) (fun _ _ => rfl) ?_
    show xe none 7 36 [(0, .ref 177), (1, vi 1)] [] s0 0 0 _
    refine x_A k7_36 (fun _ => rfl) ?_
    refine x_A k7_37 (fun _ => rfl) ?_
    refine x_bipush k7_38 (by decide +kernel) ?_
    refine x_A k7_40 (fun _ => rfl) ?_
    refine x_callV k7_41 (y := 57) (n := 3) (w0 := 0) (w1 := 3) (as := [vi 0, vi 39, vi 3]) (rest := []) (by decide +kernel) (q := 177) (nq := 7) (kq := 7) ⟨by decide, rfl⟩ rfl rfl rfl rfl (xe_mono (C_X6_takeNumber_177 s0 hG0 0 ⟨by decide, by decide⟩ 39 ⟨by decide, by decide⟩ 3 ⟨by decide, by decide⟩) ?_)
    rintro s3 v ⟨hG_s3, t_s3, z2, rfl, g_z2, xp_z2⟩
    have f_s3 : FL [1219, 1220, 1221, 1222, 1223] s0 s3 := f0.tr t_s3 (by decide +kernel)
    obtain ⟨z4, e_z4⟩ : ∃ z, z = s3 177 5 := ⟨_, rfl⟩
    have g_z4 : (0 : Int) ≤ s3 177 5 ∧ s3 177 5 ≤ 5 := hG_s3 177 5
    show xe none 7 44 [(0, .ref 177), (1, vi 1)] [vi z2] s3 0 0 _
    exact x_iret k7_44 rfl ⟨hG_s3, f_s3, z2, rfl, (by first | exact x_rbe e_z2 g_z2 rfl rfl | exact x_rb g_z2 rfl rfl | exact ⟨by omega, by omega⟩)⟩
  · rw [c1]
    refine x_B k7_1 rfl (fun _ => rfl) (fun _ => rfl) (fun _ _ => rfl) ?_
    show xe none 7 45 [(0, .ref 177), (1, vi 2)] [] s0 0 0 _
    refine x_bipush k7_45 (by decide +kernel) ?_
    refine x_A k7_47 (fun _ => rfl) ?_
    refine x_A k7_48 (fun _ => rfl) ?_
    refine x_A k7_49 (fun _ => rfl) ?_
    refine x_A k7_50 (fun _ => rfl) ?_
    refine x_callV k7_51 (y := 57) (n := 3) (w0 := 1) (w1 := 3) (as := [vi 0, vi 3, vi 3]) (rest := [vi 100]) (by decide +kernel) (q := 177) (nq := 7) (kq := 7) ⟨by decide, rfl⟩ rfl rfl rfl rfl (xe_mono (C_X6_takeNumber_177 s0 hG0 0 ⟨by decide, by decide⟩ 3 ⟨by decide, by decide⟩ 3 ⟨by decide, by decide⟩) ?_)
    rintro s6 v ⟨hG_s6, t_s6, z5, rfl, g_z5, xp_z5⟩
    have f_s6 : FL [1219, 1220, 1221, 1222, 1223] s0 s6 := f0.tr t_s6 (by decide +kernel)
    obtain ⟨z7, e_z7⟩ : ∃ z, z = s6 177 5 := ⟨_, rfl⟩
    have g_z7 : (0 : Int) ≤ s6 177 5 ∧ s6 177 5 ≤ 5 := hG_s6 177 5
    show xe none 7 54 [(0, .ref 177), (1, vi 2)] [vi z5, vi 100] s6 0 0 _
    refine x_imul k7_54 ?_
    refine x_top (fun z8 e_z8 => ?_)
    refine x_A k7_55 (fun _ => rfl) ?_
    refine x_A k7_56 (fun _ => rfl) ?_
    refine x_bipush k7_57 (by decide +kernel) ?_
    refine x_A k7_59 (fun _ => rfl) ?_
    refine x_callV k7_60 (y := 57) (n := 3) (w0 := 1) (w1 := 3) (as := [vi 0, vi 99, vi 3]) (rest := [vi z8]) (by decide +kernel) (q := 177) (nq := 7) (kq := 7) ⟨by decide, rfl⟩ rfl rfl rfl rfl (xe_mono (C_X6_takeNumber_177 s6 hG_s6 0 ⟨by decide, by decide⟩ 99 ⟨by decide, by decide⟩ 3 ⟨by decide, by decide⟩) ?_)
    rintro s10 v ⟨hG_s10, t_s10, z9, rfl, g_z9, xp_z9⟩
    have f_s10 : FL [1219, 1220, 1221, 1222, 1223] s0 s10 := f_s6.tr t_s10 (by decide +kernel)
    obtain ⟨z11, e_z11⟩ : ∃ z, z = s10 177 5 := ⟨_, rfl⟩
    have g_z11 : (0 : Int) ≤ s10 177 5 ∧ s10 177 5 ≤ 5 := hG_s10 177 5
    show xe none 7 63 [(0, .ref 177), (1, vi 2)] [vi z9, vi z8] s10 0 0 _
    refine x_iadd k7_63 ?_
    refine x_top (fun z12 e_z12 => ?_)
    exact x_iret k7_64 rfl ⟨hG_s10, f_s10, z12, rfl, (by first | exact x_rbe e_z12 g_z12 rfl rfl | exact x_rb g_z12 rfl rfl | exact ⟨by omega, by omega⟩)⟩
  · rw [c1]
    refine x_B k7_1 rfl (fun _ => rfl) (fun _ => rfl) (fun _ _ => rfl) ?_
    show xe none 7 65 [(0, .ref 177), (1, vi 3)] [] s0 0 0 _
    refine x_A k7_65 (fun _ => rfl) ?_
    refine x_A k7_66 (fun _ => rfl) ?_
    refine x_bipush k7_67 (by decide +kernel) ?_
    refine x_A k7_69 (fun _ => rfl) ?_
    refine x_callV k7_70 (y := 57) (n := 3) (w0 := 0) (w1 := 3) (as := [vi 0, vi 7, vi 3]) (rest := []) (by decide +kernel) (q := 177) (nq := 7) (kq := 7) ⟨by decide, rfl⟩ rfl rfl rfl rfl (xe_mono (C_X6_takeNumber_177 s0 hG0 0 ⟨by decide, by decide⟩ 7 ⟨by decide, by decide⟩ 3 ⟨by decide, by decide⟩) ?_)
    rintro s14 v ⟨hG_s14, t_s14, z13, rfl, g_z13, xp_z13⟩
    have f_s14 : FL [1219, 1220, 1221, 1222, 1223] s0 s14 := f0.tr t_s14 (by decide +kernel)
    obtain ⟨z15, e_z15⟩ : ∃ z, z = s14 177 5 := ⟨_, rfl⟩
    have g_z15 : (0 : Int) ≤ s14 177 5 ∧ s14 177 5 ≤ 5 := hG_s14 177 5
    show xe none 7 73 [(0, .ref 177), (1, vi 3)] [vi z13] s14 0 0 _
    exact x_iret k7_73 rfl ⟨hG_s14, f_s14, z13, rfl, (by first | exact x_rbe e_z13 g_z13 rfl rfl | exact x_rb g_z13 rfl rfl | exact ⟨by omega, by omega⟩)⟩
  · rw [c1]
    refine x_B k7_1 rfl (fun _ => rfl) (fun _ => rfl) (fun _ _ => rfl) ?_
    show xe none 7 74 [(0, .ref 177), (1, vi 4)] [] s0 0 0 _
    refine x_A k7_74 (fun _ => rfl) ?_
    refine x_A k7_75 (fun _ => rfl) ?_
    refine x_sipush k7_76 (by decide +kernel) ?_
    refine x_A k7_79 (fun _ => rfl) ?_
    refine x_callV k7_80 (y := 57) (n := 3) (w0 := 0) (w1 := 3) (as := [vi 0, vi 999, vi 3]) (rest := []) (by decide +kernel) (q := 177) (nq := 7) (kq := 7) ⟨by decide, rfl⟩ rfl rfl rfl rfl (xe_mono (C_X6_takeNumber_177 s0 hG0 0 ⟨by decide, by decide⟩ 999 ⟨by decide, by decide⟩ 3 ⟨by decide, by decide⟩) ?_)
    rintro s17 v ⟨hG_s17, t_s17, z16, rfl, g_z16, xp_z16⟩
    have f_s17 : FL [1219, 1220, 1221, 1222, 1223] s0 s17 := f0.tr t_s17 (by decide +kernel)
    obtain ⟨z18, e_z18⟩ : ∃ z, z = s17 177 5 := ⟨_, rfl⟩
    have g_z18 : (0 : Int) ≤ s17 177 5 ∧ s17 177 5 ≤ 5 := hG_s17 177 5
    show xe none 7 83 [(0, .ref 177), (1, vi 4)] [vi z16] s17 0 0 _
    exact x_iret k7_83 rfl ⟨hG_s17, f_s17, z16, rfl, (by first | exact x_rbe e_z16 g_z16 rfl rfl | exact x_rb g_z16 rfl rfl | exact ⟨by omega, by omega⟩)⟩
  · rw [c1]
    refine x_B k7_1 rfl (fun _ => rfl) (fun _ => rfl) (fun _ _ => rfl) ?_
    show xe none 7 84 [(0, .ref 177), (1, vi 5)] [] s0 0 0 _
    refine x_A k7_84 (fun _ => rfl) ?_
    refine x_A k7_85 (fun _ => rfl) ?_
    refine x_bipush k7_86 (by decide +kernel) ?_
    refine x_A k7_88 (fun _ => rfl) ?_
    refine x_callV k7_89 (y := 57) (n := 3) (w0 := 0) (w1 := 3) (as := [vi 0, vi 9, vi 3]) (rest := []) (by decide +kernel) (q := 177) (nq := 7) (kq := 7) ⟨by decide, rfl⟩ rfl rfl rfl rfl (xe_mono (C_X6_takeNumber_177 s0 hG0 0 ⟨by decide, by decide⟩ 9 ⟨by decide, by decide⟩ 3 ⟨by decide, by decide⟩) ?_)
    rintro s20 v ⟨hG_s20, t_s20, z19, rfl, g_z19, xp_z19⟩
    have f_s20 : FL [1219, 1220, 1221, 1222, 1223] s0 s20 := f0.tr t_s20 (by decide +kernel)
    obtain ⟨z21, e_z21⟩ : ∃ z, z = s20 177 5 := ⟨_, rfl⟩
    have g_z21 : (0 : Int) ≤ s20 177 5 ∧ s20 177 5 ≤ 5 := hG_s20 177 5
    show xe none 7 92 [(0, .ref 177), (1, vi 5)] [vi z19] s20 0 0 _
    exact x_iret k7_92 rfl ⟨hG_s20, f_s20, z19, rfl, (by first | exact x_rbe e_z19 g_z19 rfl rfl | exact x_rb g_z19 rfl rfl | exact ⟨by omega, by omega⟩)⟩
  · refine x_tabD k7_1 ⟨by omega, by omega⟩ c1 (t0 := 93) rfl ?_
    refine x_A k7_93 (fun _ => rfl) ?_
    exact x_iret k7_94 rfl ⟨hG0, f0, (-1), rfl, ⟨by decide, by decide⟩⟩
theorem C_X10_afterReading_0 (s0 : xS) (hG0 : GI s0) (a : Int) (b_a : (-2147483648) ≤ a ∧ a ≤ 2147483647) : xe none 128 0 (lv_args 0 [.ref 0, vi a]) [] s0 0 0 (fun s' v => GI s' ∧ FL [12, 1218] s0 s' ∧ ∃ z, v = some (vi z) ∧ ((-2147483648) ≤ z ∧ z ≤ 2147483647)) := by
  have f0 : FL [12, 1218] s0 s0 := FL.rf
  show xe none 128 0 [(0, .ref 0), (1, vi a)] [] s0 0 0 _
  refine x_A k128_0 (fun _ => rfl) ?_
  refine x_getR k128_1 (f := 3) rfl (q := 0) (n := 12) (kd := 3) ⟨by decide, rfl⟩ (q2 := 177) (by decide) rfl ?_
  refine x_getI k128_4 (f := 5) rfl (q := 177) (n := 7) (kd := 7) ⟨by decide, rfl⟩ (by decide) rfl ?_
  refine x_top (fun z1 e_z1 => ?_)
  have g_z1 : (0 : Int) ≤ s0 177 5 ∧ s0 177 5 ≤ 5 := hG0 177 5
  refine x_if_ne k128_7 (t := 14) rfl (by first | exact x_rbe e_z1 g_z1 rfl rfl | exact x_rb g_z1 rfl rfl | exact ⟨by omega, by omega⟩) (fun c2 => ?_) (fun c2 => ?_)
  · skip
    refine x_A k128_14 (fun _ => rfl) ?_
    refine x_istore_n k128_15 (ls' := [(2, vi 0), (0, .ref 0), (1, vi a)]) (by decide) rfl ?_
    refine x_A k128_16 (fun _ => rfl) ?_
    refine x_A k128_17 (fun _ => rfl) ?_
    refine x_if_eq k128_18 (t := 25) rfl ⟨by decide, by decide⟩ (fun c3 => ?_) (fun c3 => by exfalso; omega)
    refine x_A k128_25 (fun _ => rfl) ?_
    refine x_getR k128_26 (f := 3) rfl (q := 0) (n := 12) (kd := 3) ⟨by decide, rfl⟩ (q2 := 177) (by decide) rfl ?_
    refine x_getI k128_29 (f := 6) rfl (q := 177) (n := 7) (kd := 7) ⟨by decide, rfl⟩ (by decide) rfl ?_
    refine x_top (fun z4 e_z4 => ?_)
    have g_z4 : (-2147483648) ≤ s0 177 6 ∧ s0 177 6 ≤ 2147483647 := hG0 177 6
    refine x_putI k128_32 (f := 11) rfl (q := 0) (n := 12) (kd := 3) ⟨by decide, rfl⟩ rfl rfl rfl ?_
    refine x_nh (fun s5 e_s5 => ?_)
    have hG_s5 : GI s5 := by rw [e_s5]; exact hG0.up (show (-2147483648) ≤ z4 ∧ z4 ≤ 2147483647 from (by first | exact x_rbe e_z4 g_z4 rfl rfl | exact x_rb g_z4 rfl rfl | exact ⟨by omega, by omega⟩))
    have f_s5 : FL [12, 1218] s0 s5 := by rw [e_s5]; exact f0.up (show 12 ∈ [12, 1218] from by decide +kernel)
    have q6 : s5 177 5 = z1 := by rw [e_s5, x_up_q (by decide)]; exact e_z1.symm
    have q7 : s5 177 6 = z4 := by rw [e_s5, x_up_q (by decide)]; exact e_z4.symm
    have q8 : s5 0 11 = z4 := by rw [e_s5]; exact x_up_same
    refine x_A k128_35 (fun _ => rfl) ?_
    refine x_getR k128_36 (f := 3) rfl (q := 0) (n := 12) (kd := 3) ⟨by decide, rfl⟩ (q2 := 177) (by decide) rfl ?_
    refine x_A k128_39 (fun _ => rfl) ?_
    refine x_putI k128_40 (f := 1) rfl (q := 177) (n := 7) (kd := 7) ⟨by decide, rfl⟩ rfl rfl rfl ?_
    refine x_nh (fun s9 e_s9 => ?_)
    have hG_s9 : GI s9 := by rw [e_s9]; exact hG_s5.up (show 0 ≤ 0 ∧ 0 ≤ 160 from ⟨by decide, by decide⟩)
    have f_s9 : FL [12, 1218] s0 s9 := by rw [e_s9]; exact f_s5.up (show 1218 ∈ [12, 1218] from by decide +kernel)
    have q10 : s9 177 5 = z1 := by rw [e_s9, x_up_i (by decide)]; exact q6
    have q11 : s9 177 6 = z4 := by rw [e_s9, x_up_i (by decide)]; exact q7
    have q12 : s9 0 11 = z4 := by rw [e_s9, x_up_q (by decide)]; exact q8
    have q13 : s9 177 1 = 0 := by rw [e_s9]; exact x_up_same
    refine x_A k128_43 (fun _ => rfl) ?_
    refine x_if_eq k128_44 (t := 51) rfl ⟨by decide, by decide⟩ (fun c14 => ?_) (fun c14 => by exfalso; omega)
    refine x_bipush k128_51 (by decide +kernel) ?_
    refine x_A k128_53 (fun _ => rfl) ?_
    refine x_getR k128_54 (f := 3) rfl (q := 0) (n := 12) (kd := 3) ⟨by decide, rfl⟩ (q2 := 177) (by decide) rfl ?_
    refine x_getI k128_57 (f := 5) rfl (q := 177) (n := 7) (kd := 7) ⟨by decide, rfl⟩ (by decide) rfl ?_
    rw [q10]
    refine x_isub k128_60 ?_
    refine x_top (fun z15 e_z15 => ?_)
    exact x_iret k128_61 rfl ⟨hG_s9, f_s9, z15, rfl, (by first | exact x_rbe e_z15 g_z15 rfl rfl | exact x_rb g_z15 rfl rfl | exact ⟨by omega, by omega⟩)⟩
  · skip
    refine x_A k128_10 (fun _ => rfl) ?_
    refine x_goto k128_11 (t := 15) rfl ?_
    refine x_istore_n k128_15 (ls' := [(2, vi 1), (0, .ref 0), (1, vi a)]) (by decide) rfl ?_
    refine x_A k128_16 (fun _ => rfl) ?_
    refine x_A k128_17 (fun _ => rfl) ?_
    refine x_if_eq k128_18 (t := 25) rfl ⟨by decide, by decide⟩ (fun c16 => by exfalso; omega) (fun c16 => ?_)
    refine x_A k128_21 (fun _ => rfl) ?_
    refine x_goto k128_22 (t := 32) rfl ?_
    refine x_putI k128_32 (f := 11) rfl (q := 0) (n := 12) (kd := 3) ⟨by decide, rfl⟩ rfl rfl rfl ?_
    refine x_nh (fun s17 e_s17 => ?_)
    have hG_s17 : GI s17 := by rw [e_s17]; exact hG0.up (show (-2147483648) ≤ (-1) ∧ (-1) ≤ 2147483647 from ⟨by decide, by decide⟩)
    have f_s17 : FL [12, 1218] s0 s17 := by rw [e_s17]; exact f0.up (show 12 ∈ [12, 1218] from by decide +kernel)
    have q18 : s17 177 5 = z1 := by rw [e_s17, x_up_q (by decide)]; exact e_z1.symm
    have q19 : s17 0 11 = (-1) := by rw [e_s17]; exact x_up_same
    refine x_A k128_35 (fun _ => rfl) ?_
    refine x_getR k128_36 (f := 3) rfl (q := 0) (n := 12) (kd := 3) ⟨by decide, rfl⟩ (q2 := 177) (by decide) rfl ?_
    refine x_A k128_39 (fun _ => rfl) ?_
    refine x_putI k128_40 (f := 1) rfl (q := 177) (n := 7) (kd := 7) ⟨by decide, rfl⟩ rfl rfl rfl ?_
    refine x_nh (fun s20 e_s20 => ?_)
    have hG_s20 : GI s20 := by rw [e_s20]; exact hG_s17.up (show 0 ≤ 0 ∧ 0 ≤ 160 from ⟨by decide, by decide⟩)
    have f_s20 : FL [12, 1218] s0 s20 := by rw [e_s20]; exact f_s17.up (show 1218 ∈ [12, 1218] from by decide +kernel)
    have q21 : s20 177 5 = z1 := by rw [e_s20, x_up_i (by decide)]; exact q18
    have q22 : s20 0 11 = (-1) := by rw [e_s20, x_up_q (by decide)]; exact q19
    have q23 : s20 177 1 = 0 := by rw [e_s20]; exact x_up_same
    refine x_A k128_43 (fun _ => rfl) ?_
    refine x_if_eq k128_44 (t := 51) rfl ⟨by decide, by decide⟩ (fun c24 => by exfalso; omega) (fun c24 => ?_)
    refine x_A k128_47 (fun _ => rfl) ?_
    refine x_goto k128_48 (t := 61) rfl ?_
    exact x_iret k128_61 rfl ⟨hG_s20, f_s20, a, rfl, (by first | exact x_rb b_a rfl rfl | exact ⟨by omega, by omega⟩)⟩
theorem L_C_X10_feed_0_38 (s0 : xS)   : ∀ (n : Nat) (s : xS) (x1 : Int) (x2 : Int) (x4 : Int) (hG : GI s) (f : FL [1218, 1280] s0 s) (b_x1 : 1 ≤ x1 ∧ x1 ≤ 8) (b_x2 : in64 x2) (b_x4 : (-1) ≤ x4 ∧ x4 ≤ 7) (r_4_1 : x4 ≤ x1 + 0)  (hm : (x4 - (-1)) < (n : Int)), xe none 104 38 [(0, .ref 0), (1, vi x1), (2, vj x2), (4, vi x4)] [] s 0 0 (fun s' v => GI s' ∧ FL [1218, 1280] s0 s' ∧ ∃ z, v = some (vi z) ∧ ((-1004) ≤ z ∧ z ≤ 160)) := by
  intro n
  induction n with
  | zero => intro s x1 x2 x4 hG f b_x1 b_x2 b_x4 r_4_1  hm; exfalso; omega
  | succ n ih =>
    intro s x1 x2 x4 hG f b_x1 b_x2 b_x4 r_4_1  hm
    refine x_A k104_38 (fun _ => rfl) ?_
    refine x_if_lt k104_40 (t := 68) rfl (by first | exact x_rb b_x4 rfl rfl | exact ⟨by omega, by omega⟩) (fun c40 => ?_) (fun c40 => ?_)
    · skip
      refine x_A k104_68 (fun _ => rfl) ?_
      refine x_getR k104_69 (f := 3) rfl (q := 0) (n := 12) (kd := 3) ⟨by decide, rfl⟩ (q2 := 177) (by decide) rfl ?_
      refine x_getI k104_72 (f := 1) rfl (q := 177) (n := 7) (kd := 7) ⟨by decide, rfl⟩ (by decide) rfl ?_
      refine x_top (fun z41 e_z41 => ?_)
      have g_z41 : (0 : Int) ≤ s 177 1 ∧ s 177 1 ≤ 160 := hG 177 1
      exact x_iret k104_75 rfl ⟨hG, f, z41, rfl, (by first | exact x_rbe e_z41 g_z41 rfl rfl | exact x_rb g_z41 rfl rfl | exact ⟨by omega, by omega⟩)⟩
    · skip
      refine x_A k104_43 (fun _ => rfl) ?_
      refine x_getR k104_44 (f := 3) rfl (q := 0) (n := 12) (kd := 3) ⟨by decide, rfl⟩ (q2 := 177) (by decide) rfl ?_
      refine x_A k104_47 (fun _ => rfl) ?_
      refine x_bipush k104_48 (by decide +kernel) ?_
      refine x_A k104_50 (fun _ => rfl) ?_
      refine x_imul k104_52 ?_
      refine x_top (fun z42 e_z42 => ?_)
      refine x_lushr_any k104_53 (fun z43 b_z43 => ?_)
      refine x_l2i_any k104_54 (fun z44 g_z44 => ?_)
      unfold in32 at g_z44
      refine x_sipush k104_55 (by decide +kernel) ?_
      refine x_and_mask k104_58 ⟨by omega, by omega⟩ (fun z45 g_z45 => ?_)
      refine x_callV k104_59 (y := 47) (n := 1) (w0 := 0) (w1 := 1) (as := [vi z45]) (rest := []) (by decide +kernel) (q := 177) (nq := 7) (kq := 7) ⟨by decide, rfl⟩ rfl rfl rfl rfl (xe_mono (C_X6_add_177 s hG z45 (by first | exact x_rbe e_z45 g_z45 rfl rfl | exact x_rb g_z45 rfl rfl | exact ⟨by omega, by omega⟩)) ?_)
      rintro s47 v ⟨hG_s47, t_s47, rfl⟩
      have f_s47 : FL [1218, 1280] s0 s47 := f.tr t_s47 (by decide +kernel)
      show xe none 104 62 [(0, .ref 0), (1, vi x1), (2, vj x2), (4, vi x4)] [] s47 0 0 _
      refine x_iinc k104_62 (ls' := [(4, vi (x4 + (-1))), (0, .ref 0), (1, vi x1), (2, vj x2)]) rfl (by decide) rfl ?_
      refine x_goto k104_65 (t := 38) rfl ?_
      refine x_ls (l := [(0, .ref 0), (1, vi x1), (2, vj x2), (4, vi (x4 + (-1)))]) (show ([0, 1, 2, 4] : List Nat).Nodup from by decide +kernel) ⟨rfl, rfl, rfl, rfl, trivial⟩ ?_
      exact ih s47 x1 x2 (x4 + (-1)) hG_s47 f_s47 (by first | exact x_rb b_x1 rfl rfl | exact ⟨by omega, by omega⟩) b_x2 ⟨by omega, by omega⟩ (by omega)  (by omega)
theorem C_X10_feed_0 (s0 : xS) (hG0 : GI s0) (a : Int) (b_a : (-2147483648) ≤ a ∧ a ≤ 2147483647) (b : Int) (b_b : in64 b) : xe none 104 0 (lv_args 0 [.ref 0, vi a, vj b]) [] s0 0 0 (fun s' v => GI s' ∧ FL [1218, 1280] s0 s' ∧ ∃ z, v = some (vi z) ∧ ((-1004) ≤ z ∧ z ≤ 160)) := by
  have f0 : FL [1218, 1280] s0 s0 := FL.rf
  show xe none 104 0 [(0, .ref 0), (1, vi a), (2, vj b)] [] s0 0 0 _
  refine x_A k104_0 (fun _ => rfl) ?_
  refine x_A k104_1 (fun _ => rfl) ?_
  refine x_bipush k104_2 (by decide +kernel) ?_
  refine x_callS k104_4 (y := 121) (n := 3) (w0 := 0) (w1 := 3) (as := [vi a, vi 1, vi 8]) (rest := []) (by decide +kernel) rfl rfl rfl rfl (xe_mono (C_X10_isWithin s0 hG0 a (by first | exact x_rb b_a rfl rfl | exact ⟨by omega, by omega⟩) 1 ⟨by decide, by decide⟩ 8 ⟨by decide, by decide⟩) ?_)
  rintro s49 v ⟨h_s49, z48, rfl, hz_z48⟩
  rw [h_s49]
  rcases hz_z48 with ⟨c_z48, e_z48⟩ | ⟨c_z48, e_z48⟩
  · rw [e_z48]
    show xe none 104 7 [(0, .ref 0), (1, vi a), (2, vj b)] [vi 1] s0 0 0 _
    refine x_if_ne k104_7 (t := 14) rfl ⟨by decide, by decide⟩ (fun c50 => ?_) (fun c50 => by exfalso; omega)
    refine x_A k104_14 (fun _ => rfl) ?_
    refine x_getR k104_15 (f := 3) rfl (q := 0) (n := 12) (kd := 3) ⟨by decide, rfl⟩ (q2 := 177) (by decide) rfl ?_
    refine x_getI k104_18 (f := 1) rfl (q := 177) (n := 7) (kd := 7) ⟨by decide, rfl⟩ (by decide) rfl ?_
    refine x_top (fun z51 e_z51 => ?_)
    have g_z51 : (0 : Int) ≤ s0 177 1 ∧ s0 177 1 ≤ 160 := hG0 177 1
    refine x_A k104_21 (fun _ => rfl) ?_
    refine x_iadd k104_22 ?_
    refine x_top (fun z52 e_z52 => ?_)
    refine x_sipush k104_23 (by decide +kernel) ?_
    refine x_ic_le k104_26 (t := 33) rfl (by first | exact x_rbe e_z52 g_z52 rfl rfl | exact x_rb g_z52 rfl rfl | exact ⟨by omega, by omega⟩) ⟨by decide, by decide⟩ (fun c53 => ?_) (fun c53 => ?_)
    · skip
      refine x_A k104_33 (fun _ => rfl) ?_
      refine x_A k104_34 (fun _ => rfl) ?_
      refine x_isub k104_35 ?_
      refine x_top (fun z54 e_z54 => ?_)
      refine x_istore k104_36 (ls' := [(4, vi z54), (0, .ref 0), (1, vi a), (2, vj b)]) (by decide) rfl ?_
      refine x_ls (l := [(0, .ref 0), (1, vi a), (2, vj b), (4, vi z54)]) (show ([0, 1, 2, 4] : List Nat).Nodup from by decide +kernel) ⟨rfl, rfl, rfl, rfl, trivial⟩ ?_
      exact L_C_X10_feed_0_38 s0   (((z54 - (-1)) + 1 : Int)).toNat s0 a b z54 hG0 f0 (by first | exact x_rb b_a rfl rfl | exact ⟨by omega, by omega⟩) b_b (by first | exact x_rbe e_z54 g_z54 rfl rfl | exact x_rb g_z54 rfl rfl | exact ⟨by omega, by omega⟩) (by omega)  (by omega)
    · skip
      refine x_sipush k104_29 (by decide +kernel) ?_
      exact x_iret k104_32 rfl ⟨hG0, f0, (-1004), rfl, ⟨by decide, by decide⟩⟩
  · rw [e_z48]
    show xe none 104 7 [(0, .ref 0), (1, vi a), (2, vj b)] [vi 0] s0 0 0 _
    refine x_if_ne k104_7 (t := 14) rfl ⟨by decide, by decide⟩ (fun c55 => by exfalso; omega) (fun c55 => ?_)
    refine x_sipush k104_10 (by decide +kernel) ?_
    exact x_iret k104_13 rfl ⟨hG0, f0, (-1002), rfl, ⟨by decide, by decide⟩⟩
theorem L_C_X8_isLacking_243_209_51 (s0 : xS)   : ∀ (n : Nat) (s : xS) (x1 : Int) (x3 : Int) (x5 : Int) (hG : GI s) (f : FL [] s0 s) (b_x1 : 0 ≤ x1 ∧ x1 ≤ 119) (b_x3 : in64 x3) (b_x5 : 0 ≤ x5 ∧ x5 ≤ 40)  (hm : (40 - x5) < (n : Int)), xe none 83 51 [(0, .ref 243), (1, vi x1), (2, .ref 209), (3, vj x3), (5, vi x5)] [] s 0 0 (fun s' v => GI s' ∧ FL [] s0 s' ∧ ∃ z, v = some (vi z) ∧ (0 ≤ z ∧ z ≤ 1)) := by
  intro n
  induction n with
  | zero => intro s x1 x3 x5 hG f b_x1 b_x3 b_x5  hm; exfalso; omega
  | succ n ih =>
    intro s x1 x3 x5 hG f b_x1 b_x3 b_x5  hm
    refine x_A k83_51 (fun _ => rfl) ?_
    refine x_bipush k83_53 (by decide +kernel) ?_
    refine x_ic_ge k83_55 (t := 111) rfl (by first | exact x_rb b_x5 rfl rfl | exact ⟨by omega, by omega⟩) ⟨by decide, by decide⟩ (fun c245 => ?_) (fun c245 => ?_)
    · skip
      refine x_A k83_111 (fun _ => rfl) ?_
      exact x_zret k83_112 rfl ⟨by omega, by omega⟩ ⟨hG, f, 0, rfl, ⟨by decide, by decide⟩⟩
    · skip
      refine x_A k83_58 (fun _ => rfl) ?_
      refine x_A k83_59 (fun _ => rfl) ?_
      refine x_lushr_any k83_61 (fun z246 b_z246 => ?_)
      refine x_lconst k83_62 (z := 1) (by decide +kernel) ?_
      refine x_land_mask k83_63 ⟨by omega, by omega⟩ (fun z247 g_z247 => ?_)
      refine x_lconst k83_64 (z := 0) (by decide +kernel) ?_
      refine x_lc_ne k83_65 k83_66 (t := 72) rfl ⟨by omega, by omega⟩ ⟨by omega, by omega⟩ (fun c248 => ?_) (fun c248 => ?_)
      · skip
        refine x_A k83_72 (fun _ => rfl) ?_
        refine x_getR k83_73 (f := 4) rfl (q := 209) (n := 8) (kd := 9) ⟨by decide, rfl⟩ (q2 := 213) (by decide) rfl ?_
        refine x_A k83_76 (fun _ => rfl) ?_
        refine x_lald k83_78 (q := 213) (n := 40) ⟨by decide, rfl⟩ (by decide) (by first | exact x_rbl b_x5 rfl rfl | exact ⟨by omega, by omega⟩) ?_
        refine x_topL (fun z249 e_z249 => ?_)
        have b_z249 : in64 z249 := by rw [e_z249]; exact hG 213 x5.toNat
        refine x_A k83_79 (fun _ => rfl) ?_
        refine x_getR k83_80 (f := 10) rfl (q := 243) (n := 13) (kd := 13) ⟨by decide, rfl⟩ (q2 := 255) (by decide) rfl ?_
        refine x_A k83_83 (fun _ => rfl) ?_
        refine x_getR k83_84 (f := 1) rfl (q := 243) (n := 13) (kd := 13) ⟨by decide, rfl⟩ (q2 := 50) (by decide) rfl ?_
        refine x_getR k83_87 (f := 0) rfl (q := 50) (n := 7) (kd := 6) ⟨by decide, rfl⟩ (q2 := 51) (by decide) rfl ?_
        refine x_A k83_90 (fun _ => rfl) ?_
        refine x_iald k83_91 (q := 51) (n := 120) ⟨by decide, rfl⟩ (by decide) (by first | exact x_rbl b_x1 rfl rfl | exact ⟨by omega, by omega⟩) ?_
        refine x_top (fun z250 e_z250 => ?_)
        have g_z250 : (0 : Int) ≤ s 51 x1.toNat ∧ s 51 x1.toNat ≤ 39 := hG 51 x1.toNat
        refine x_lald k83_92 (q := 255) (n := 40) ⟨by decide, rfl⟩ (by decide) (by first | exact x_rbel e_z250 g_z250 rfl rfl | exact x_rbl g_z250 rfl rfl | exact ⟨by omega, by omega⟩) ?_
        refine x_topL (fun z251 e_z251 => ?_)
        have b_z251 : in64 z251 := by rw [e_z251]; exact hG 255 z250.toNat
        refine x_ldc2 k83_93 (z := (-1)) rfl (by decide +kernel) ?_
        refine x_lxor_any k83_96 (fun z252 b_z252 => ?_)
        refine x_land_any k83_97 (fun z253 b_z253 => ?_)
        refine x_lconst k83_98 (z := 0) (by decide +kernel) ?_
        refine x_lc_eq k83_99 k83_100 (t := 105) rfl b_z253 ⟨by omega, by omega⟩ (fun c254 => ?_) (fun c254 => ?_)
        · skip
          refine x_iinc k83_105 (ls' := [(5, vi (x5 + 1)), (0, .ref 243), (1, vi x1), (2, .ref 209), (3, vj x3)]) rfl (by decide) rfl ?_
          refine x_goto k83_108 (t := 51) rfl ?_
          refine x_ls (l := [(0, .ref 243), (1, vi x1), (2, .ref 209), (3, vj x3), (5, vi (x5 + 1))]) (show ([0, 1, 2, 3, 5] : List Nat).Nodup from by decide +kernel) ⟨rfl, rfl, rfl, rfl, rfl, trivial⟩ ?_
          exact ih s x1 x3 (x5 + 1) hG f (by first | exact x_rb b_x1 rfl rfl | exact ⟨by omega, by omega⟩) b_x3 ⟨by omega, by omega⟩  (by omega)
        · skip
          refine x_A k83_103 (fun _ => rfl) ?_
          exact x_zret k83_104 rfl ⟨by omega, by omega⟩ ⟨hG, f, 1, rfl, ⟨by decide, by decide⟩⟩
      · skip
        refine x_goto k83_69 (t := 105) rfl ?_
        refine x_iinc k83_105 (ls' := [(5, vi (x5 + 1)), (0, .ref 243), (1, vi x1), (2, .ref 209), (3, vj x3)]) rfl (by decide) rfl ?_
        refine x_goto k83_108 (t := 51) rfl ?_
        refine x_ls (l := [(0, .ref 243), (1, vi x1), (2, .ref 209), (3, vj x3), (5, vi (x5 + 1))]) (show ([0, 1, 2, 3, 5] : List Nat).Nodup from by decide +kernel) ⟨rfl, rfl, rfl, rfl, rfl, trivial⟩ ?_
        exact ih s x1 x3 (x5 + 1) hG f (by first | exact x_rb b_x1 rfl rfl | exact ⟨by omega, by omega⟩) b_x3 ⟨by omega, by omega⟩  (by omega)
theorem C_X8_isLacking_243_209 (s0 : xS) (hG0 : GI s0) (a : Int) (b_a : 0 ≤ a ∧ a ≤ 119) : xe none 83 0 (lv_args 0 [.ref 243, vi a, .ref 209]) [] s0 0 0 (fun s' v => GI s' ∧ FL [] s0 s' ∧ ∃ z, v = some (vi z) ∧ (0 ≤ z ∧ z ≤ 1)) := by
  have f0 : FL [] s0 s0 := FL.rf
  show xe none 83 0 [(0, .ref 243), (1, vi a), (2, .ref 209)] [] s0 0 0 _
  refine x_A k83_0 (fun _ => rfl) ?_
  refine x_getR k83_1 (f := 1) rfl (q := 243) (n := 13) (kd := 13) ⟨by decide, rfl⟩ (q2 := 50) (by decide) rfl ?_
  refine x_getR k83_4 (f := 4) rfl (q := 50) (n := 7) (kd := 6) ⟨by decide, rfl⟩ (q2 := 55) (by decide) rfl ?_
  refine x_A k83_7 (fun _ => rfl) ?_
  refine x_iald k83_8 (q := 55) (n := 120) ⟨by decide, rfl⟩ (by decide) (by first | exact x_rbl b_a rfl rfl | exact ⟨by omega, by omega⟩) ?_
  refine x_top (fun z255 e_z255 => ?_)
  have g_z255 : (0 : Int) ≤ s0 55 a.toNat ∧ s0 55 a.toNat ≤ 9 := hG0 55 a.toNat
  refine x_A k83_9 (fun _ => rfl) ?_
  refine x_getI k83_10 (f := 12) rfl (q := 243) (n := 13) (kd := 13) ⟨by decide, rfl⟩ (by decide) rfl ?_
  refine x_top (fun z256 e_z256 => ?_)
  have g_z256 : (-1) ≤ s0 243 12 ∧ s0 243 12 ≤ 9 := hG0 243 12
  refine x_ic_gt k83_13 (t := 25) rfl (by first | exact x_rbe e_z255 g_z255 rfl rfl | exact x_rb g_z255 rfl rfl | exact ⟨by omega, by omega⟩) (by first | exact x_rbe e_z256 g_z256 rfl rfl | exact x_rb g_z256 rfl rfl | exact ⟨by omega, by omega⟩) (fun c257 => ?_) (fun c257 => ?_)
  · skip
    refine x_A k83_25 (fun _ => rfl) ?_
    exact x_zret k83_26 rfl ⟨by omega, by omega⟩ ⟨hG0, f0, 0, rfl, ⟨by decide, by decide⟩⟩
  · skip
    refine x_A k83_16 (fun _ => rfl) ?_
    refine x_getR k83_17 (f := 7) rfl (q := 243) (n := 13) (kd := 13) ⟨by decide, rfl⟩ (q2 := 252) (by decide) rfl ?_
    refine x_A k83_20 (fun _ => rfl) ?_
    refine x_iald k83_21 (q := 252) (n := 120) ⟨by decide, rfl⟩ (by decide) (by first | exact x_rbl b_a rfl rfl | exact ⟨by omega, by omega⟩) ?_
    refine x_top (fun z258 e_z258 => ?_)
    have g_z258 : (0 : Int) ≤ s0 252 a.toNat ∧ s0 252 a.toNat ≤ 4 := hG0 252 a.toNat
    refine x_if_eq k83_22 (t := 27) rfl (by first | exact x_rbe e_z258 g_z258 rfl rfl | exact x_rb g_z258 rfl rfl | exact ⟨by omega, by omega⟩) (fun c259 => ?_) (fun c259 => ?_)
    · skip
      refine x_A k83_27 (fun _ => rfl) ?_
      refine x_getR k83_28 (f := 0) rfl (q := 243) (n := 13) (kd := 13) ⟨by decide, rfl⟩ (q2 := 1) (by decide) rfl ?_
      refine x_A k83_31 (fun _ => rfl) ?_
      refine x_getR k83_32 (f := 1) rfl (q := 243) (n := 13) (kd := 13) ⟨by decide, rfl⟩ (q2 := 50) (by decide) rfl ?_
      refine x_getR k83_35 (f := 1) rfl (q := 50) (n := 7) (kd := 6) ⟨by decide, rfl⟩ (q2 := 52) (by decide) rfl ?_
      refine x_A k83_38 (fun _ => rfl) ?_
      refine x_iald k83_39 (q := 52) (n := 120) ⟨by decide, rfl⟩ (by decide) (by first | exact x_rbl b_a rfl rfl | exact ⟨by omega, by omega⟩) ?_
      refine x_top (fun z260 e_z260 => ?_)
      have g_z260 : (0 : Int) ≤ s0 52 a.toNat ∧ s0 52 a.toNat ≤ 39 := hG0 52 a.toNat
      refine x_A k83_40 (fun _ => rfl) ?_
      refine x_getI k83_41 (f := 12) rfl (q := 243) (n := 13) (kd := 13) ⟨by decide, rfl⟩ (by decide) rfl ?_
      rw [e_z256.symm]
      refine x_callV k83_44 (y := 65) (n := 2) (w0 := 0) (w1 := 2) (as := [vi z260, vi z256]) (rest := []) (by decide +kernel) (q := 1) (nq := 5) (kq := 4) ⟨by decide, rfl⟩ rfl rfl rfl rfl (xe_mono (C_X7_pathUp_1 s0 hG0 z260 (by first | exact x_rbe e_z260 g_z260 rfl rfl | exact x_rb g_z260 rfl rfl | exact ⟨by omega, by omega⟩) z256 (by first | exact x_rbe e_z256 g_z256 rfl rfl | exact x_rb g_z256 rfl rfl | exact ⟨by omega, by omega⟩)) ?_)
      rintro s262 v ⟨-, t_s262, z261, rfl, b_z261⟩
      rw [t_s262.nil]
      show xe none 83 47 [(0, .ref 243), (1, vi a), (2, .ref 209)] [vj z261] s0 0 0 _
      refine x_lstore_n k83_47 (ls' := [(3, vj z261), (0, .ref 243), (1, vi a), (2, .ref 209)]) (by decide) rfl ?_
      refine x_A k83_48 (fun _ => rfl) ?_
      refine x_istore k83_49 (ls' := [(5, vi 0), (3, vj z261), (0, .ref 243), (1, vi a), (2, .ref 209)]) (by decide) rfl ?_
      refine x_ls (l := [(0, .ref 243), (1, vi a), (2, .ref 209), (3, vj z261), (5, vi 0)]) (show ([0, 1, 2, 3, 5] : List Nat).Nodup from by decide +kernel) ⟨rfl, rfl, rfl, rfl, rfl, trivial⟩ ?_
      exact L_C_X8_isLacking_243_209_51 s0   (((40 - 0) + 1 : Int)).toNat s0 a z261 0 hG0 f0 (by first | exact x_rb b_a rfl rfl | exact ⟨by omega, by omega⟩) b_z261 ⟨by decide, by decide⟩  (by omega)
    · skip
      refine x_A k83_25 (fun _ => rfl) ?_
      exact x_zret k83_26 rfl ⟨by omega, by omega⟩ ⟨hG0, f0, 0, rfl, ⟨by decide, by decide⟩⟩
theorem L_C_X8_countLacking_243_209_4 (s0 : xS)   : ∀ (n : Nat) (s : xS) (x2 : Int) (x3 : Int) (hG : GI s) (f : FL [] s0 s) (b_x2 : 0 ≤ x2 ∧ x2 ≤ 127) (b_x3 : 0 ≤ x3 ∧ x3 ≤ 120) (r_2_3 : x2 ≤ x3 + 0)  (hm : (120 - x3) < (n : Int)), xe none 86 4 [(0, .ref 243), (1, .ref 209), (2, vi x2), (3, vi x3)] [] s 0 0 (fun s' v => GI s' ∧ FL [] s0 s' ∧ ∃ z, v = some (vi z) ∧ (0 ≤ z ∧ z ≤ 120)) := by
  intro n
  induction n with
  | zero => intro s x2 x3 hG f b_x2 b_x3 r_2_3  hm; exfalso; omega
  | succ n ih =>
    intro s x2 x3 hG f b_x2 b_x3 r_2_3  hm
    refine x_A k86_4 (fun _ => rfl) ?_
    refine x_A k86_5 (fun _ => rfl) ?_
    refine x_getR k86_6 (f := 1) rfl (q := 243) (n := 13) (kd := 13) ⟨by decide, rfl⟩ (q2 := 50) (by decide) rfl ?_
    refine x_getI k86_9 (f := 6) rfl (q := 50) (n := 7) (kd := 6) ⟨by decide, rfl⟩ (by decide) rfl ?_
    refine x_top (fun z106 e_z106 => ?_)
    have g_z106 : (0 : Int) ≤ s 50 6 ∧ s 50 6 ≤ 120 := hG 50 6
    refine x_ic_ge k86_12 (t := 33) rfl (by first | exact x_rb b_x3 rfl rfl | exact ⟨by omega, by omega⟩) (by first | exact x_rbe e_z106 g_z106 rfl rfl | exact x_rb g_z106 rfl rfl | exact ⟨by omega, by omega⟩) (fun c107 => ?_) (fun c107 => ?_)
    · skip
      refine x_A k86_33 (fun _ => rfl) ?_
      exact x_iret k86_34 rfl ⟨hG, f, x2, rfl, (by first | exact x_rb b_x2 rfl rfl | exact ⟨by omega, by omega⟩)⟩
    · skip
      refine x_A k86_15 (fun _ => rfl) ?_
      refine x_A k86_16 (fun _ => rfl) ?_
      refine x_A k86_17 (fun _ => rfl) ?_
      refine x_callV k86_18 (y := 83) (n := 2) (w0 := 0) (w1 := 2) (as := [vi x3, .ref 209]) (rest := []) (by decide +kernel) (q := 243) (nq := 13) (kq := 13) ⟨by decide, rfl⟩ rfl rfl rfl rfl (xe_mono (C_X8_isLacking_243_209 s hG x3 (by first | exact x_rb b_x3 rfl rfl | exact ⟨by omega, by omega⟩)) ?_)
      rintro s109 v ⟨-, t_s109, z108, rfl, g_z108⟩
      rw [t_s109.nil]
      show xe none 86 21 [(0, .ref 243), (1, .ref 209), (2, vi x2), (3, vi x3)] [vi z108] s 0 0 _
      refine x_if_eq k86_21 (t := 27) rfl (by first | exact x_rbe e_z108 g_z108 rfl rfl | exact x_rb g_z108 rfl rfl | exact ⟨by omega, by omega⟩) (fun c110 => ?_) (fun c110 => ?_)
      · skip
        refine x_iinc k86_27 (ls' := [(3, vi (x3 + 1)), (0, .ref 243), (1, .ref 209), (2, vi x2)]) rfl (by decide) rfl ?_
        refine x_goto k86_30 (t := 4) rfl ?_
        refine x_ls (l := [(0, .ref 243), (1, .ref 209), (2, vi x2), (3, vi (x3 + 1))]) (show ([0, 1, 2, 3] : List Nat).Nodup from by decide +kernel) ⟨rfl, rfl, rfl, rfl, trivial⟩ ?_
        exact ih s x2 (x3 + 1) hG f (by first | exact x_rb b_x2 rfl rfl | exact ⟨by omega, by omega⟩) ⟨by omega, by omega⟩ (by omega)  (by omega)
      · skip
        refine x_iinc k86_24 (ls' := [(2, vi (x2 + 1)), (0, .ref 243), (1, .ref 209), (3, vi x3)]) rfl (by decide) rfl ?_
        refine x_iinc k86_27 (ls' := [(3, vi (x3 + 1)), (2, vi (x2 + 1)), (0, .ref 243), (1, .ref 209)]) rfl (by decide) rfl ?_
        refine x_goto k86_30 (t := 4) rfl ?_
        refine x_ls (l := [(0, .ref 243), (1, .ref 209), (2, vi (x2 + 1)), (3, vi (x3 + 1))]) (show ([0, 1, 2, 3] : List Nat).Nodup from by decide +kernel) ⟨rfl, rfl, rfl, rfl, trivial⟩ ?_
        exact ih s (x2 + 1) (x3 + 1) hG f ⟨by omega, by omega⟩ ⟨by omega, by omega⟩ (by omega)  (by omega)
theorem C_X8_countLacking_243_209 (s0 : xS) (hG0 : GI s0)  : xe none 86 0 (lv_args 0 [.ref 243, .ref 209]) [] s0 0 0 (fun s' v => GI s' ∧ FL [] s0 s' ∧ ∃ z, v = some (vi z) ∧ (0 ≤ z ∧ z ≤ 120)) := by
  have f0 : FL [] s0 s0 := FL.rf
  show xe none 86 0 [(0, .ref 243), (1, .ref 209)] [] s0 0 0 _
  refine x_A k86_0 (fun _ => rfl) ?_
  refine x_istore_n k86_1 (ls' := [(2, vi 0), (0, .ref 243), (1, .ref 209)]) (by decide) rfl ?_
  refine x_A k86_2 (fun _ => rfl) ?_
  refine x_istore_n k86_3 (ls' := [(3, vi 0), (2, vi 0), (0, .ref 243), (1, .ref 209)]) (by decide) rfl ?_
  refine x_ls (l := [(0, .ref 243), (1, .ref 209), (2, vi 0), (3, vi 0)]) (show ([0, 1, 2, 3] : List Nat).Nodup from by decide +kernel) ⟨rfl, rfl, rfl, rfl, trivial⟩ ?_
  exact L_C_X8_countLacking_243_209_4 s0   (((120 - 0) + 1 : Int)).toNat s0 0 0 hG0 f0 ⟨by decide, by decide⟩ ⟨by decide, by decide⟩ (by omega)  (by omega)
theorem C_X10_metByOne_0 (s0 : xS) (hG0 : GI s0) (a : Int) (b_a : (-2147483648) ≤ a ∧ a ≤ 2147483647) (b : Int) (b_b : (-2147483648) ≤ b ∧ b ≤ 2147483647) (d : Int) (b_d : (-2147483648) ≤ d ∧ d ≤ 2147483647) : xe none 134 0 (lv_args 0 [.ref 0, vi a, vi b, vi d]) [] s0 0 0 (fun s' v => GI s' ∧ FL [] s0 s' ∧ ∃ z, v = some (vj z) ∧ in64 z) := by
  have f0 : FL [] s0 s0 := FL.rf
  show xe none 134 0 [(0, .ref 0), (1, vi a), (2, vi b), (3, vi d)] [] s0 0 0 _
  refine x_A k134_0 (fun _ => rfl) ?_
  have c1 : a = 1 ∨ a = 2 ∨ a = 3 ∨ a = 4 ∨ ¬ (1 ≤ a ∧ a ≤ 4) := by omega
  rcases c1 with c1 | c1 | c1 | c1 | c1
  · rw [c1]
    refine x_B k134_1 rfl (fun _ => rfl) (fun _ => rfl) (fun _ _ => rfl) ?_
    show xe none 134 32 [(0, .ref 0), (1, vi 1), (2, vi b), (3, vi d)] [] s0 0 0 _
    refine x_A k134_32 (fun _ => rfl) ?_
    refine x_getR k134_33 (f := 9) rfl (q := 0) (n := 12) (kd := 3) ⟨by decide, rfl⟩ (q2 := 243) (by decide) rfl ?_
    refine x_A k134_36 (fun _ => rfl) ?_
    refine x_callV k134_37 (y := 79) (n := 1) (w0 := 0) (w1 := 1) (as := [vi b]) (rest := []) (by decide +kernel) (q := 243) (nq := 13) (kq := 13) ⟨by decide, rfl⟩ rfl rfl rfl rfl (xe_mono (C_X8_showing_243 s0 hG0 b (by first | exact x_rb b_b rfl rfl | exact ⟨by omega, by omega⟩)) ?_)
    rintro s3 v ⟨-, t_s3, z2, rfl, b_z2⟩
    rw [t_s3.nil]
    show xe none 134 40 [(0, .ref 0), (1, vi 1), (2, vi b), (3, vi d)] [vj z2] s0 0 0 _
    exact x_lret k134_40 rfl ⟨hG0, f0, z2, rfl, b_z2⟩
  · rw [c1]
    refine x_B k134_1 rfl (fun _ => rfl) (fun _ => rfl) (fun _ _ => rfl) ?_
    show xe none 134 41 [(0, .ref 0), (1, vi 2), (2, vi b), (3, vi d)] [] s0 0 0 _
    refine x_A k134_41 (fun _ => rfl) ?_
    refine x_getR k134_42 (f := 9) rfl (q := 0) (n := 12) (kd := 3) ⟨by decide, rfl⟩ (q2 := 243) (by decide) rfl ?_
    refine x_A k134_45 (fun _ => rfl) ?_
    refine x_getR k134_46 (f := 6) rfl (q := 0) (n := 12) (kd := 3) ⟨by decide, rfl⟩ (q2 := 214) (by decide) rfl ?_
    refine x_A k134_49 (fun _ => rfl) ?_
    refine x_bipush k134_50 (by decide +kernel) ?_
    refine x_idiv_any k134_52 ⟨by omega, by omega⟩ (by omega) (fun z4 g_z4 => ?_)
    unfold in32 at g_z4
    refine x_A k134_53 (fun _ => rfl) ?_
    refine x_bipush k134_54 (by decide +kernel) ?_
    refine x_irem_any k134_56 ⟨by omega, by omega⟩ (by omega) (fun z5 g_z5 => ?_)
    unfold in32 at g_z5
    refine x_callV k134_57 (y := 89) (n := 2) (w0 := 1) (w1 := 2) (as := [vi z4, vi z5]) (rest := [.ref 243]) (by decide +kernel) (q := 214) (nq := 4) (kq := 10) ⟨by decide, rfl⟩ rfl rfl rfl rfl (xe_mono (C_X9_marksOf_214 s0 hG0 z4 (by first | exact x_rbe e_z4 g_z4 rfl rfl | exact x_rb g_z4 rfl rfl | exact ⟨by omega, by omega⟩) z5 (by first | exact x_rbe e_z5 g_z5 rfl rfl | exact x_rb g_z5 rfl rfl | exact ⟨by omega, by omega⟩)) ?_)
    rintro s7 v ⟨-, t_s7, z6, rfl, b_z6⟩
    rw [t_s7.nil]
    show xe none 134 60 [(0, .ref 0), (1, vi 2), (2, vi b), (3, vi d)] [vj z6, .ref 243] s0 0 0 _
    refine x_callV k134_60 (y := 80) (n := 1) (w0 := 0) (w1 := 2) (as := [vj z6]) (rest := []) (by decide +kernel) (q := 243) (nq := 13) (kq := 13) ⟨by decide, rfl⟩ rfl rfl rfl rfl (xe_mono (C_X8_showingAny_243 s0 hG0 z6 b_z6) ?_)
    rintro s9 v ⟨-, t_s9, z8, rfl, b_z8⟩
    rw [t_s9.nil]
    show xe none 134 63 [(0, .ref 0), (1, vi 2), (2, vi b), (3, vi d)] [vj z8] s0 0 0 _
    exact x_lret k134_63 rfl ⟨hG0, f0, z8, rfl, b_z8⟩
  · rw [c1]
    refine x_B k134_1 rfl (fun _ => rfl) (fun _ => rfl) (fun _ _ => rfl) ?_
    show xe none 134 64 [(0, .ref 0), (1, vi 3), (2, vi b), (3, vi d)] [] s0 0 0 _
    refine x_A k134_64 (fun _ => rfl) ?_
    refine x_getR k134_65 (f := 2) rfl (q := 0) (n := 12) (kd := 3) ⟨by decide, rfl⟩ (q2 := 50) (by decide) rfl ?_
    refine x_A k134_68 (fun _ => rfl) ?_
    refine x_A k134_69 (fun _ => rfl) ?_
    refine x_callV k134_70 (y := 27) (n := 2) (w0 := 0) (w1 := 2) (as := [vi b, vi d]) (rest := []) (by decide +kernel) (q := 50) (nq := 7) (kq := 6) ⟨by decide, rfl⟩ rfl rfl rfl rfl (xe_mono (C_X2_picturesOf_50 s0 hG0 b (by first | exact x_rb b_b rfl rfl | exact ⟨by omega, by omega⟩) d (by first | exact x_rb b_d rfl rfl | exact ⟨by omega, by omega⟩)) ?_)
    rintro s11 v ⟨-, t_s11, z10, rfl, b_z10⟩
    rw [t_s11.nil]
    show xe none 134 73 [(0, .ref 0), (1, vi 3), (2, vi b), (3, vi d)] [vj z10] s0 0 0 _
    exact x_lret k134_73 rfl ⟨hG0, f0, z10, rfl, b_z10⟩
  · rw [c1]
    refine x_B k134_1 rfl (fun _ => rfl) (fun _ => rfl) (fun _ _ => rfl) ?_
    show xe none 134 74 [(0, .ref 0), (1, vi 4), (2, vi b), (3, vi d)] [] s0 0 0 _
    refine x_A k134_74 (fun _ => rfl) ?_
    refine x_getR k134_75 (f := 1) rfl (q := 0) (n := 12) (kd := 3) ⟨by decide, rfl⟩ (q2 := 46) (by decide) rfl ?_
    refine x_A k134_78 (fun _ => rfl) ?_
    refine x_A k134_79 (fun _ => rfl) ?_
    refine x_A k134_80 (fun _ => rfl) ?_
    refine x_isub k134_81 ?_
    refine x_topW (fun z12 g_z12 => ?_)
    unfold in32 at g_z12
    refine x_callV k134_82 (y := 32) (n := 2) (w0 := 0) (w1 := 2) (as := [vi 0, vi z12]) (rest := []) (by decide +kernel) (q := 46) (nq := 4) (kq := 5) ⟨by decide, rfl⟩ rfl rfl rfl rfl (xe_mono (C_X3_ofYears_46 s0 hG0 0 ⟨by decide, by decide⟩ z12 (by first | exact x_rbe e_z12 g_z12 rfl rfl | exact x_rb g_z12 rfl rfl | exact ⟨by omega, by omega⟩)) ?_)
    rintro s14 v ⟨-, t_s14, z13, rfl, b_z13⟩
    rw [t_s14.nil]
    show xe none 134 85 [(0, .ref 0), (1, vi 4), (2, vi b), (3, vi d)] [vj z13] s0 0 0 _
    exact x_lret k134_85 rfl ⟨hG0, f0, z13, rfl, b_z13⟩
  · refine x_tabD k134_1 ⟨by omega, by omega⟩ c1 (t0 := 86) rfl ?_
    refine x_A k134_86 (fun _ => rfl) ?_
    refine x_getR k134_87 (f := 1) rfl (q := 0) (n := 12) (kd := 3) ⟨by decide, rfl⟩ (q2 := 46) (by decide) rfl ?_
    refine x_A k134_90 (fun _ => rfl) ?_
    refine x_callV k134_91 (y := 33) (n := 1) (w0 := 0) (w1 := 1) (as := [vi b]) (rest := []) (by decide +kernel) (q := 46) (nq := 4) (kq := 5) ⟨by decide, rfl⟩ rfl rfl rfl rfl (xe_mono (C_X3_atPlace_46 s0 hG0 b (by first | exact x_rb b_b rfl rfl | exact ⟨by omega, by omega⟩)) ?_)
    rintro s16 v ⟨-, t_s16, z15, rfl, b_z15⟩
    rw [t_s16.nil]
    show xe none 134 94 [(0, .ref 0), (1, vi a), (2, vi b), (3, vi d)] [vj z15] s0 0 0 _
    exact x_lret k134_94 rfl ⟨hG0, f0, z15, rfl, b_z15⟩
theorem L_C_X10_metBy_0_14 (s0 : xS)   : ∀ (n : Nat) (s : xS) (x1 : Int) (x2 : Int) (x4 : Int) (x5 : Int) (hG : GI s) (f : FL [2752] s0 s) (b_x1 : 0 ≤ x1 ∧ x1 ≤ 7) (b_x2 : (-2147483648) ≤ x2 ∧ x2 ≤ 2147483647) (b_x4 : 0 ≤ x4 ∧ x4 ≤ 100) (b_x5 : 0 ≤ x5 ∧ x5 ≤ 100) (r_4_5 : x4 ≤ x5 + 0)  (hm : (100 - x5) < (n : Int)), xe none 133 14 [(0, .ref 0), (1, vi x1), (2, vi x2), (3, .ref 229), (4, vi x4), (5, vi x5)] [] s 0 0 (fun s' v => GI s' ∧ FL [2752] s0 s' ∧ ∃ z, v = some (vj z) ∧ in64 z) := by
  intro n
  induction n with
  | zero => intro s x1 x2 x4 x5 hG f b_x1 b_x2 b_x4 b_x5 r_4_5  hm; exfalso; omega
  | succ n ih =>
    intro s x1 x2 x4 x5 hG f b_x1 b_x2 b_x4 b_x5 r_4_5  hm
    refine x_A k133_14 (fun _ => rfl) ?_
    refine x_A k133_16 (fun _ => rfl) ?_
    refine x_getR k133_17 (f := 7) rfl (q := 0) (n := 12) (kd := 3) ⟨by decide, rfl⟩ (q2 := 218) (by decide) rfl ?_
    refine x_getR k133_20 (f := 0) rfl (q := 218) (n := 7) (kd := 11) ⟨by decide, rfl⟩ (q2 := 219) (by decide) rfl ?_
    refine x_A k133_23 (fun _ => rfl) ?_
    refine x_iald k133_24 (q := 219) (n := 8) ⟨by decide, rfl⟩ (by decide) (by first | exact x_rbl b_x1 rfl rfl | exact ⟨by omega, by omega⟩) ?_
    refine x_top (fun z754 e_z754 => ?_)
    have g_z754 : (0 : Int) ≤ s 219 x1.toNat ∧ s 219 x1.toNat ≤ 100 := hG 219 x1.toNat
    refine x_ic_ge k133_25 (t := 188) rfl (by first | exact x_rb b_x5 rfl rfl | exact ⟨by omega, by omega⟩) (by first | exact x_rbe e_z754 g_z754 rfl rfl | exact x_rb g_z754 rfl rfl | exact ⟨by omega, by omega⟩) (fun c755 => ?_) (fun c755 => ?_)
    · skip
      refine x_A k133_188 (fun _ => rfl) ?_
      refine x_A k133_190 (fun _ => rfl) ?_
      refine x_ic_ne k133_191 (t := 200) rfl (by first | exact x_rb b_x4 rfl rfl | exact ⟨by omega, by omega⟩) ⟨by decide, by decide⟩ (fun c756 => ?_) (fun c756 => ?_)
      · skip
        refine x_lconst k133_200 (z := 0) (by decide +kernel) ?_
        exact x_lret k133_201 rfl ⟨hG, f, 0, rfl, ⟨by omega, by omega⟩⟩
      · skip
        refine x_A k133_194 (fun _ => rfl) ?_
        refine x_A k133_195 (fun _ => rfl) ?_
        refine x_lald k133_196 (q := 229) (n := 100) ⟨by decide, rfl⟩ (by decide) ⟨by decide, by decide⟩ ?_
        refine x_topL (fun z757 e_z757 => ?_)
        have b_z757 : in64 z757 := by rw [e_z757]; exact hG 229 0
        refine x_goto k133_197 (t := 201) rfl ?_
        exact x_lret k133_201 rfl ⟨hG, f, z757, rfl, b_z757⟩
    · skip
      refine x_A k133_28 (fun _ => rfl) ?_
      refine x_A k133_30 (fun _ => rfl) ?_
      refine x_alen k133_31 (q := 229) (t := 21) (n := 100) (kd := 1) ⟨by decide, rfl⟩ (by decide) ?_
      refine x_top (fun z758 e_z758 => ?_)
      refine x_ic_ge k133_32 (t := 188) rfl (by first | exact x_rb b_x4 rfl rfl | exact ⟨by omega, by omega⟩) (by first | exact x_rbe e_z758 g_z758 rfl rfl | exact x_rb g_z758 rfl rfl | exact ⟨by omega, by omega⟩) (fun c759 => ?_) (fun c759 => ?_)
      · skip
        refine x_A k133_188 (fun _ => rfl) ?_
        refine x_A k133_190 (fun _ => rfl) ?_
        refine x_ic_ne k133_191 (t := 200) rfl (by first | exact x_rb b_x4 rfl rfl | exact ⟨by omega, by omega⟩) ⟨by decide, by decide⟩ (fun c760 => ?_) (fun c760 => by exfalso; omega)
        refine x_lconst k133_200 (z := 0) (by decide +kernel) ?_
        exact x_lret k133_201 rfl ⟨hG, f, 0, rfl, ⟨by omega, by omega⟩⟩
      · skip
        refine x_A k133_35 (fun _ => rfl) ?_
        refine x_getR k133_36 (f := 7) rfl (q := 0) (n := 12) (kd := 3) ⟨by decide, rfl⟩ (q2 := 218) (by decide) rfl ?_
        refine x_getR k133_39 (f := 1) rfl (q := 218) (n := 7) (kd := 11) ⟨by decide, rfl⟩ (q2 := 220) (by decide) rfl ?_
        refine x_A k133_42 (fun _ => rfl) ?_
        refine x_aald k133_43 (q := 220) (t := 23) (n := 8) ⟨by decide, rfl⟩ (by decide) (by decide) ⟨by omega, by omega⟩ ?_
        refine x_A k133_44 (fun _ => rfl) ?_
        refine x_iald k133_46 (q := (220 + 1 + x1.toNat)) (n := 100) (xg_221 (by omega) (by omega)) (by decide) (by first | exact x_rbl b_x5 rfl rfl | exact ⟨by omega, by omega⟩) ?_
        refine x_top (fun z761 e_z761 => ?_)
        have r_z761 := hG (220 + 1 + x1.toNat) x5.toNat
        rw [(gr_221 x5.toNat (show 221 ≤ (220 + 1 + x1.toNat) by omega) (by omega)).1, (gr_221 x5.toNat (show 221 ≤ (220 + 1 + x1.toNat) by omega) (by omega)).2.1, ← e_z761] at r_z761
        refine x_sipush k133_47 (by decide +kernel) ?_
        refine x_idiv_any k133_50 ⟨by omega, by omega⟩ (by omega) (fun z762 g_z762 => ?_)
        unfold in32 at g_z762
        refine x_istore k133_51 (ls' := [(6, vi z762), (0, .ref 0), (1, vi x1), (2, vi x2), (3, .ref 229), (4, vi x4), (5, vi x5)]) (by decide) rfl ?_
        refine x_A k133_53 (fun _ => rfl) ?_
        refine x_bipush k133_55 (by decide +kernel) ?_
        refine x_ic_ge k133_57 (t := 93) rfl (by first | exact x_rbe e_z762 g_z762 rfl rfl | exact x_rb g_z762 rfl rfl | exact ⟨by omega, by omega⟩) ⟨by decide, by decide⟩ (fun c763 => ?_) (fun c763 => ?_)
        · skip
          refine x_A k133_93 (fun _ => rfl) ?_
          refine x_bipush k133_95 (by decide +kernel) ?_
          refine x_ic_ne k133_97 (t := 133) rfl (by first | exact x_rbe e_z762 g_z762 rfl rfl | exact x_rb g_z762 rfl rfl | exact ⟨by omega, by omega⟩) ⟨by decide, by decide⟩ (fun c764 => ?_) (fun c764 => ?_)
          · skip
            refine x_A k133_133 (fun _ => rfl) ?_
            refine x_A k133_135 (fun _ => rfl) ?_
            refine x_ic_lt k133_136 (t := 182) rfl (by first | exact x_rb b_x4 rfl rfl | exact ⟨by omega, by omega⟩) ⟨by decide, by decide⟩ (fun c765 => ?_) (fun c765 => ?_)
            · skip
              refine x_iinc k133_182 (ls' := [(5, vi (x5 + 1)), (6, vi z762), (0, .ref 0), (1, vi x1), (2, vi x2), (3, .ref 229), (4, vi x4)]) rfl (by decide) rfl ?_
              refine x_goto k133_185 (t := 14) rfl ?_
              refine x_ls (l := [(0, .ref 0), (1, vi x1), (2, vi x2), (3, .ref 229), (4, vi x4), (5, vi (x5 + 1))]) (show ([0, 1, 2, 3, 4, 5] : List Nat).Nodup from by decide +kernel) ⟨rfl, rfl, rfl, rfl, rfl, rfl, trivial⟩ ?_
              exact ih s x1 x2 x4 (x5 + 1) hG f (by first | exact x_rb b_x1 rfl rfl | exact ⟨by omega, by omega⟩) (by first | exact x_rb b_x2 rfl rfl | exact ⟨by omega, by omega⟩) (by first | exact x_rb b_x4 rfl rfl | exact ⟨by omega, by omega⟩) ⟨by omega, by omega⟩ (by omega)  (by omega)
            · skip
              refine x_iinc k133_139 (ls' := [(4, vi (x4 + (-1))), (6, vi z762), (0, .ref 0), (1, vi x1), (2, vi x2), (3, .ref 229), (5, vi x5)]) rfl (by decide) rfl ?_
              refine x_A k133_142 (fun _ => rfl) ?_
              refine x_A k133_143 (fun _ => rfl) ?_
              refine x_lald k133_145 (q := 229) (n := 100) ⟨by decide, rfl⟩ (by decide) ⟨by omega, by omega⟩ ?_
              refine x_topL (fun z766 e_z766 => ?_)
              have b_z766 : in64 z766 := by rw [e_z766]; exact hG 229 ((x4 + (-1))).toNat
              refine x_lstore k133_146 (ls' := [(7, vj z766), (4, vi (x4 + (-1))), (6, vi z762), (0, .ref 0), (1, vi x1), (2, vi x2), (3, .ref 229), (5, vi x5)]) (by decide) rfl ?_
              refine x_A k133_148 (fun _ => rfl) ?_
              refine x_A k133_149 (fun _ => rfl) ?_
              refine x_A k133_151 (fun _ => rfl) ?_
              refine x_isub k133_152 ?_
              refine x_top (fun z767 e_z767 => ?_)
              refine x_A k133_153 (fun _ => rfl) ?_
              refine x_bipush k133_155 (by decide +kernel) ?_
              refine x_ic_ne k133_157 (t := 172) rfl (by first | exact x_rbe e_z762 g_z762 rfl rfl | exact x_rb g_z762 rfl rfl | exact ⟨by omega, by omega⟩) ⟨by decide, by decide⟩ (fun c768 => ?_) (fun c768 => ?_)
              · skip
                refine x_A k133_172 (fun _ => rfl) ?_
                refine x_A k133_173 (fun _ => rfl) ?_
                refine x_A k133_175 (fun _ => rfl) ?_
                refine x_isub k133_176 ?_
                refine x_top (fun z769 e_z769 => ?_)
                refine x_lald k133_177 (q := 229) (n := 100) ⟨by decide, rfl⟩ (by decide) (by first | exact x_rbel e_z769 g_z769 rfl rfl | exact x_rbl g_z769 rfl rfl | exact ⟨by omega, by omega⟩) ?_
                refine x_topL (fun z770 e_z770 => ?_)
                have b_z770 : in64 z770 := by rw [e_z770]; exact hG 229 z769.toNat
                refine x_A k133_178 (fun _ => rfl) ?_
                refine x_lor_any k133_180 (fun z771 b_z771 => ?_)
                refine x_last k133_181 (q := 229) (n := 100) ⟨by decide, rfl⟩ (by decide) (by first | exact x_rbel e_z767 g_z767 rfl rfl | exact x_rbl g_z767 rfl rfl | exact ⟨by omega, by omega⟩) ?_
                refine x_nh (fun s772 e_s772 => ?_)
                have hG_s772 : GI s772 := by rw [e_s772]; exact hG.up (show in64 z771 from b_z771)
                have f_s772 : FL [2752] s0 s772 := by rw [e_s772]; exact f.up (show 2752 ∈ [2752] from by decide +kernel)
                have q773 : s772 219 x1.toNat = z754 := by rw [e_s772, x_up_q (by first | decide | omega)]; exact e_z754.symm
                have q774 : s772 (220 + 1 + x1.toNat) x5.toNat = z761 := by rw [e_s772, x_up_q (by omega)]; exact e_z761.symm
                refine x_iinc k133_182 (ls' := [(5, vi (x5 + 1)), (7, vj z766), (4, vi (x4 + (-1))), (6, vi z762), (0, .ref 0), (1, vi x1), (2, vi x2), (3, .ref 229)]) rfl (by decide) rfl ?_
                refine x_goto k133_185 (t := 14) rfl ?_
                refine x_ls (l := [(0, .ref 0), (1, vi x1), (2, vi x2), (3, .ref 229), (4, vi (x4 + (-1))), (5, vi (x5 + 1))]) (show ([0, 1, 2, 3, 4, 5] : List Nat).Nodup from by decide +kernel) ⟨rfl, rfl, rfl, rfl, rfl, rfl, trivial⟩ ?_
                exact ih s772 x1 x2 (x4 + (-1)) (x5 + 1) hG_s772 f_s772 (by first | exact x_rb b_x1 rfl rfl | exact ⟨by omega, by omega⟩) (by first | exact x_rb b_x2 rfl rfl | exact ⟨by omega, by omega⟩) ⟨by omega, by omega⟩ ⟨by omega, by omega⟩ (by omega)  (by omega)
              · skip
                refine x_A k133_160 (fun _ => rfl) ?_
                refine x_A k133_161 (fun _ => rfl) ?_
                refine x_A k133_163 (fun _ => rfl) ?_
                refine x_isub k133_164 ?_
                refine x_top (fun z775 e_z775 => ?_)
                refine x_lald k133_165 (q := 229) (n := 100) ⟨by decide, rfl⟩ (by decide) (by first | exact x_rbel e_z775 g_z775 rfl rfl | exact x_rbl g_z775 rfl rfl | exact ⟨by omega, by omega⟩) ?_
                refine x_topL (fun z776 e_z776 => ?_)
                have b_z776 : in64 z776 := by rw [e_z776]; exact hG 229 z775.toNat
                refine x_A k133_166 (fun _ => rfl) ?_
                refine x_land_any k133_168 (fun z777 b_z777 => ?_)
                refine x_goto k133_169 (t := 181) rfl ?_
                refine x_last k133_181 (q := 229) (n := 100) ⟨by decide, rfl⟩ (by decide) (by first | exact x_rbel e_z767 g_z767 rfl rfl | exact x_rbl g_z767 rfl rfl | exact ⟨by omega, by omega⟩) ?_
                refine x_nh (fun s778 e_s778 => ?_)
                have hG_s778 : GI s778 := by rw [e_s778]; exact hG.up (show in64 z777 from b_z777)
                have f_s778 : FL [2752] s0 s778 := by rw [e_s778]; exact f.up (show 2752 ∈ [2752] from by decide +kernel)
                have q779 : s778 219 x1.toNat = z754 := by rw [e_s778, x_up_q (by first | decide | omega)]; exact e_z754.symm
                have q780 : s778 (220 + 1 + x1.toNat) x5.toNat = z761 := by rw [e_s778, x_up_q (by omega)]; exact e_z761.symm
                refine x_iinc k133_182 (ls' := [(5, vi (x5 + 1)), (7, vj z766), (4, vi (x4 + (-1))), (6, vi z762), (0, .ref 0), (1, vi x1), (2, vi x2), (3, .ref 229)]) rfl (by decide) rfl ?_
                refine x_goto k133_185 (t := 14) rfl ?_
                refine x_ls (l := [(0, .ref 0), (1, vi x1), (2, vi x2), (3, .ref 229), (4, vi (x4 + (-1))), (5, vi (x5 + 1))]) (show ([0, 1, 2, 3, 4, 5] : List Nat).Nodup from by decide +kernel) ⟨rfl, rfl, rfl, rfl, rfl, rfl, trivial⟩ ?_
                exact ih s778 x1 x2 (x4 + (-1)) (x5 + 1) hG_s778 f_s778 (by first | exact x_rb b_x1 rfl rfl | exact ⟨by omega, by omega⟩) (by first | exact x_rb b_x2 rfl rfl | exact ⟨by omega, by omega⟩) ⟨by omega, by omega⟩ ⟨by omega, by omega⟩ (by omega)  (by omega)
          · skip
            refine x_A k133_100 (fun _ => rfl) ?_
            refine x_A k133_102 (fun _ => rfl) ?_
            refine x_ic_lt k133_103 (t := 133) rfl (by first | exact x_rb b_x4 rfl rfl | exact ⟨by omega, by omega⟩) ⟨by decide, by decide⟩ (fun c781 => ?_) (fun c781 => ?_)
            · skip
              refine x_A k133_133 (fun _ => rfl) ?_
              refine x_A k133_135 (fun _ => rfl) ?_
              refine x_ic_lt k133_136 (t := 182) rfl (by first | exact x_rb b_x4 rfl rfl | exact ⟨by omega, by omega⟩) ⟨by decide, by decide⟩ (fun c782 => ?_) (fun c782 => by exfalso; omega)
              refine x_iinc k133_182 (ls' := [(5, vi (x5 + 1)), (6, vi z762), (0, .ref 0), (1, vi x1), (2, vi x2), (3, .ref 229), (4, vi x4)]) rfl (by decide) rfl ?_
              refine x_goto k133_185 (t := 14) rfl ?_
              refine x_ls (l := [(0, .ref 0), (1, vi x1), (2, vi x2), (3, .ref 229), (4, vi x4), (5, vi (x5 + 1))]) (show ([0, 1, 2, 3, 4, 5] : List Nat).Nodup from by decide +kernel) ⟨rfl, rfl, rfl, rfl, rfl, rfl, trivial⟩ ?_
              exact ih s x1 x2 x4 (x5 + 1) hG f (by first | exact x_rb b_x1 rfl rfl | exact ⟨by omega, by omega⟩) (by first | exact x_rb b_x2 rfl rfl | exact ⟨by omega, by omega⟩) (by first | exact x_rb b_x4 rfl rfl | exact ⟨by omega, by omega⟩) ⟨by omega, by omega⟩ (by omega)  (by omega)
            · skip
              refine x_A k133_106 (fun _ => rfl) ?_
              refine x_A k133_107 (fun _ => rfl) ?_
              refine x_A k133_109 (fun _ => rfl) ?_
              refine x_isub k133_110 ?_
              refine x_top (fun z783 e_z783 => ?_)
              refine x_A k133_111 (fun _ => rfl) ?_
              refine x_getR k133_112 (f := 1) rfl (q := 0) (n := 12) (kd := 3) ⟨by decide, rfl⟩ (q2 := 46) (by decide) rfl ?_
              refine x_callV k133_115 (y := 31) (n := 0) (w0 := 2) (w1 := 0) (as := []) (rest := [vi z783, .ref 229]) (by decide +kernel) (q := 46) (nq := 4) (kq := 5) ⟨by decide, rfl⟩ rfl rfl rfl rfl (xe_mono (C_X3_all_46 s hG) ?_)
              rintro s785 v ⟨-, t_s785, z784, rfl, b_z784⟩
              rw [t_s785.nil]
              show xe none 133 118 [(6, vi z762), (0, .ref 0), (1, vi x1), (2, vi x2), (3, .ref 229), (4, vi x4), (5, vi x5)] [vj z784, vi z783, .ref 229] s 0 0 _
              refine x_A k133_118 (fun _ => rfl) ?_
              refine x_A k133_119 (fun _ => rfl) ?_
              refine x_A k133_121 (fun _ => rfl) ?_
              refine x_isub k133_122 ?_
              refine x_top (fun z786 e_z786 => ?_)
              refine x_lald k133_123 (q := 229) (n := 100) ⟨by decide, rfl⟩ (by decide) (by first | exact x_rbel e_z786 g_z786 rfl rfl | exact x_rbl g_z786 rfl rfl | exact ⟨by omega, by omega⟩) ?_
              refine x_topL (fun z787 e_z787 => ?_)
              have b_z787 : in64 z787 := by rw [e_z787]; exact hG 229 z786.toNat
              refine x_ldc2 k133_124 (z := (-1)) rfl (by decide +kernel) ?_
              refine x_lxor_any k133_127 (fun z788 b_z788 => ?_)
              refine x_land_any k133_128 (fun z789 b_z789 => ?_)
              refine x_last k133_129 (q := 229) (n := 100) ⟨by decide, rfl⟩ (by decide) (by first | exact x_rbel e_z783 g_z783 rfl rfl | exact x_rbl g_z783 rfl rfl | exact ⟨by omega, by omega⟩) ?_
              refine x_nh (fun s790 e_s790 => ?_)
              have hG_s790 : GI s790 := by rw [e_s790]; exact hG.up (show in64 z789 from b_z789)
              have f_s790 : FL [2752] s0 s790 := by rw [e_s790]; exact f.up (show 2752 ∈ [2752] from by decide +kernel)
              have q791 : s790 219 x1.toNat = z754 := by rw [e_s790, x_up_q (by first | decide | omega)]; exact e_z754.symm
              have q792 : s790 (220 + 1 + x1.toNat) x5.toNat = z761 := by rw [e_s790, x_up_q (by omega)]; exact e_z761.symm
              refine x_goto k133_130 (t := 182) rfl ?_
              refine x_iinc k133_182 (ls' := [(5, vi (x5 + 1)), (6, vi z762), (0, .ref 0), (1, vi x1), (2, vi x2), (3, .ref 229), (4, vi x4)]) rfl (by decide) rfl ?_
              refine x_goto k133_185 (t := 14) rfl ?_
              refine x_ls (l := [(0, .ref 0), (1, vi x1), (2, vi x2), (3, .ref 229), (4, vi x4), (5, vi (x5 + 1))]) (show ([0, 1, 2, 3, 4, 5] : List Nat).Nodup from by decide +kernel) ⟨rfl, rfl, rfl, rfl, rfl, rfl, trivial⟩ ?_
              exact ih s790 x1 x2 x4 (x5 + 1) hG_s790 f_s790 (by first | exact x_rb b_x1 rfl rfl | exact ⟨by omega, by omega⟩) (by first | exact x_rb b_x2 rfl rfl | exact ⟨by omega, by omega⟩) (by first | exact x_rb b_x4 rfl rfl | exact ⟨by omega, by omega⟩) ⟨by omega, by omega⟩ (by omega)  (by omega)
        · skip
          refine x_A k133_60 (fun _ => rfl) ?_
          refine x_A k133_61 (fun _ => rfl) ?_
          refine x_iinc k133_63 (ls' := [(4, vi (x4 + 1)), (6, vi z762), (0, .ref 0), (1, vi x1), (2, vi x2), (3, .ref 229), (5, vi x5)]) rfl (by decide) rfl ?_
          refine x_A k133_66 (fun _ => rfl) ?_
          refine x_A k133_67 (fun _ => rfl) ?_
          refine x_A k133_69 (fun _ => rfl) ?_
          refine x_getR k133_70 (f := 7) rfl (q := 0) (n := 12) (kd := 3) ⟨by decide, rfl⟩ (q2 := 218) (by decide) rfl ?_
          refine x_getR k133_73 (f := 1) rfl (q := 218) (n := 7) (kd := 11) ⟨by decide, rfl⟩ (q2 := 220) (by decide) rfl ?_
          refine x_A k133_76 (fun _ => rfl) ?_
          refine x_aald k133_77 (q := 220) (t := 23) (n := 8) ⟨by decide, rfl⟩ (by decide) (by decide) ⟨by omega, by omega⟩ ?_
          refine x_A k133_78 (fun _ => rfl) ?_
          refine x_iald k133_80 (q := (220 + 1 + x1.toNat)) (n := 100) (xg_221 (by omega) (by omega)) (by decide) (by first | exact x_rbl b_x5 rfl rfl | exact ⟨by omega, by omega⟩) ?_
          rw [e_z761.symm]
          refine x_sipush k133_81 (by decide +kernel) ?_
          refine x_irem_any k133_84 ⟨by omega, by omega⟩ (by omega) (fun z793 g_z793 => ?_)
          unfold in32 at g_z793
          refine x_A k133_85 (fun _ => rfl) ?_
          refine x_callV k133_86 (y := 134) (n := 3) (w0 := 2) (w1 := 3) (as := [vi z762, vi z793, vi x2]) (rest := [vi x4, .ref 229]) (by decide +kernel) (q := 0) (nq := 12) (kq := 3) ⟨by decide, rfl⟩ rfl rfl rfl rfl (xe_mono (C_X10_metByOne_0 s hG z762 (by first | exact x_rbe e_z762 g_z762 rfl rfl | exact x_rb g_z762 rfl rfl | exact ⟨by omega, by omega⟩) z793 (by first | exact x_rbe e_z793 g_z793 rfl rfl | exact x_rb g_z793 rfl rfl | exact ⟨by omega, by omega⟩) x2 (by first | exact x_rb b_x2 rfl rfl | exact ⟨by omega, by omega⟩)) ?_)
          rintro s795 v ⟨-, t_s795, z794, rfl, b_z794⟩
          rw [t_s795.nil]
          show xe none 133 89 [(4, vi (x4 + 1)), (6, vi z762), (0, .ref 0), (1, vi x1), (2, vi x2), (3, .ref 229), (5, vi x5)] [vj z794, vi x4, .ref 229] s 0 0 _
          refine x_last k133_89 (q := 229) (n := 100) ⟨by decide, rfl⟩ (by decide) (by first | exact x_rbl b_x4 rfl rfl | exact ⟨by omega, by omega⟩) ?_
          refine x_nh (fun s796 e_s796 => ?_)
          have hG_s796 : GI s796 := by rw [e_s796]; exact hG.up (show in64 z794 from b_z794)
          have f_s796 : FL [2752] s0 s796 := by rw [e_s796]; exact f.up (show 2752 ∈ [2752] from by decide +kernel)
          have q797 : s796 219 x1.toNat = z754 := by rw [e_s796, x_up_q (by first | decide | omega)]; exact e_z754.symm
          have q798 : s796 (220 + 1 + x1.toNat) x5.toNat = z761 := by rw [e_s796, x_up_q (by omega)]; exact e_z761.symm
          refine x_goto k133_90 (t := 182) rfl ?_
          refine x_iinc k133_182 (ls' := [(5, vi (x5 + 1)), (4, vi (x4 + 1)), (6, vi z762), (0, .ref 0), (1, vi x1), (2, vi x2), (3, .ref 229)]) rfl (by decide) rfl ?_
          refine x_goto k133_185 (t := 14) rfl ?_
          refine x_ls (l := [(0, .ref 0), (1, vi x1), (2, vi x2), (3, .ref 229), (4, vi (x4 + 1)), (5, vi (x5 + 1))]) (show ([0, 1, 2, 3, 4, 5] : List Nat).Nodup from by decide +kernel) ⟨rfl, rfl, rfl, rfl, rfl, rfl, trivial⟩ ?_
          exact ih s796 x1 x2 (x4 + 1) (x5 + 1) hG_s796 f_s796 (by first | exact x_rb b_x1 rfl rfl | exact ⟨by omega, by omega⟩) (by first | exact x_rb b_x2 rfl rfl | exact ⟨by omega, by omega⟩) ⟨by omega, by omega⟩ ⟨by omega, by omega⟩ (by omega)  (by omega)
theorem C_X10_metBy_0 (s0 : xS) (hG0 : GI s0) (a : Int) (b_a : 0 ≤ a ∧ a ≤ 7) (b : Int) (b_b : (-2147483648) ≤ b ∧ b ≤ 2147483647) : xe none 133 0 (lv_args 0 [.ref 0, vi a, vi b]) [] s0 0 0 (fun s' v => GI s' ∧ FL [2752] s0 s' ∧ ∃ z, v = some (vj z) ∧ in64 z) := by
  have f0 : FL [2752] s0 s0 := FL.rf
  show xe none 133 0 [(0, .ref 0), (1, vi a), (2, vi b)] [] s0 0 0 _
  refine x_A k133_0 (fun _ => rfl) ?_
  refine x_getR k133_1 (f := 7) rfl (q := 0) (n := 12) (kd := 3) ⟨by decide, rfl⟩ (q2 := 218) (by decide) rfl ?_
  refine x_getR k133_4 (f := 2) rfl (q := 218) (n := 7) (kd := 11) ⟨by decide, rfl⟩ (q2 := 229) (by decide) rfl ?_
  refine x_astore_n k133_7 (ls' := [(3, .ref 229), (0, .ref 0), (1, vi a), (2, vi b)]) (by decide) rfl ?_
  refine x_A k133_8 (fun _ => rfl) ?_
  refine x_istore k133_9 (ls' := [(4, vi 0), (3, .ref 229), (0, .ref 0), (1, vi a), (2, vi b)]) (by decide) rfl ?_
  refine x_A k133_11 (fun _ => rfl) ?_
  refine x_istore k133_12 (ls' := [(5, vi 0), (4, vi 0), (3, .ref 229), (0, .ref 0), (1, vi a), (2, vi b)]) (by decide) rfl ?_
  refine x_ls (l := [(0, .ref 0), (1, vi a), (2, vi b), (3, .ref 229), (4, vi 0), (5, vi 0)]) (show ([0, 1, 2, 3, 4, 5] : List Nat).Nodup from by decide +kernel) ⟨rfl, rfl, rfl, rfl, rfl, rfl, trivial⟩ ?_
  exact L_C_X10_metBy_0_14 s0   (((100 - 0) + 1 : Int)).toNat s0 a b 0 0 hG0 f0 (by first | exact x_rb b_a rfl rfl | exact ⟨by omega, by omega⟩) (by first | exact x_rb b_b rfl rfl | exact ⟨by omega, by omega⟩) ⟨by decide, by decide⟩ ⟨by decide, by decide⟩ (by omega)  (by omega)
theorem L_C_X11_strikes_256_10 (s0 : xS)   : ∀ (n : Nat) (s : xS) (x1 : Int) (x2 : Int) (x3 : Int) (x4 : Int) (hG : GI s) (f : FL [] s0 s) (b_x1 : 0 ≤ x1 ∧ x1 ≤ 7) (b_x2 : (-2147483648) ≤ x2 ∧ x2 ≤ 2147483647) (b_x3 : 0 ≤ x3 ∧ x3 ≤ 1) (b_x4 : 0 ≤ x4 ∧ x4 ≤ 64) (r_3_4 : x3 ≤ x4 + 0)  (hm : (64 - x4) < (n : Int)), xe none 159 10 [(0, .ref 256), (1, vi x1), (2, vi x2), (3, vi x3), (4, vi x4)] [] s 0 0 (fun s' v => GI s' ∧ FL [] s0 s' ∧ ∃ z, v = some (vi z) ∧ (0 ≤ z ∧ z ≤ 1)) := by
  intro n
  induction n with
  | zero => intro s x1 x2 x3 x4 hG f b_x1 b_x2 b_x3 b_x4 r_3_4  hm; exfalso; omega
  | succ n ih =>
    intro s x1 x2 x3 x4 hG f b_x1 b_x2 b_x3 b_x4 r_3_4  hm
    refine x_A k159_10 (fun _ => rfl) ?_
    refine x_A k159_12 (fun _ => rfl) ?_
    refine x_getR k159_13 (f := 19) rfl (q := 256) (n := 62) (kd := 15) ⟨by decide, rfl⟩ (q2 := 271) (by decide) rfl ?_
    refine x_A k159_16 (fun _ => rfl) ?_
    refine x_A k159_17 (fun _ => rfl) ?_
    refine x_iadd k159_18 ?_
    refine x_top (fun z27 e_z27 => ?_)
    refine x_iald k159_19 (q := 271) (n := 9) ⟨by decide, rfl⟩ (by decide) (by first | exact x_rbel e_z27 g_z27 rfl rfl | exact x_rbl g_z27 rfl rfl | exact ⟨by omega, by omega⟩) ?_
    refine x_top (fun z28 e_z28 => ?_)
    have g_z28 : (0 : Int) ≤ s 271 z27.toNat ∧ s 271 z27.toNat ≤ 64 := hG 271 z27.toNat
    refine x_ic_ge k159_20 (t := 61) rfl (by first | exact x_rb b_x4 rfl rfl | exact ⟨by omega, by omega⟩) (by first | exact x_rbe e_z28 g_z28 rfl rfl | exact x_rb g_z28 rfl rfl | exact ⟨by omega, by omega⟩) (fun c29 => ?_) (fun c29 => ?_)
    · skip
      refine x_A k159_61 (fun _ => rfl) ?_
      exact x_zret k159_62 rfl ⟨by omega, by omega⟩ ⟨hG, f, x3, rfl, (by first | exact x_rb b_x3 rfl rfl | exact ⟨by omega, by omega⟩)⟩
    · skip
      refine x_A k159_23 (fun _ => rfl) ?_
      refine x_if_ne k159_24 (t := 49) rfl (by first | exact x_rb b_x3 rfl rfl | exact ⟨by omega, by omega⟩) (fun c30 => ?_) (fun c30 => ?_)
      · skip
        refine x_A k159_49 (fun _ => rfl) ?_
        refine x_goto k159_50 (t := 54) rfl ?_
        refine x_istore_n k159_54 (ls' := [(3, vi 1), (0, .ref 256), (1, vi x1), (2, vi x2), (4, vi x4)]) (by decide) rfl ?_
        refine x_iinc k159_55 (ls' := [(4, vi (x4 + 1)), (3, vi 1), (0, .ref 256), (1, vi x1), (2, vi x2)]) rfl (by decide) rfl ?_
        refine x_goto k159_58 (t := 10) rfl ?_
        refine x_ls (l := [(0, .ref 256), (1, vi x1), (2, vi x2), (3, vi 1), (4, vi (x4 + 1))]) (show ([0, 1, 2, 3, 4] : List Nat).Nodup from by decide +kernel) ⟨rfl, rfl, rfl, rfl, rfl, trivial⟩ ?_
        exact ih s x1 x2 1 (x4 + 1) hG f (by first | exact x_rb b_x1 rfl rfl | exact ⟨by omega, by omega⟩) (by first | exact x_rb b_x2 rfl rfl | exact ⟨by omega, by omega⟩) ⟨by decide, by decide⟩ ⟨by omega, by omega⟩ (by omega)  (by omega)
      · skip
        refine x_A k159_27 (fun _ => rfl) ?_
        refine x_getR k159_28 (f := 21) rfl (q := 256) (n := 62) (kd := 15) ⟨by decide, rfl⟩ (q2 := 272) (by decide) rfl ?_
        refine x_A k159_31 (fun _ => rfl) ?_
        refine x_iald k159_33 (q := 272) (n := 72) ⟨by decide, rfl⟩ (by decide) (by first | exact x_rbl b_x4 rfl rfl | exact ⟨by omega, by omega⟩) ?_
        refine x_top (fun z31 e_z31 => ?_)
        have g_z31 : (0 : Int) ≤ s 272 x4.toNat ∧ s 272 x4.toNat ≤ 5 := hG 272 x4.toNat
        refine x_A k159_34 (fun _ => rfl) ?_
        refine x_ic_ne k159_35 (t := 53) rfl (by first | exact x_rbe e_z31 g_z31 rfl rfl | exact x_rb g_z31 rfl rfl | exact ⟨by omega, by omega⟩) ⟨by decide, by decide⟩ (fun c32 => ?_) (fun c32 => ?_)
        · skip
          refine x_A k159_53 (fun _ => rfl) ?_
          refine x_istore_n k159_54 (ls' := [(3, vi 0), (0, .ref 256), (1, vi x1), (2, vi x2), (4, vi x4)]) (by decide) rfl ?_
          refine x_iinc k159_55 (ls' := [(4, vi (x4 + 1)), (3, vi 0), (0, .ref 256), (1, vi x1), (2, vi x2)]) rfl (by decide) rfl ?_
          refine x_goto k159_58 (t := 10) rfl ?_
          refine x_ls (l := [(0, .ref 256), (1, vi x1), (2, vi x2), (3, vi 0), (4, vi (x4 + 1))]) (show ([0, 1, 2, 3, 4] : List Nat).Nodup from by decide +kernel) ⟨rfl, rfl, rfl, rfl, rfl, trivial⟩ ?_
          exact ih s x1 x2 0 (x4 + 1) hG f (by first | exact x_rb b_x1 rfl rfl | exact ⟨by omega, by omega⟩) (by first | exact x_rb b_x2 rfl rfl | exact ⟨by omega, by omega⟩) ⟨by decide, by decide⟩ ⟨by omega, by omega⟩ (by omega)  (by omega)
        · skip
          refine x_A k159_38 (fun _ => rfl) ?_
          refine x_getR k159_39 (f := 22) rfl (q := 256) (n := 62) (kd := 15) ⟨by decide, rfl⟩ (q2 := 273) (by decide) rfl ?_
          refine x_A k159_42 (fun _ => rfl) ?_
          refine x_iald k159_44 (q := 273) (n := 72) ⟨by decide, rfl⟩ (by decide) (by first | exact x_rbl b_x4 rfl rfl | exact ⟨by omega, by omega⟩) ?_
          refine x_top (fun z33 e_z33 => ?_)
          have g_z33 : (-2147483648) ≤ s 273 x4.toNat ∧ s 273 x4.toNat ≤ 2147483647 := hG 273 x4.toNat
          refine x_A k159_45 (fun _ => rfl) ?_
          refine x_ic_ne k159_46 (t := 53) rfl (by first | exact x_rbe e_z33 g_z33 rfl rfl | exact x_rb g_z33 rfl rfl | exact ⟨by omega, by omega⟩) (by first | exact x_rb b_x2 rfl rfl | exact ⟨by omega, by omega⟩) (fun c34 => ?_) (fun c34 => ?_)
          · skip
            refine x_A k159_53 (fun _ => rfl) ?_
            refine x_istore_n k159_54 (ls' := [(3, vi 0), (0, .ref 256), (1, vi x1), (2, vi x2), (4, vi x4)]) (by decide) rfl ?_
            refine x_iinc k159_55 (ls' := [(4, vi (x4 + 1)), (3, vi 0), (0, .ref 256), (1, vi x1), (2, vi x2)]) rfl (by decide) rfl ?_
            refine x_goto k159_58 (t := 10) rfl ?_
            refine x_ls (l := [(0, .ref 256), (1, vi x1), (2, vi x2), (3, vi 0), (4, vi (x4 + 1))]) (show ([0, 1, 2, 3, 4] : List Nat).Nodup from by decide +kernel) ⟨rfl, rfl, rfl, rfl, rfl, trivial⟩ ?_
            exact ih s x1 x2 0 (x4 + 1) hG f (by first | exact x_rb b_x1 rfl rfl | exact ⟨by omega, by omega⟩) (by first | exact x_rb b_x2 rfl rfl | exact ⟨by omega, by omega⟩) ⟨by decide, by decide⟩ ⟨by omega, by omega⟩ (by omega)  (by omega)
          · skip
            refine x_A k159_49 (fun _ => rfl) ?_
            refine x_goto k159_50 (t := 54) rfl ?_
            refine x_istore_n k159_54 (ls' := [(3, vi 1), (0, .ref 256), (1, vi x1), (2, vi x2), (4, vi x4)]) (by decide) rfl ?_
            refine x_iinc k159_55 (ls' := [(4, vi (x4 + 1)), (3, vi 1), (0, .ref 256), (1, vi x1), (2, vi x2)]) rfl (by decide) rfl ?_
            refine x_goto k159_58 (t := 10) rfl ?_
            refine x_ls (l := [(0, .ref 256), (1, vi x1), (2, vi x2), (3, vi 1), (4, vi (x4 + 1))]) (show ([0, 1, 2, 3, 4] : List Nat).Nodup from by decide +kernel) ⟨rfl, rfl, rfl, rfl, rfl, trivial⟩ ?_
            exact ih s x1 x2 1 (x4 + 1) hG f (by first | exact x_rb b_x1 rfl rfl | exact ⟨by omega, by omega⟩) (by first | exact x_rb b_x2 rfl rfl | exact ⟨by omega, by omega⟩) ⟨by decide, by decide⟩ ⟨by omega, by omega⟩ (by omega)  (by omega)
theorem C_X11_strikes_256 (s0 : xS) (hG0 : GI s0) (a : Int) (b_a : 0 ≤ a ∧ a ≤ 7) (b : Int) (b_b : (-2147483648) ≤ b ∧ b ≤ 2147483647) : xe none 159 0 (lv_args 0 [.ref 256, vi a, vi b]) [] s0 0 0 (fun s' v => GI s' ∧ FL [] s0 s' ∧ ∃ z, v = some (vi z) ∧ (0 ≤ z ∧ z ≤ 1)) := by
  have f0 : FL [] s0 s0 := FL.rf
  show xe none 159 0 [(0, .ref 256), (1, vi a), (2, vi b)] [] s0 0 0 _
  refine x_A k159_0 (fun _ => rfl) ?_
  refine x_istore_n k159_1 (ls' := [(3, vi 0), (0, .ref 256), (1, vi a), (2, vi b)]) (by decide) rfl ?_
  refine x_A k159_2 (fun _ => rfl) ?_
  refine x_getR k159_3 (f := 19) rfl (q := 256) (n := 62) (kd := 15) ⟨by decide, rfl⟩ (q2 := 271) (by decide) rfl ?_
  refine x_A k159_6 (fun _ => rfl) ?_
  refine x_iald k159_7 (q := 271) (n := 9) ⟨by decide, rfl⟩ (by decide) (by first | exact x_rbl b_a rfl rfl | exact ⟨by omega, by omega⟩) ?_
  refine x_top (fun z35 e_z35 => ?_)
  have g_z35 : (0 : Int) ≤ s0 271 a.toNat ∧ s0 271 a.toNat ≤ 64 := hG0 271 a.toNat
  refine x_istore k159_8 (ls' := [(4, vi z35), (3, vi 0), (0, .ref 256), (1, vi a), (2, vi b)]) (by decide) rfl ?_
  refine x_ls (l := [(0, .ref 256), (1, vi a), (2, vi b), (3, vi 0), (4, vi z35)]) (show ([0, 1, 2, 3, 4] : List Nat).Nodup from by decide +kernel) ⟨rfl, rfl, rfl, rfl, rfl, trivial⟩ ?_
  exact L_C_X11_strikes_256_10 s0   (((64 - z35) + 1 : Int)).toNat s0 a b 0 z35 hG0 f0 (by first | exact x_rb b_a rfl rfl | exact ⟨by omega, by omega⟩) (by first | exact x_rb b_b rfl rfl | exact ⟨by omega, by omega⟩) ⟨by decide, by decide⟩ (by first | exact x_rbe e_z35 g_z35 rfl rfl | exact x_rb g_z35 rfl rfl | exact ⟨by omega, by omega⟩) (by omega)  (by omega)
theorem L_C_X11_isBeyond_256_23 (s0 : xS)   : ∀ (n : Nat) (s : xS) (x1 : Int) (x2 : Int) (x3 : Int) (x4 : Int) (x5 : Int) (x1000 : Int) (x1001 : Int) (x1002 : Int) (x1003 : Int) (hG : GI s) (f : FL [4150, 4151, 4152, 4153] s0 s) (b_x1 : (-2147483648) ≤ x1 ∧ x1 ≤ 2147483647) (b_x2 : (-2147483648) ≤ x2 ∧ x2 ≤ 2147483647) (b_x3 : (-2147483648) ≤ x3 ∧ x3 ≤ 2147483647) (b_x4 : (-2147483648) ≤ x4 ∧ x4 ≤ 2147483647) (b_x5 : 0 ≤ x5 ∧ x5 ≤ 40) (b_x1000 : 0 ≤ x1000 ∧ x1000 ≤ 60) (b_x1001 : 0 ≤ x1001 ∧ x1001 ≤ 60) (b_x1002 : 0 ≤ x1002 ∧ x1002 ≤ 60) (b_x1003 : 0 ≤ x1003 ∧ x1003 ≤ 60) (r_1000_5 : x1000 ≤ x5 + 0) (r_1000_1003 : x1000 ≤ x1003 + 0) (r_1001_5 : x1001 ≤ x5 + 0) (r_1001_1003 : x1001 ≤ x1003 + 0) (r_1002_5 : x1002 ≤ x5 + 0) (r_1002_1003 : x1002 ≤ x1003 + 0) (r_1003_5 : x1003 ≤ x5 + 0) (e_x1000 : x1000 = s 256 53) (e_x1001 : x1001 = s 256 54) (e_x1002 : x1002 = s 256 55) (e_x1003 : x1003 = s 256 56)  (hm : (40 - x5) < (n : Int)), xe none 207 23 [(0, .ref 256), (1, vi x1), (2, vi x2), (3, vi x3), (4, vi x4), (5, vi x5)] [] s 0 0 (fun s' v => GI s' ∧ FL [4150, 4151, 4152, 4153] s0 s' ∧ ∃ z, v = some (vi z) ∧ (0 ≤ z ∧ z ≤ 1)) := by
  intro n
  induction n with
  | zero => intro s x1 x2 x3 x4 x5 x1000 x1001 x1002 x1003 hG f b_x1 b_x2 b_x3 b_x4 b_x5 b_x1000 b_x1001 b_x1002 b_x1003 r_1000_5 r_1000_1003 r_1001_5 r_1001_1003 r_1002_5 r_1002_1003 r_1003_5 e_x1000 e_x1001 e_x1002 e_x1003  hm; exfalso; omega
  | succ n ih =>
    intro s x1 x2 x3 x4 x5 x1000 x1001 x1002 x1003 hG f b_x1 b_x2 b_x3 b_x4 b_x5 b_x1000 b_x1001 b_x1002 b_x1003 r_1000_5 r_1000_1003 r_1001_5 r_1001_1003 r_1002_5 r_1002_1003 r_1003_5 e_x1000 e_x1001 e_x1002 e_x1003  hm
    refine x_A k207_23 (fun _ => rfl) ?_
    refine x_A k207_25 (fun _ => rfl) ?_
    refine x_getI k207_26 (f := 6) rfl (q := 256) (n := 62) (kd := 15) ⟨by decide, rfl⟩ (by decide) rfl ?_
    refine x_top (fun z3122 e_z3122 => ?_)
    have g_z3122 : (0 : Int) ≤ s 256 6 ∧ s 256 6 ≤ 40 := hG 256 6
    refine x_ic_ge k207_29 (t := 149) rfl (by first | exact x_rb b_x5 rfl rfl | exact ⟨by omega, by omega⟩) (by first | exact x_rbe e_z3122 g_z3122 rfl rfl | exact x_rb g_z3122 rfl rfl | exact ⟨by omega, by omega⟩) (fun c3123 => ?_) (fun c3123 => ?_)
    · skip
      refine x_A k207_149 (fun _ => rfl) ?_
      refine x_getI k207_150 (f := 55) rfl (q := 256) (n := 62) (kd := 15) ⟨by decide, rfl⟩ (by decide) rfl ?_
      rw [e_x1002.symm]
      refine x_A k207_153 (fun _ => rfl) ?_
      refine x_getI k207_154 (f := 56) rfl (q := 256) (n := 62) (kd := 15) ⟨by decide, rfl⟩ (by decide) rfl ?_
      rw [e_x1003.symm]
      refine x_imul k207_157 ?_
      refine x_topW (fun z3124 g_z3124 => ?_)
      unfold in32 at g_z3124
      refine x_A k207_158 (fun _ => rfl) ?_
      refine x_getI k207_159 (f := 53) rfl (q := 256) (n := 62) (kd := 15) ⟨by decide, rfl⟩ (by decide) rfl ?_
      rw [e_x1000.symm]
      refine x_A k207_162 (fun _ => rfl) ?_
      refine x_getI k207_163 (f := 54) rfl (q := 256) (n := 62) (kd := 15) ⟨by decide, rfl⟩ (by decide) rfl ?_
      rw [e_x1001.symm]
      refine x_imul k207_166 ?_
      refine x_topW (fun z3125 g_z3125 => ?_)
      unfold in32 at g_z3125
      refine x_ic_le k207_167 (t := 174) rfl (by first | exact x_rbe e_z3124 g_z3124 rfl rfl | exact x_rb g_z3124 rfl rfl | exact ⟨by omega, by omega⟩) (by first | exact x_rbe e_z3125 g_z3125 rfl rfl | exact x_rb g_z3125 rfl rfl | exact ⟨by omega, by omega⟩) (fun c3126 => ?_) (fun c3126 => ?_)
      · skip
        refine x_A k207_174 (fun _ => rfl) ?_
        exact x_zret k207_175 rfl ⟨by omega, by omega⟩ ⟨hG, f, 0, rfl, ⟨by decide, by decide⟩⟩
      · skip
        refine x_A k207_170 (fun _ => rfl) ?_
        refine x_goto k207_171 (t := 175) rfl ?_
        exact x_zret k207_175 rfl ⟨by omega, by omega⟩ ⟨hG, f, 1, rfl, ⟨by decide, by decide⟩⟩
    · skip
      refine x_A k207_32 (fun _ => rfl) ?_
      refine x_getR k207_33 (f := 7) rfl (q := 256) (n := 62) (kd := 15) ⟨by decide, rfl⟩ (q2 := 261) (by decide) rfl ?_
      refine x_A k207_36 (fun _ => rfl) ?_
      refine x_iald k207_38 (q := 261) (n := 40) ⟨by decide, rfl⟩ (by decide) (by first | exact x_rbl b_x5 rfl rfl | exact ⟨by omega, by omega⟩) ?_
      refine x_top (fun z3127 e_z3127 => ?_)
      have g_z3127 : (0 : Int) ≤ s 261 x5.toNat ∧ s 261 x5.toNat ≤ 999 := hG 261 x5.toNat
      refine x_i2l k207_39 (by first | exact x_rbe e_z3127 g_z3127 rfl rfl | exact x_rb g_z3127 rfl rfl | exact ⟨by omega, by omega⟩) ?_
      refine x_A k207_40 (fun _ => rfl) ?_
      refine x_i2l k207_41 (by first | exact x_rb b_x3 rfl rfl | exact ⟨by omega, by omega⟩) ?_
      refine x_A k207_42 (fun _ => rfl) ?_
      refine x_i2l k207_44 (by first | exact x_rb b_x4 rfl rfl | exact ⟨by omega, by omega⟩) ?_
      refine x_callS k207_45 (y := 136) (n := 3) (w0 := 0) (w1 := 6) (as := [vj z3127, vj x3, vj x4]) (rest := []) (by decide +kernel) rfl rfl rfl rfl (xe_mono (C_X11_in s hG z3127 ⟨by omega, by omega⟩ x3 ⟨by omega, by omega⟩ x4 ⟨by omega, by omega⟩) ?_)
      rintro s3129 v ⟨h_s3129, z3128, rfl, hz_z3128⟩
      rw [h_s3129]
      rcases hz_z3128 with ⟨c_z3128, e_z3128⟩ | ⟨c_z3128, e_z3128⟩
      · rw [e_z3128]
        show xe none 207 48 [(0, .ref 256), (1, vi x1), (2, vi x2), (3, vi x3), (4, vi x4), (5, vi x5)] [vi 1] s 0 0 _
        refine x_if_eq k207_48 (t := 143) rfl ⟨by decide, by decide⟩ (fun c3130 => by exfalso; omega) (fun c3130 => ?_)
        refine x_A k207_51 (fun _ => rfl) ?_
        refine x_A k207_52 (fun _ => rfl) ?_
        refine x_getI k207_53 (f := 56) rfl (q := 256) (n := 62) (kd := 15) ⟨by decide, rfl⟩ (by decide) rfl ?_
        rw [e_x1003.symm]
        refine x_A k207_56 (fun _ => rfl) ?_
        refine x_iadd k207_57 ?_
        refine x_top (fun z3131 e_z3131 => ?_)
        refine x_putI k207_58 (f := 56) rfl (q := 256) (n := 62) (kd := 15) ⟨by decide, rfl⟩ rfl rfl rfl ?_
        refine x_nh (fun s3132 e_s3132 => ?_)
        have hG_s3132 : GI s3132 := by rw [e_s3132]; exact hG.up (show 0 ≤ z3131 ∧ z3131 ≤ 40 from (by first | exact x_rbe e_z3131 g_z3131 rfl rfl | exact x_rb g_z3131 rfl rfl | exact ⟨by omega, by omega⟩))
        have f_s3132 : FL [4150, 4151, 4152, 4153] s0 s3132 := by rw [e_s3132]; exact f.up (show 4153 ∈ [4150, 4151, 4152, 4153] from by decide +kernel)
        have q3133 : s3132 256 53 = x1000 := by rw [e_s3132, x_up_i (by decide)]; exact e_x1000.symm
        have q3134 : s3132 256 54 = x1001 := by rw [e_s3132, x_up_i (by decide)]; exact e_x1001.symm
        have q3135 : s3132 256 55 = x1002 := by rw [e_s3132, x_up_i (by decide)]; exact e_x1002.symm
        have q3136 : s3132 256 6 = z3122 := by rw [e_s3132, x_up_i (by decide)]; exact e_z3122.symm
        have q3137 : s3132 256 56 = z3131 := by rw [e_s3132]; exact x_up_same
        have q3138 : s3132 261 x5.toNat = z3127 := by rw [e_s3132, x_up_q (by first | decide | omega)]; exact e_z3127.symm
        refine x_A k207_61 (fun _ => rfl) ?_
        refine x_A k207_62 (fun _ => rfl) ?_
        refine x_getI k207_63 (f := 53) rfl (q := 256) (n := 62) (kd := 15) ⟨by decide, rfl⟩ (by decide) rfl ?_
        rw [q3133]
        refine x_A k207_66 (fun _ => rfl) ?_
        refine x_A k207_67 (fun _ => rfl) ?_
        refine x_A k207_69 (fun _ => rfl) ?_
        refine x_callV k207_70 (y := 169) (n := 2) (w0 := 2) (w1 := 2) (as := [vi x5, vi x1]) (rest := [vi x1000, .ref 256]) (by decide +kernel) (q := 256) (nq := 62) (kq := 15) ⟨by decide, rfl⟩ rfl rfl rfl rfl (xe_mono (C_X11_shows_256 s3132 hG_s3132 x5 (by first | exact x_rb b_x5 rfl rfl | exact ⟨by omega, by omega⟩) x1 (by first | exact x_rb b_x1 rfl rfl | exact ⟨by omega, by omega⟩)) ?_)
        rintro s3140 v ⟨-, t_s3140, z3139, rfl, g_z3139⟩
        rw [t_s3140.nil]
        show xe none 207 73 [(0, .ref 256), (1, vi x1), (2, vi x2), (3, vi x3), (4, vi x4), (5, vi x5)] [vi z3139, vi x1000, .ref 256] s3132 0 0 _
        refine x_if_eq k207_73 (t := 80) rfl (by first | exact x_rbe e_z3139 g_z3139 rfl rfl | exact x_rb g_z3139 rfl rfl | exact ⟨by omega, by omega⟩) (fun c3141 => ?_) (fun c3141 => ?_)
        · skip
          refine x_A k207_80 (fun _ => rfl) ?_
          refine x_iadd k207_81 ?_
          refine x_top (fun z3142 e_z3142 => ?_)
          refine x_putI k207_82 (f := 53) rfl (q := 256) (n := 62) (kd := 15) ⟨by decide, rfl⟩ rfl rfl rfl ?_
          refine x_nh (fun s3143 e_s3143 => ?_)
          have hG_s3143 : GI s3143 := by rw [e_s3143]; exact hG_s3132.up (show 0 ≤ z3142 ∧ z3142 ≤ 40 from (by first | exact x_rbe e_z3142 g_z3142 rfl rfl | exact x_rb g_z3142 rfl rfl | exact ⟨by omega, by omega⟩))
          have f_s3143 : FL [4150, 4151, 4152, 4153] s0 s3143 := by rw [e_s3143]; exact f_s3132.up (show 4150 ∈ [4150, 4151, 4152, 4153] from by decide +kernel)
          have q3144 : s3143 256 54 = x1001 := by rw [e_s3143, x_up_i (by decide)]; exact q3134
          have q3145 : s3143 256 55 = x1002 := by rw [e_s3143, x_up_i (by decide)]; exact q3135
          have q3146 : s3143 256 6 = z3122 := by rw [e_s3143, x_up_i (by decide)]; exact q3136
          have q3147 : s3143 256 56 = z3131 := by rw [e_s3143, x_up_i (by decide)]; exact q3137
          have q3148 : s3143 256 53 = z3142 := by rw [e_s3143]; exact x_up_same
          have q3149 : s3143 261 x5.toNat = z3127 := by rw [e_s3143, x_up_q (by first | decide | omega)]; exact q3138
          refine x_A k207_85 (fun _ => rfl) ?_
          refine x_A k207_86 (fun _ => rfl) ?_
          refine x_getI k207_87 (f := 54) rfl (q := 256) (n := 62) (kd := 15) ⟨by decide, rfl⟩ (by decide) rfl ?_
          rw [q3144]
          refine x_A k207_90 (fun _ => rfl) ?_
          refine x_A k207_91 (fun _ => rfl) ?_
          refine x_A k207_93 (fun _ => rfl) ?_
          refine x_callV k207_94 (y := 169) (n := 2) (w0 := 2) (w1 := 2) (as := [vi x5, vi x2]) (rest := [vi x1001, .ref 256]) (by decide +kernel) (q := 256) (nq := 62) (kq := 15) ⟨by decide, rfl⟩ rfl rfl rfl rfl (xe_mono (C_X11_shows_256 s3143 hG_s3143 x5 (by first | exact x_rb b_x5 rfl rfl | exact ⟨by omega, by omega⟩) x2 (by first | exact x_rb b_x2 rfl rfl | exact ⟨by omega, by omega⟩)) ?_)
          rintro s3151 v ⟨-, t_s3151, z3150, rfl, g_z3150⟩
          rw [t_s3151.nil]
          show xe none 207 97 [(0, .ref 256), (1, vi x1), (2, vi x2), (3, vi x3), (4, vi x4), (5, vi x5)] [vi z3150, vi x1001, .ref 256] s3143 0 0 _
          refine x_if_eq k207_97 (t := 104) rfl (by first | exact x_rbe e_z3150 g_z3150 rfl rfl | exact x_rb g_z3150 rfl rfl | exact ⟨by omega, by omega⟩) (fun c3152 => ?_) (fun c3152 => ?_)
          · skip
            refine x_A k207_104 (fun _ => rfl) ?_
            refine x_iadd k207_105 ?_
            refine x_top (fun z3153 e_z3153 => ?_)
            refine x_putI k207_106 (f := 54) rfl (q := 256) (n := 62) (kd := 15) ⟨by decide, rfl⟩ rfl rfl rfl ?_
            refine x_nh (fun s3154 e_s3154 => ?_)
            have hG_s3154 : GI s3154 := by rw [e_s3154]; exact hG_s3143.up (show 0 ≤ z3153 ∧ z3153 ≤ 40 from (by first | exact x_rbe e_z3153 g_z3153 rfl rfl | exact x_rb g_z3153 rfl rfl | exact ⟨by omega, by omega⟩))
            have f_s3154 : FL [4150, 4151, 4152, 4153] s0 s3154 := by rw [e_s3154]; exact f_s3143.up (show 4151 ∈ [4150, 4151, 4152, 4153] from by decide +kernel)
            have q3155 : s3154 256 55 = x1002 := by rw [e_s3154, x_up_i (by decide)]; exact q3145
            have q3156 : s3154 256 6 = z3122 := by rw [e_s3154, x_up_i (by decide)]; exact q3146
            have q3157 : s3154 256 56 = z3131 := by rw [e_s3154, x_up_i (by decide)]; exact q3147
            have q3158 : s3154 256 53 = z3142 := by rw [e_s3154, x_up_i (by decide)]; exact q3148
            have q3159 : s3154 256 54 = z3153 := by rw [e_s3154]; exact x_up_same
            have q3160 : s3154 261 x5.toNat = z3127 := by rw [e_s3154, x_up_q (by first | decide | omega)]; exact q3149
            refine x_A k207_109 (fun _ => rfl) ?_
            refine x_A k207_110 (fun _ => rfl) ?_
            refine x_getI k207_111 (f := 55) rfl (q := 256) (n := 62) (kd := 15) ⟨by decide, rfl⟩ (by decide) rfl ?_
            rw [q3155]
            refine x_A k207_114 (fun _ => rfl) ?_
            refine x_A k207_115 (fun _ => rfl) ?_
            refine x_A k207_117 (fun _ => rfl) ?_
            refine x_callV k207_118 (y := 169) (n := 2) (w0 := 2) (w1 := 2) (as := [vi x5, vi x1]) (rest := [vi x1002, .ref 256]) (by decide +kernel) (q := 256) (nq := 62) (kq := 15) ⟨by decide, rfl⟩ rfl rfl rfl rfl (xe_mono (C_X11_shows_256 s3154 hG_s3154 x5 (by first | exact x_rb b_x5 rfl rfl | exact ⟨by omega, by omega⟩) x1 (by first | exact x_rb b_x1 rfl rfl | exact ⟨by omega, by omega⟩)) ?_)
            rintro s3162 v ⟨-, t_s3162, z3161, rfl, g_z3161⟩
            rw [t_s3162.nil]
            show xe none 207 121 [(0, .ref 256), (1, vi x1), (2, vi x2), (3, vi x3), (4, vi x4), (5, vi x5)] [vi z3161, vi x1002, .ref 256] s3154 0 0 _
            refine x_if_eq k207_121 (t := 138) rfl (by first | exact x_rbe e_z3161 g_z3161 rfl rfl | exact x_rb g_z3161 rfl rfl | exact ⟨by omega, by omega⟩) (fun c3163 => ?_) (fun c3163 => ?_)
            · skip
              refine x_A k207_138 (fun _ => rfl) ?_
              refine x_iadd k207_139 ?_
              refine x_top (fun z3164 e_z3164 => ?_)
              refine x_putI k207_140 (f := 55) rfl (q := 256) (n := 62) (kd := 15) ⟨by decide, rfl⟩ rfl rfl rfl ?_
              refine x_nh (fun s3165 e_s3165 => ?_)
              have hG_s3165 : GI s3165 := by rw [e_s3165]; exact hG_s3154.up (show 0 ≤ z3164 ∧ z3164 ≤ 40 from (by first | exact x_rbe e_z3164 g_z3164 rfl rfl | exact x_rb g_z3164 rfl rfl | exact ⟨by omega, by omega⟩))
              have f_s3165 : FL [4150, 4151, 4152, 4153] s0 s3165 := by rw [e_s3165]; exact f_s3154.up (show 4152 ∈ [4150, 4151, 4152, 4153] from by decide +kernel)
              have q3166 : s3165 256 6 = z3122 := by rw [e_s3165, x_up_i (by decide)]; exact q3156
              have q3167 : s3165 256 56 = z3131 := by rw [e_s3165, x_up_i (by decide)]; exact q3157
              have q3168 : s3165 256 53 = z3142 := by rw [e_s3165, x_up_i (by decide)]; exact q3158
              have q3169 : s3165 256 54 = z3153 := by rw [e_s3165, x_up_i (by decide)]; exact q3159
              have q3170 : s3165 256 55 = z3164 := by rw [e_s3165]; exact x_up_same
              have q3171 : s3165 261 x5.toNat = z3127 := by rw [e_s3165, x_up_q (by first | decide | omega)]; exact q3160
              refine x_iinc k207_143 (ls' := [(5, vi (x5 + 1)), (0, .ref 256), (1, vi x1), (2, vi x2), (3, vi x3), (4, vi x4)]) rfl (by decide) rfl ?_
              refine x_goto k207_146 (t := 23) rfl ?_
              refine x_ls (l := [(0, .ref 256), (1, vi x1), (2, vi x2), (3, vi x3), (4, vi x4), (5, vi (x5 + 1))]) (show ([0, 1, 2, 3, 4, 5] : List Nat).Nodup from by decide +kernel) ⟨rfl, rfl, rfl, rfl, rfl, rfl, trivial⟩ ?_
              exact ih s3165 x1 x2 x3 x4 (x5 + 1) z3142 z3153 z3164 z3131 hG_s3165 f_s3165 (by first | exact x_rb b_x1 rfl rfl | exact ⟨by omega, by omega⟩) (by first | exact x_rb b_x2 rfl rfl | exact ⟨by omega, by omega⟩) (by first | exact x_rb b_x3 rfl rfl | exact ⟨by omega, by omega⟩) (by first | exact x_rb b_x4 rfl rfl | exact ⟨by omega, by omega⟩) ⟨by omega, by omega⟩ (by first | exact x_rbe e_z3142 g_z3142 rfl rfl | exact x_rb g_z3142 rfl rfl | exact ⟨by omega, by omega⟩) (by first | exact x_rbe e_z3153 g_z3153 rfl rfl | exact x_rb g_z3153 rfl rfl | exact ⟨by omega, by omega⟩) (by first | exact x_rbe e_z3164 g_z3164 rfl rfl | exact x_rb g_z3164 rfl rfl | exact ⟨by omega, by omega⟩) (by first | exact x_rbe e_z3131 g_z3131 rfl rfl | exact x_rb g_z3131 rfl rfl | exact ⟨by omega, by omega⟩) (by omega) (by omega) (by omega) (by omega) (by omega) (by omega) (by omega) (q3168).symm (q3169).symm (q3170).symm (q3167).symm  (by omega)
            · skip
              refine x_A k207_124 (fun _ => rfl) ?_
              refine x_A k207_125 (fun _ => rfl) ?_
              refine x_A k207_127 (fun _ => rfl) ?_
              refine x_callV k207_128 (y := 169) (n := 2) (w0 := 2) (w1 := 2) (as := [vi x5, vi x2]) (rest := [vi x1002, .ref 256]) (by decide +kernel) (q := 256) (nq := 62) (kq := 15) ⟨by decide, rfl⟩ rfl rfl rfl rfl (xe_mono (C_X11_shows_256 s3154 hG_s3154 x5 (by first | exact x_rb b_x5 rfl rfl | exact ⟨by omega, by omega⟩) x2 (by first | exact x_rb b_x2 rfl rfl | exact ⟨by omega, by omega⟩)) ?_)
              rintro s3173 v ⟨-, t_s3173, z3172, rfl, g_z3172⟩
              rw [t_s3173.nil]
              show xe none 207 131 [(0, .ref 256), (1, vi x1), (2, vi x2), (3, vi x3), (4, vi x4), (5, vi x5)] [vi z3172, vi x1002, .ref 256] s3154 0 0 _
              refine x_if_eq k207_131 (t := 138) rfl (by first | exact x_rbe e_z3172 g_z3172 rfl rfl | exact x_rb g_z3172 rfl rfl | exact ⟨by omega, by omega⟩) (fun c3174 => ?_) (fun c3174 => ?_)
              · skip
                refine x_A k207_138 (fun _ => rfl) ?_
                refine x_iadd k207_139 ?_
                refine x_top (fun z3175 e_z3175 => ?_)
                refine x_putI k207_140 (f := 55) rfl (q := 256) (n := 62) (kd := 15) ⟨by decide, rfl⟩ rfl rfl rfl ?_
                refine x_nh (fun s3176 e_s3176 => ?_)
                have hG_s3176 : GI s3176 := by rw [e_s3176]; exact hG_s3154.up (show 0 ≤ z3175 ∧ z3175 ≤ 40 from (by first | exact x_rbe e_z3175 g_z3175 rfl rfl | exact x_rb g_z3175 rfl rfl | exact ⟨by omega, by omega⟩))
                have f_s3176 : FL [4150, 4151, 4152, 4153] s0 s3176 := by rw [e_s3176]; exact f_s3154.up (show 4152 ∈ [4150, 4151, 4152, 4153] from by decide +kernel)
                have q3177 : s3176 256 6 = z3122 := by rw [e_s3176, x_up_i (by decide)]; exact q3156
                have q3178 : s3176 256 56 = z3131 := by rw [e_s3176, x_up_i (by decide)]; exact q3157
                have q3179 : s3176 256 53 = z3142 := by rw [e_s3176, x_up_i (by decide)]; exact q3158
                have q3180 : s3176 256 54 = z3153 := by rw [e_s3176, x_up_i (by decide)]; exact q3159
                have q3181 : s3176 256 55 = z3175 := by rw [e_s3176]; exact x_up_same
                have q3182 : s3176 261 x5.toNat = z3127 := by rw [e_s3176, x_up_q (by first | decide | omega)]; exact q3160
                refine x_iinc k207_143 (ls' := [(5, vi (x5 + 1)), (0, .ref 256), (1, vi x1), (2, vi x2), (3, vi x3), (4, vi x4)]) rfl (by decide) rfl ?_
                refine x_goto k207_146 (t := 23) rfl ?_
                refine x_ls (l := [(0, .ref 256), (1, vi x1), (2, vi x2), (3, vi x3), (4, vi x4), (5, vi (x5 + 1))]) (show ([0, 1, 2, 3, 4, 5] : List Nat).Nodup from by decide +kernel) ⟨rfl, rfl, rfl, rfl, rfl, rfl, trivial⟩ ?_
                exact ih s3176 x1 x2 x3 x4 (x5 + 1) z3142 z3153 z3175 z3131 hG_s3176 f_s3176 (by first | exact x_rb b_x1 rfl rfl | exact ⟨by omega, by omega⟩) (by first | exact x_rb b_x2 rfl rfl | exact ⟨by omega, by omega⟩) (by first | exact x_rb b_x3 rfl rfl | exact ⟨by omega, by omega⟩) (by first | exact x_rb b_x4 rfl rfl | exact ⟨by omega, by omega⟩) ⟨by omega, by omega⟩ (by first | exact x_rbe e_z3142 g_z3142 rfl rfl | exact x_rb g_z3142 rfl rfl | exact ⟨by omega, by omega⟩) (by first | exact x_rbe e_z3153 g_z3153 rfl rfl | exact x_rb g_z3153 rfl rfl | exact ⟨by omega, by omega⟩) (by first | exact x_rbe e_z3175 g_z3175 rfl rfl | exact x_rb g_z3175 rfl rfl | exact ⟨by omega, by omega⟩) (by first | exact x_rbe e_z3131 g_z3131 rfl rfl | exact x_rb g_z3131 rfl rfl | exact ⟨by omega, by omega⟩) (by omega) (by omega) (by omega) (by omega) (by omega) (by omega) (by omega) (q3179).symm (q3180).symm (q3181).symm (q3178).symm  (by omega)
              · skip
                refine x_A k207_134 (fun _ => rfl) ?_
                refine x_goto k207_135 (t := 139) rfl ?_
                refine x_iadd k207_139 ?_
                refine x_top (fun z3183 e_z3183 => ?_)
                refine x_putI k207_140 (f := 55) rfl (q := 256) (n := 62) (kd := 15) ⟨by decide, rfl⟩ rfl rfl rfl ?_
                refine x_nh (fun s3184 e_s3184 => ?_)
                have hG_s3184 : GI s3184 := by rw [e_s3184]; exact hG_s3154.up (show 0 ≤ z3183 ∧ z3183 ≤ 40 from (by first | exact x_rbe e_z3183 g_z3183 rfl rfl | exact x_rb g_z3183 rfl rfl | exact ⟨by omega, by omega⟩))
                have f_s3184 : FL [4150, 4151, 4152, 4153] s0 s3184 := by rw [e_s3184]; exact f_s3154.up (show 4152 ∈ [4150, 4151, 4152, 4153] from by decide +kernel)
                have q3185 : s3184 256 6 = z3122 := by rw [e_s3184, x_up_i (by decide)]; exact q3156
                have q3186 : s3184 256 56 = z3131 := by rw [e_s3184, x_up_i (by decide)]; exact q3157
                have q3187 : s3184 256 53 = z3142 := by rw [e_s3184, x_up_i (by decide)]; exact q3158
                have q3188 : s3184 256 54 = z3153 := by rw [e_s3184, x_up_i (by decide)]; exact q3159
                have q3189 : s3184 256 55 = z3183 := by rw [e_s3184]; exact x_up_same
                have q3190 : s3184 261 x5.toNat = z3127 := by rw [e_s3184, x_up_q (by first | decide | omega)]; exact q3160
                refine x_iinc k207_143 (ls' := [(5, vi (x5 + 1)), (0, .ref 256), (1, vi x1), (2, vi x2), (3, vi x3), (4, vi x4)]) rfl (by decide) rfl ?_
                refine x_goto k207_146 (t := 23) rfl ?_
                refine x_ls (l := [(0, .ref 256), (1, vi x1), (2, vi x2), (3, vi x3), (4, vi x4), (5, vi (x5 + 1))]) (show ([0, 1, 2, 3, 4, 5] : List Nat).Nodup from by decide +kernel) ⟨rfl, rfl, rfl, rfl, rfl, rfl, trivial⟩ ?_
                exact ih s3184 x1 x2 x3 x4 (x5 + 1) z3142 z3153 z3183 z3131 hG_s3184 f_s3184 (by first | exact x_rb b_x1 rfl rfl | exact ⟨by omega, by omega⟩) (by first | exact x_rb b_x2 rfl rfl | exact ⟨by omega, by omega⟩) (by first | exact x_rb b_x3 rfl rfl | exact ⟨by omega, by omega⟩) (by first | exact x_rb b_x4 rfl rfl | exact ⟨by omega, by omega⟩) ⟨by omega, by omega⟩ (by first | exact x_rbe e_z3142 g_z3142 rfl rfl | exact x_rb g_z3142 rfl rfl | exact ⟨by omega, by omega⟩) (by first | exact x_rbe e_z3153 g_z3153 rfl rfl | exact x_rb g_z3153 rfl rfl | exact ⟨by omega, by omega⟩) (by first | exact x_rbe e_z3183 g_z3183 rfl rfl | exact x_rb g_z3183 rfl rfl | exact ⟨by omega, by omega⟩) (by first | exact x_rbe e_z3131 g_z3131 rfl rfl | exact x_rb g_z3131 rfl rfl | exact ⟨by omega, by omega⟩) (by omega) (by omega) (by omega) (by omega) (by omega) (by omega) (by omega) (q3187).symm (q3188).symm (q3189).symm (q3186).symm  (by omega)
          · skip
            refine x_A k207_100 (fun _ => rfl) ?_
            refine x_goto k207_101 (t := 105) rfl ?_
            refine x_iadd k207_105 ?_
            refine x_top (fun z3191 e_z3191 => ?_)
            refine x_putI k207_106 (f := 54) rfl (q := 256) (n := 62) (kd := 15) ⟨by decide, rfl⟩ rfl rfl rfl ?_
            refine x_nh (fun s3192 e_s3192 => ?_)
            have hG_s3192 : GI s3192 := by rw [e_s3192]; exact hG_s3143.up (show 0 ≤ z3191 ∧ z3191 ≤ 40 from (by first | exact x_rbe e_z3191 g_z3191 rfl rfl | exact x_rb g_z3191 rfl rfl | exact ⟨by omega, by omega⟩))
            have f_s3192 : FL [4150, 4151, 4152, 4153] s0 s3192 := by rw [e_s3192]; exact f_s3143.up (show 4151 ∈ [4150, 4151, 4152, 4153] from by decide +kernel)
            have q3193 : s3192 256 55 = x1002 := by rw [e_s3192, x_up_i (by decide)]; exact q3145
            have q3194 : s3192 256 6 = z3122 := by rw [e_s3192, x_up_i (by decide)]; exact q3146
            have q3195 : s3192 256 56 = z3131 := by rw [e_s3192, x_up_i (by decide)]; exact q3147
            have q3196 : s3192 256 53 = z3142 := by rw [e_s3192, x_up_i (by decide)]; exact q3148
            have q3197 : s3192 256 54 = z3191 := by rw [e_s3192]; exact x_up_same
            have q3198 : s3192 261 x5.toNat = z3127 := by rw [e_s3192, x_up_q (by first | decide | omega)]; exact q3149
            refine x_A k207_109 (fun _ => rfl) ?_
            refine x_A k207_110 (fun _ => rfl) ?_
            refine x_getI k207_111 (f := 55) rfl (q := 256) (n := 62) (kd := 15) ⟨by decide, rfl⟩ (by decide) rfl ?_
            rw [q3193]
            refine x_A k207_114 (fun _ => rfl) ?_
            refine x_A k207_115 (fun _ => rfl) ?_
            refine x_A k207_117 (fun _ => rfl) ?_
            refine x_callV k207_118 (y := 169) (n := 2) (w0 := 2) (w1 := 2) (as := [vi x5, vi x1]) (rest := [vi x1002, .ref 256]) (by decide +kernel) (q := 256) (nq := 62) (kq := 15) ⟨by decide, rfl⟩ rfl rfl rfl rfl (xe_mono (C_X11_shows_256 s3192 hG_s3192 x5 (by first | exact x_rb b_x5 rfl rfl | exact ⟨by omega, by omega⟩) x1 (by first | exact x_rb b_x1 rfl rfl | exact ⟨by omega, by omega⟩)) ?_)
            rintro s3200 v ⟨-, t_s3200, z3199, rfl, g_z3199⟩
            rw [t_s3200.nil]
            show xe none 207 121 [(0, .ref 256), (1, vi x1), (2, vi x2), (3, vi x3), (4, vi x4), (5, vi x5)] [vi z3199, vi x1002, .ref 256] s3192 0 0 _
            refine x_if_eq k207_121 (t := 138) rfl (by first | exact x_rbe e_z3199 g_z3199 rfl rfl | exact x_rb g_z3199 rfl rfl | exact ⟨by omega, by omega⟩) (fun c3201 => ?_) (fun c3201 => ?_)
            · skip
              refine x_A k207_138 (fun _ => rfl) ?_
              refine x_iadd k207_139 ?_
              refine x_top (fun z3202 e_z3202 => ?_)
              refine x_putI k207_140 (f := 55) rfl (q := 256) (n := 62) (kd := 15) ⟨by decide, rfl⟩ rfl rfl rfl ?_
              refine x_nh (fun s3203 e_s3203 => ?_)
              have hG_s3203 : GI s3203 := by rw [e_s3203]; exact hG_s3192.up (show 0 ≤ z3202 ∧ z3202 ≤ 40 from (by first | exact x_rbe e_z3202 g_z3202 rfl rfl | exact x_rb g_z3202 rfl rfl | exact ⟨by omega, by omega⟩))
              have f_s3203 : FL [4150, 4151, 4152, 4153] s0 s3203 := by rw [e_s3203]; exact f_s3192.up (show 4152 ∈ [4150, 4151, 4152, 4153] from by decide +kernel)
              have q3204 : s3203 256 6 = z3122 := by rw [e_s3203, x_up_i (by decide)]; exact q3194
              have q3205 : s3203 256 56 = z3131 := by rw [e_s3203, x_up_i (by decide)]; exact q3195
              have q3206 : s3203 256 53 = z3142 := by rw [e_s3203, x_up_i (by decide)]; exact q3196
              have q3207 : s3203 256 54 = z3191 := by rw [e_s3203, x_up_i (by decide)]; exact q3197
              have q3208 : s3203 256 55 = z3202 := by rw [e_s3203]; exact x_up_same
              have q3209 : s3203 261 x5.toNat = z3127 := by rw [e_s3203, x_up_q (by first | decide | omega)]; exact q3198
              refine x_iinc k207_143 (ls' := [(5, vi (x5 + 1)), (0, .ref 256), (1, vi x1), (2, vi x2), (3, vi x3), (4, vi x4)]) rfl (by decide) rfl ?_
              refine x_goto k207_146 (t := 23) rfl ?_
              refine x_ls (l := [(0, .ref 256), (1, vi x1), (2, vi x2), (3, vi x3), (4, vi x4), (5, vi (x5 + 1))]) (show ([0, 1, 2, 3, 4, 5] : List Nat).Nodup from by decide +kernel) ⟨rfl, rfl, rfl, rfl, rfl, rfl, trivial⟩ ?_
              exact ih s3203 x1 x2 x3 x4 (x5 + 1) z3142 z3191 z3202 z3131 hG_s3203 f_s3203 (by first | exact x_rb b_x1 rfl rfl | exact ⟨by omega, by omega⟩) (by first | exact x_rb b_x2 rfl rfl | exact ⟨by omega, by omega⟩) (by first | exact x_rb b_x3 rfl rfl | exact ⟨by omega, by omega⟩) (by first | exact x_rb b_x4 rfl rfl | exact ⟨by omega, by omega⟩) ⟨by omega, by omega⟩ (by first | exact x_rbe e_z3142 g_z3142 rfl rfl | exact x_rb g_z3142 rfl rfl | exact ⟨by omega, by omega⟩) (by first | exact x_rbe e_z3191 g_z3191 rfl rfl | exact x_rb g_z3191 rfl rfl | exact ⟨by omega, by omega⟩) (by first | exact x_rbe e_z3202 g_z3202 rfl rfl | exact x_rb g_z3202 rfl rfl | exact ⟨by omega, by omega⟩) (by first | exact x_rbe e_z3131 g_z3131 rfl rfl | exact x_rb g_z3131 rfl rfl | exact ⟨by omega, by omega⟩) (by omega) (by omega) (by omega) (by omega) (by omega) (by omega) (by omega) (q3206).symm (q3207).symm (q3208).symm (q3205).symm  (by omega)
            · skip
              refine x_A k207_124 (fun _ => rfl) ?_
              refine x_A k207_125 (fun _ => rfl) ?_
              refine x_A k207_127 (fun _ => rfl) ?_
              refine x_callV k207_128 (y := 169) (n := 2) (w0 := 2) (w1 := 2) (as := [vi x5, vi x2]) (rest := [vi x1002, .ref 256]) (by decide +kernel) (q := 256) (nq := 62) (kq := 15) ⟨by decide, rfl⟩ rfl rfl rfl rfl (xe_mono (C_X11_shows_256 s3192 hG_s3192 x5 (by first | exact x_rb b_x5 rfl rfl | exact ⟨by omega, by omega⟩) x2 (by first | exact x_rb b_x2 rfl rfl | exact ⟨by omega, by omega⟩)) ?_)
              rintro s3211 v ⟨-, t_s3211, z3210, rfl, g_z3210⟩
              rw [t_s3211.nil]
              show xe none 207 131 [(0, .ref 256), (1, vi x1), (2, vi x2), (3, vi x3), (4, vi x4), (5, vi x5)] [vi z3210, vi x1002, .ref 256] s3192 0 0 _
              refine x_if_eq k207_131 (t := 138) rfl (by first | exact x_rbe e_z3210 g_z3210 rfl rfl | exact x_rb g_z3210 rfl rfl | exact ⟨by omega, by omega⟩) (fun c3212 => ?_) (fun c3212 => ?_)
              · skip
                refine x_A k207_138 (fun _ => rfl) ?_
                refine x_iadd k207_139 ?_
                refine x_top (fun z3213 e_z3213 => ?_)
                refine x_putI k207_140 (f := 55) rfl (q := 256) (n := 62) (kd := 15) ⟨by decide, rfl⟩ rfl rfl rfl ?_
                refine x_nh (fun s3214 e_s3214 => ?_)
                have hG_s3214 : GI s3214 := by rw [e_s3214]; exact hG_s3192.up (show 0 ≤ z3213 ∧ z3213 ≤ 40 from (by first | exact x_rbe e_z3213 g_z3213 rfl rfl | exact x_rb g_z3213 rfl rfl | exact ⟨by omega, by omega⟩))
                have f_s3214 : FL [4150, 4151, 4152, 4153] s0 s3214 := by rw [e_s3214]; exact f_s3192.up (show 4152 ∈ [4150, 4151, 4152, 4153] from by decide +kernel)
                have q3215 : s3214 256 6 = z3122 := by rw [e_s3214, x_up_i (by decide)]; exact q3194
                have q3216 : s3214 256 56 = z3131 := by rw [e_s3214, x_up_i (by decide)]; exact q3195
                have q3217 : s3214 256 53 = z3142 := by rw [e_s3214, x_up_i (by decide)]; exact q3196
                have q3218 : s3214 256 54 = z3191 := by rw [e_s3214, x_up_i (by decide)]; exact q3197
                have q3219 : s3214 256 55 = z3213 := by rw [e_s3214]; exact x_up_same
                have q3220 : s3214 261 x5.toNat = z3127 := by rw [e_s3214, x_up_q (by first | decide | omega)]; exact q3198
                refine x_iinc k207_143 (ls' := [(5, vi (x5 + 1)), (0, .ref 256), (1, vi x1), (2, vi x2), (3, vi x3), (4, vi x4)]) rfl (by decide) rfl ?_
                refine x_goto k207_146 (t := 23) rfl ?_
                refine x_ls (l := [(0, .ref 256), (1, vi x1), (2, vi x2), (3, vi x3), (4, vi x4), (5, vi (x5 + 1))]) (show ([0, 1, 2, 3, 4, 5] : List Nat).Nodup from by decide +kernel) ⟨rfl, rfl, rfl, rfl, rfl, rfl, trivial⟩ ?_
                exact ih s3214 x1 x2 x3 x4 (x5 + 1) z3142 z3191 z3213 z3131 hG_s3214 f_s3214 (by first | exact x_rb b_x1 rfl rfl | exact ⟨by omega, by omega⟩) (by first | exact x_rb b_x2 rfl rfl | exact ⟨by omega, by omega⟩) (by first | exact x_rb b_x3 rfl rfl | exact ⟨by omega, by omega⟩) (by first | exact x_rb b_x4 rfl rfl | exact ⟨by omega, by omega⟩) ⟨by omega, by omega⟩ (by first | exact x_rbe e_z3142 g_z3142 rfl rfl | exact x_rb g_z3142 rfl rfl | exact ⟨by omega, by omega⟩) (by first | exact x_rbe e_z3191 g_z3191 rfl rfl | exact x_rb g_z3191 rfl rfl | exact ⟨by omega, by omega⟩) (by first | exact x_rbe e_z3213 g_z3213 rfl rfl | exact x_rb g_z3213 rfl rfl | exact ⟨by omega, by omega⟩) (by first | exact x_rbe e_z3131 g_z3131 rfl rfl | exact x_rb g_z3131 rfl rfl | exact ⟨by omega, by omega⟩) (by omega) (by omega) (by omega) (by omega) (by omega) (by omega) (by omega) (q3217).symm (q3218).symm (q3219).symm (q3216).symm  (by omega)
              · skip
                refine x_A k207_134 (fun _ => rfl) ?_
                refine x_goto k207_135 (t := 139) rfl ?_
                refine x_iadd k207_139 ?_
                refine x_top (fun z3221 e_z3221 => ?_)
                refine x_putI k207_140 (f := 55) rfl (q := 256) (n := 62) (kd := 15) ⟨by decide, rfl⟩ rfl rfl rfl ?_
                refine x_nh (fun s3222 e_s3222 => ?_)
                have hG_s3222 : GI s3222 := by rw [e_s3222]; exact hG_s3192.up (show 0 ≤ z3221 ∧ z3221 ≤ 40 from (by first | exact x_rbe e_z3221 g_z3221 rfl rfl | exact x_rb g_z3221 rfl rfl | exact ⟨by omega, by omega⟩))
                have f_s3222 : FL [4150, 4151, 4152, 4153] s0 s3222 := by rw [e_s3222]; exact f_s3192.up (show 4152 ∈ [4150, 4151, 4152, 4153] from by decide +kernel)
                have q3223 : s3222 256 6 = z3122 := by rw [e_s3222, x_up_i (by decide)]; exact q3194
                have q3224 : s3222 256 56 = z3131 := by rw [e_s3222, x_up_i (by decide)]; exact q3195
                have q3225 : s3222 256 53 = z3142 := by rw [e_s3222, x_up_i (by decide)]; exact q3196
                have q3226 : s3222 256 54 = z3191 := by rw [e_s3222, x_up_i (by decide)]; exact q3197
                have q3227 : s3222 256 55 = z3221 := by rw [e_s3222]; exact x_up_same
                have q3228 : s3222 261 x5.toNat = z3127 := by rw [e_s3222, x_up_q (by first | decide | omega)]; exact q3198
                refine x_iinc k207_143 (ls' := [(5, vi (x5 + 1)), (0, .ref 256), (1, vi x1), (2, vi x2), (3, vi x3), (4, vi x4)]) rfl (by decide) rfl ?_
                refine x_goto k207_146 (t := 23) rfl ?_
                refine x_ls (l := [(0, .ref 256), (1, vi x1), (2, vi x2), (3, vi x3), (4, vi x4), (5, vi (x5 + 1))]) (show ([0, 1, 2, 3, 4, 5] : List Nat).Nodup from by decide +kernel) ⟨rfl, rfl, rfl, rfl, rfl, rfl, trivial⟩ ?_
                exact ih s3222 x1 x2 x3 x4 (x5 + 1) z3142 z3191 z3221 z3131 hG_s3222 f_s3222 (by first | exact x_rb b_x1 rfl rfl | exact ⟨by omega, by omega⟩) (by first | exact x_rb b_x2 rfl rfl | exact ⟨by omega, by omega⟩) (by first | exact x_rb b_x3 rfl rfl | exact ⟨by omega, by omega⟩) (by first | exact x_rb b_x4 rfl rfl | exact ⟨by omega, by omega⟩) ⟨by omega, by omega⟩ (by first | exact x_rbe e_z3142 g_z3142 rfl rfl | exact x_rb g_z3142 rfl rfl | exact ⟨by omega, by omega⟩) (by first | exact x_rbe e_z3191 g_z3191 rfl rfl | exact x_rb g_z3191 rfl rfl | exact ⟨by omega, by omega⟩) (by first | exact x_rbe e_z3221 g_z3221 rfl rfl | exact x_rb g_z3221 rfl rfl | exact ⟨by omega, by omega⟩) (by first | exact x_rbe e_z3131 g_z3131 rfl rfl | exact x_rb g_z3131 rfl rfl | exact ⟨by omega, by omega⟩) (by omega) (by omega) (by omega) (by omega) (by omega) (by omega) (by omega) (q3225).symm (q3226).symm (q3227).symm (q3224).symm  (by omega)
        · skip
          refine x_A k207_76 (fun _ => rfl) ?_
          refine x_goto k207_77 (t := 81) rfl ?_
          refine x_iadd k207_81 ?_
          refine x_top (fun z3229 e_z3229 => ?_)
          refine x_putI k207_82 (f := 53) rfl (q := 256) (n := 62) (kd := 15) ⟨by decide, rfl⟩ rfl rfl rfl ?_
          refine x_nh (fun s3230 e_s3230 => ?_)
          have hG_s3230 : GI s3230 := by rw [e_s3230]; exact hG_s3132.up (show 0 ≤ z3229 ∧ z3229 ≤ 40 from (by first | exact x_rbe e_z3229 g_z3229 rfl rfl | exact x_rb g_z3229 rfl rfl | exact ⟨by omega, by omega⟩))
          have f_s3230 : FL [4150, 4151, 4152, 4153] s0 s3230 := by rw [e_s3230]; exact f_s3132.up (show 4150 ∈ [4150, 4151, 4152, 4153] from by decide +kernel)
          have q3231 : s3230 256 54 = x1001 := by rw [e_s3230, x_up_i (by decide)]; exact q3134
          have q3232 : s3230 256 55 = x1002 := by rw [e_s3230, x_up_i (by decide)]; exact q3135
          have q3233 : s3230 256 6 = z3122 := by rw [e_s3230, x_up_i (by decide)]; exact q3136
          have q3234 : s3230 256 56 = z3131 := by rw [e_s3230, x_up_i (by decide)]; exact q3137
          have q3235 : s3230 256 53 = z3229 := by rw [e_s3230]; exact x_up_same
          have q3236 : s3230 261 x5.toNat = z3127 := by rw [e_s3230, x_up_q (by first | decide | omega)]; exact q3138
          refine x_A k207_85 (fun _ => rfl) ?_
          refine x_A k207_86 (fun _ => rfl) ?_
          refine x_getI k207_87 (f := 54) rfl (q := 256) (n := 62) (kd := 15) ⟨by decide, rfl⟩ (by decide) rfl ?_
          rw [q3231]
          refine x_A k207_90 (fun _ => rfl) ?_
          refine x_A k207_91 (fun _ => rfl) ?_
          refine x_A k207_93 (fun _ => rfl) ?_
          refine x_callV k207_94 (y := 169) (n := 2) (w0 := 2) (w1 := 2) (as := [vi x5, vi x2]) (rest := [vi x1001, .ref 256]) (by decide +kernel) (q := 256) (nq := 62) (kq := 15) ⟨by decide, rfl⟩ rfl rfl rfl rfl (xe_mono (C_X11_shows_256 s3230 hG_s3230 x5 (by first | exact x_rb b_x5 rfl rfl | exact ⟨by omega, by omega⟩) x2 (by first | exact x_rb b_x2 rfl rfl | exact ⟨by omega, by omega⟩)) ?_)
          rintro s3238 v ⟨-, t_s3238, z3237, rfl, g_z3237⟩
          rw [t_s3238.nil]
          show xe none 207 97 [(0, .ref 256), (1, vi x1), (2, vi x2), (3, vi x3), (4, vi x4), (5, vi x5)] [vi z3237, vi x1001, .ref 256] s3230 0 0 _
          refine x_if_eq k207_97 (t := 104) rfl (by first | exact x_rbe e_z3237 g_z3237 rfl rfl | exact x_rb g_z3237 rfl rfl | exact ⟨by omega, by omega⟩) (fun c3239 => ?_) (fun c3239 => ?_)
          · skip
            refine x_A k207_104 (fun _ => rfl) ?_
            refine x_iadd k207_105 ?_
            refine x_top (fun z3240 e_z3240 => ?_)
            refine x_putI k207_106 (f := 54) rfl (q := 256) (n := 62) (kd := 15) ⟨by decide, rfl⟩ rfl rfl rfl ?_
            refine x_nh (fun s3241 e_s3241 => ?_)
            have hG_s3241 : GI s3241 := by rw [e_s3241]; exact hG_s3230.up (show 0 ≤ z3240 ∧ z3240 ≤ 40 from (by first | exact x_rbe e_z3240 g_z3240 rfl rfl | exact x_rb g_z3240 rfl rfl | exact ⟨by omega, by omega⟩))
            have f_s3241 : FL [4150, 4151, 4152, 4153] s0 s3241 := by rw [e_s3241]; exact f_s3230.up (show 4151 ∈ [4150, 4151, 4152, 4153] from by decide +kernel)
            have q3242 : s3241 256 55 = x1002 := by rw [e_s3241, x_up_i (by decide)]; exact q3232
            have q3243 : s3241 256 6 = z3122 := by rw [e_s3241, x_up_i (by decide)]; exact q3233
            have q3244 : s3241 256 56 = z3131 := by rw [e_s3241, x_up_i (by decide)]; exact q3234
            have q3245 : s3241 256 53 = z3229 := by rw [e_s3241, x_up_i (by decide)]; exact q3235
            have q3246 : s3241 256 54 = z3240 := by rw [e_s3241]; exact x_up_same
            have q3247 : s3241 261 x5.toNat = z3127 := by rw [e_s3241, x_up_q (by first | decide | omega)]; exact q3236
            refine x_A k207_109 (fun _ => rfl) ?_
            refine x_A k207_110 (fun _ => rfl) ?_
            refine x_getI k207_111 (f := 55) rfl (q := 256) (n := 62) (kd := 15) ⟨by decide, rfl⟩ (by decide) rfl ?_
            rw [q3242]
            refine x_A k207_114 (fun _ => rfl) ?_
            refine x_A k207_115 (fun _ => rfl) ?_
            refine x_A k207_117 (fun _ => rfl) ?_
            refine x_callV k207_118 (y := 169) (n := 2) (w0 := 2) (w1 := 2) (as := [vi x5, vi x1]) (rest := [vi x1002, .ref 256]) (by decide +kernel) (q := 256) (nq := 62) (kq := 15) ⟨by decide, rfl⟩ rfl rfl rfl rfl (xe_mono (C_X11_shows_256 s3241 hG_s3241 x5 (by first | exact x_rb b_x5 rfl rfl | exact ⟨by omega, by omega⟩) x1 (by first | exact x_rb b_x1 rfl rfl | exact ⟨by omega, by omega⟩)) ?_)
            rintro s3249 v ⟨-, t_s3249, z3248, rfl, g_z3248⟩
            rw [t_s3249.nil]
            show xe none 207 121 [(0, .ref 256), (1, vi x1), (2, vi x2), (3, vi x3), (4, vi x4), (5, vi x5)] [vi z3248, vi x1002, .ref 256] s3241 0 0 _
            refine x_if_eq k207_121 (t := 138) rfl (by first | exact x_rbe e_z3248 g_z3248 rfl rfl | exact x_rb g_z3248 rfl rfl | exact ⟨by omega, by omega⟩) (fun c3250 => ?_) (fun c3250 => ?_)
            · skip
              refine x_A k207_138 (fun _ => rfl) ?_
              refine x_iadd k207_139 ?_
              refine x_top (fun z3251 e_z3251 => ?_)
              refine x_putI k207_140 (f := 55) rfl (q := 256) (n := 62) (kd := 15) ⟨by decide, rfl⟩ rfl rfl rfl ?_
              refine x_nh (fun s3252 e_s3252 => ?_)
              have hG_s3252 : GI s3252 := by rw [e_s3252]; exact hG_s3241.up (show 0 ≤ z3251 ∧ z3251 ≤ 40 from (by first | exact x_rbe e_z3251 g_z3251 rfl rfl | exact x_rb g_z3251 rfl rfl | exact ⟨by omega, by omega⟩))
              have f_s3252 : FL [4150, 4151, 4152, 4153] s0 s3252 := by rw [e_s3252]; exact f_s3241.up (show 4152 ∈ [4150, 4151, 4152, 4153] from by decide +kernel)
              have q3253 : s3252 256 6 = z3122 := by rw [e_s3252, x_up_i (by decide)]; exact q3243
              have q3254 : s3252 256 56 = z3131 := by rw [e_s3252, x_up_i (by decide)]; exact q3244
              have q3255 : s3252 256 53 = z3229 := by rw [e_s3252, x_up_i (by decide)]; exact q3245
              have q3256 : s3252 256 54 = z3240 := by rw [e_s3252, x_up_i (by decide)]; exact q3246
              have q3257 : s3252 256 55 = z3251 := by rw [e_s3252]; exact x_up_same
              have q3258 : s3252 261 x5.toNat = z3127 := by rw [e_s3252, x_up_q (by first | decide | omega)]; exact q3247
              refine x_iinc k207_143 (ls' := [(5, vi (x5 + 1)), (0, .ref 256), (1, vi x1), (2, vi x2), (3, vi x3), (4, vi x4)]) rfl (by decide) rfl ?_
              refine x_goto k207_146 (t := 23) rfl ?_
              refine x_ls (l := [(0, .ref 256), (1, vi x1), (2, vi x2), (3, vi x3), (4, vi x4), (5, vi (x5 + 1))]) (show ([0, 1, 2, 3, 4, 5] : List Nat).Nodup from by decide +kernel) ⟨rfl, rfl, rfl, rfl, rfl, rfl, trivial⟩ ?_
              exact ih s3252 x1 x2 x3 x4 (x5 + 1) z3229 z3240 z3251 z3131 hG_s3252 f_s3252 (by first | exact x_rb b_x1 rfl rfl | exact ⟨by omega, by omega⟩) (by first | exact x_rb b_x2 rfl rfl | exact ⟨by omega, by omega⟩) (by first | exact x_rb b_x3 rfl rfl | exact ⟨by omega, by omega⟩) (by first | exact x_rb b_x4 rfl rfl | exact ⟨by omega, by omega⟩) ⟨by omega, by omega⟩ (by first | exact x_rbe e_z3229 g_z3229 rfl rfl | exact x_rb g_z3229 rfl rfl | exact ⟨by omega, by omega⟩) (by first | exact x_rbe e_z3240 g_z3240 rfl rfl | exact x_rb g_z3240 rfl rfl | exact ⟨by omega, by omega⟩) (by first | exact x_rbe e_z3251 g_z3251 rfl rfl | exact x_rb g_z3251 rfl rfl | exact ⟨by omega, by omega⟩) (by first | exact x_rbe e_z3131 g_z3131 rfl rfl | exact x_rb g_z3131 rfl rfl | exact ⟨by omega, by omega⟩) (by omega) (by omega) (by omega) (by omega) (by omega) (by omega) (by omega) (q3255).symm (q3256).symm (q3257).symm (q3254).symm  (by omega)
            · skip
              refine x_A k207_124 (fun _ => rfl) ?_
              refine x_A k207_125 (fun _ => rfl) ?_
              refine x_A k207_127 (fun _ => rfl) ?_
              refine x_callV k207_128 (y := 169) (n := 2) (w0 := 2) (w1 := 2) (as := [vi x5, vi x2]) (rest := [vi x1002, .ref 256]) (by decide +kernel) (q := 256) (nq := 62) (kq := 15) ⟨by decide, rfl⟩ rfl rfl rfl rfl (xe_mono (C_X11_shows_256 s3241 hG_s3241 x5 (by first | exact x_rb b_x5 rfl rfl | exact ⟨by omega, by omega⟩) x2 (by first | exact x_rb b_x2 rfl rfl | exact ⟨by omega, by omega⟩)) ?_)
              rintro s3260 v ⟨-, t_s3260, z3259, rfl, g_z3259⟩
              rw [t_s3260.nil]
              show xe none 207 131 [(0, .ref 256), (1, vi x1), (2, vi x2), (3, vi x3), (4, vi x4), (5, vi x5)] [vi z3259, vi x1002, .ref 256] s3241 0 0 _
              refine x_if_eq k207_131 (t := 138) rfl (by first | exact x_rbe e_z3259 g_z3259 rfl rfl | exact x_rb g_z3259 rfl rfl | exact ⟨by omega, by omega⟩) (fun c3261 => ?_) (fun c3261 => ?_)
              · skip
                refine x_A k207_138 (fun _ => rfl) ?_
                refine x_iadd k207_139 ?_
                refine x_top (fun z3262 e_z3262 => ?_)
                refine x_putI k207_140 (f := 55) rfl (q := 256) (n := 62) (kd := 15) ⟨by decide, rfl⟩ rfl rfl rfl ?_
                refine x_nh (fun s3263 e_s3263 => ?_)
                have hG_s3263 : GI s3263 := by rw [e_s3263]; exact hG_s3241.up (show 0 ≤ z3262 ∧ z3262 ≤ 40 from (by first | exact x_rbe e_z3262 g_z3262 rfl rfl | exact x_rb g_z3262 rfl rfl | exact ⟨by omega, by omega⟩))
                have f_s3263 : FL [4150, 4151, 4152, 4153] s0 s3263 := by rw [e_s3263]; exact f_s3241.up (show 4152 ∈ [4150, 4151, 4152, 4153] from by decide +kernel)
                have q3264 : s3263 256 6 = z3122 := by rw [e_s3263, x_up_i (by decide)]; exact q3243
                have q3265 : s3263 256 56 = z3131 := by rw [e_s3263, x_up_i (by decide)]; exact q3244
                have q3266 : s3263 256 53 = z3229 := by rw [e_s3263, x_up_i (by decide)]; exact q3245
                have q3267 : s3263 256 54 = z3240 := by rw [e_s3263, x_up_i (by decide)]; exact q3246
                have q3268 : s3263 256 55 = z3262 := by rw [e_s3263]; exact x_up_same
                have q3269 : s3263 261 x5.toNat = z3127 := by rw [e_s3263, x_up_q (by first | decide | omega)]; exact q3247
                refine x_iinc k207_143 (ls' := [(5, vi (x5 + 1)), (0, .ref 256), (1, vi x1), (2, vi x2), (3, vi x3), (4, vi x4)]) rfl (by decide) rfl ?_
                refine x_goto k207_146 (t := 23) rfl ?_
                refine x_ls (l := [(0, .ref 256), (1, vi x1), (2, vi x2), (3, vi x3), (4, vi x4), (5, vi (x5 + 1))]) (show ([0, 1, 2, 3, 4, 5] : List Nat).Nodup from by decide +kernel) ⟨rfl, rfl, rfl, rfl, rfl, rfl, trivial⟩ ?_
                exact ih s3263 x1 x2 x3 x4 (x5 + 1) z3229 z3240 z3262 z3131 hG_s3263 f_s3263 (by first | exact x_rb b_x1 rfl rfl | exact ⟨by omega, by omega⟩) (by first | exact x_rb b_x2 rfl rfl | exact ⟨by omega, by omega⟩) (by first | exact x_rb b_x3 rfl rfl | exact ⟨by omega, by omega⟩) (by first | exact x_rb b_x4 rfl rfl | exact ⟨by omega, by omega⟩) ⟨by omega, by omega⟩ (by first | exact x_rbe e_z3229 g_z3229 rfl rfl | exact x_rb g_z3229 rfl rfl | exact ⟨by omega, by omega⟩) (by first | exact x_rbe e_z3240 g_z3240 rfl rfl | exact x_rb g_z3240 rfl rfl | exact ⟨by omega, by omega⟩) (by first | exact x_rbe e_z3262 g_z3262 rfl rfl | exact x_rb g_z3262 rfl rfl | exact ⟨by omega, by omega⟩) (by first | exact x_rbe e_z3131 g_z3131 rfl rfl | exact x_rb g_z3131 rfl rfl | exact ⟨by omega, by omega⟩) (by omega) (by omega) (by omega) (by omega) (by omega) (by omega) (by omega) (q3266).symm (q3267).symm (q3268).symm (q3265).symm  (by omega)
              · skip
                refine x_A k207_134 (fun _ => rfl) ?_
                refine x_goto k207_135 (t := 139) rfl ?_
                refine x_iadd k207_139 ?_
                refine x_top (fun z3270 e_z3270 => ?_)
                refine x_putI k207_140 (f := 55) rfl (q := 256) (n := 62) (kd := 15) ⟨by decide, rfl⟩ rfl rfl rfl ?_
                refine x_nh (fun s3271 e_s3271 => ?_)
                have hG_s3271 : GI s3271 := by rw [e_s3271]; exact hG_s3241.up (show 0 ≤ z3270 ∧ z3270 ≤ 40 from (by first | exact x_rbe e_z3270 g_z3270 rfl rfl | exact x_rb g_z3270 rfl rfl | exact ⟨by omega, by omega⟩))
                have f_s3271 : FL [4150, 4151, 4152, 4153] s0 s3271 := by rw [e_s3271]; exact f_s3241.up (show 4152 ∈ [4150, 4151, 4152, 4153] from by decide +kernel)
                have q3272 : s3271 256 6 = z3122 := by rw [e_s3271, x_up_i (by decide)]; exact q3243
                have q3273 : s3271 256 56 = z3131 := by rw [e_s3271, x_up_i (by decide)]; exact q3244
                have q3274 : s3271 256 53 = z3229 := by rw [e_s3271, x_up_i (by decide)]; exact q3245
                have q3275 : s3271 256 54 = z3240 := by rw [e_s3271, x_up_i (by decide)]; exact q3246
                have q3276 : s3271 256 55 = z3270 := by rw [e_s3271]; exact x_up_same
                have q3277 : s3271 261 x5.toNat = z3127 := by rw [e_s3271, x_up_q (by first | decide | omega)]; exact q3247
                refine x_iinc k207_143 (ls' := [(5, vi (x5 + 1)), (0, .ref 256), (1, vi x1), (2, vi x2), (3, vi x3), (4, vi x4)]) rfl (by decide) rfl ?_
                refine x_goto k207_146 (t := 23) rfl ?_
                refine x_ls (l := [(0, .ref 256), (1, vi x1), (2, vi x2), (3, vi x3), (4, vi x4), (5, vi (x5 + 1))]) (show ([0, 1, 2, 3, 4, 5] : List Nat).Nodup from by decide +kernel) ⟨rfl, rfl, rfl, rfl, rfl, rfl, trivial⟩ ?_
                exact ih s3271 x1 x2 x3 x4 (x5 + 1) z3229 z3240 z3270 z3131 hG_s3271 f_s3271 (by first | exact x_rb b_x1 rfl rfl | exact ⟨by omega, by omega⟩) (by first | exact x_rb b_x2 rfl rfl | exact ⟨by omega, by omega⟩) (by first | exact x_rb b_x3 rfl rfl | exact ⟨by omega, by omega⟩) (by first | exact x_rb b_x4 rfl rfl | exact ⟨by omega, by omega⟩) ⟨by omega, by omega⟩ (by first | exact x_rbe e_z3229 g_z3229 rfl rfl | exact x_rb g_z3229 rfl rfl | exact ⟨by omega, by omega⟩) (by first | exact x_rbe e_z3240 g_z3240 rfl rfl | exact x_rb g_z3240 rfl rfl | exact ⟨by omega, by omega⟩) (by first | exact x_rbe e_z3270 g_z3270 rfl rfl | exact x_rb g_z3270 rfl rfl | exact ⟨by omega, by omega⟩) (by first | exact x_rbe e_z3131 g_z3131 rfl rfl | exact x_rb g_z3131 rfl rfl | exact ⟨by omega, by omega⟩) (by omega) (by omega) (by omega) (by omega) (by omega) (by omega) (by omega) (q3274).symm (q3275).symm (q3276).symm (q3273).symm  (by omega)
          · skip
            refine x_A k207_100 (fun _ => rfl) ?_
            refine x_goto k207_101 (t := 105) rfl ?_
            refine x_iadd k207_105 ?_
            refine x_top (fun z3278 e_z3278 => ?_)
            refine x_putI k207_106 (f := 54) rfl (q := 256) (n := 62) (kd := 15) ⟨by decide, rfl⟩ rfl rfl rfl ?_
            refine x_nh (fun s3279 e_s3279 => ?_)
            have hG_s3279 : GI s3279 := by rw [e_s3279]; exact hG_s3230.up (show 0 ≤ z3278 ∧ z3278 ≤ 40 from (by first | exact x_rbe e_z3278 g_z3278 rfl rfl | exact x_rb g_z3278 rfl rfl | exact ⟨by omega, by omega⟩))
            have f_s3279 : FL [4150, 4151, 4152, 4153] s0 s3279 := by rw [e_s3279]; exact f_s3230.up (show 4151 ∈ [4150, 4151, 4152, 4153] from by decide +kernel)
            have q3280 : s3279 256 55 = x1002 := by rw [e_s3279, x_up_i (by decide)]; exact q3232
            have q3281 : s3279 256 6 = z3122 := by rw [e_s3279, x_up_i (by decide)]; exact q3233
            have q3282 : s3279 256 56 = z3131 := by rw [e_s3279, x_up_i (by decide)]; exact q3234
            have q3283 : s3279 256 53 = z3229 := by rw [e_s3279, x_up_i (by decide)]; exact q3235
            have q3284 : s3279 256 54 = z3278 := by rw [e_s3279]; exact x_up_same
            have q3285 : s3279 261 x5.toNat = z3127 := by rw [e_s3279, x_up_q (by first | decide | omega)]; exact q3236
            refine x_A k207_109 (fun _ => rfl) ?_
            refine x_A k207_110 (fun _ => rfl) ?_
            refine x_getI k207_111 (f := 55) rfl (q := 256) (n := 62) (kd := 15) ⟨by decide, rfl⟩ (by decide) rfl ?_
            rw [q3280]
            refine x_A k207_114 (fun _ => rfl) ?_
            refine x_A k207_115 (fun _ => rfl) ?_
            refine x_A k207_117 (fun _ => rfl) ?_
            refine x_callV k207_118 (y := 169) (n := 2) (w0 := 2) (w1 := 2) (as := [vi x5, vi x1]) (rest := [vi x1002, .ref 256]) (by decide +kernel) (q := 256) (nq := 62) (kq := 15) ⟨by decide, rfl⟩ rfl rfl rfl rfl (xe_mono (C_X11_shows_256 s3279 hG_s3279 x5 (by first | exact x_rb b_x5 rfl rfl | exact ⟨by omega, by omega⟩) x1 (by first | exact x_rb b_x1 rfl rfl | exact ⟨by omega, by omega⟩)) ?_)
            rintro s3287 v ⟨-, t_s3287, z3286, rfl, g_z3286⟩
            rw [t_s3287.nil]
            show xe none 207 121 [(0, .ref 256), (1, vi x1), (2, vi x2), (3, vi x3), (4, vi x4), (5, vi x5)] [vi z3286, vi x1002, .ref 256] s3279 0 0 _
            refine x_if_eq k207_121 (t := 138) rfl (by first | exact x_rbe e_z3286 g_z3286 rfl rfl | exact x_rb g_z3286 rfl rfl | exact ⟨by omega, by omega⟩) (fun c3288 => ?_) (fun c3288 => ?_)
            · skip
              refine x_A k207_138 (fun _ => rfl) ?_
              refine x_iadd k207_139 ?_
              refine x_top (fun z3289 e_z3289 => ?_)
              refine x_putI k207_140 (f := 55) rfl (q := 256) (n := 62) (kd := 15) ⟨by decide, rfl⟩ rfl rfl rfl ?_
              refine x_nh (fun s3290 e_s3290 => ?_)
              have hG_s3290 : GI s3290 := by rw [e_s3290]; exact hG_s3279.up (show 0 ≤ z3289 ∧ z3289 ≤ 40 from (by first | exact x_rbe e_z3289 g_z3289 rfl rfl | exact x_rb g_z3289 rfl rfl | exact ⟨by omega, by omega⟩))
              have f_s3290 : FL [4150, 4151, 4152, 4153] s0 s3290 := by rw [e_s3290]; exact f_s3279.up (show 4152 ∈ [4150, 4151, 4152, 4153] from by decide +kernel)
              have q3291 : s3290 256 6 = z3122 := by rw [e_s3290, x_up_i (by decide)]; exact q3281
              have q3292 : s3290 256 56 = z3131 := by rw [e_s3290, x_up_i (by decide)]; exact q3282
              have q3293 : s3290 256 53 = z3229 := by rw [e_s3290, x_up_i (by decide)]; exact q3283
              have q3294 : s3290 256 54 = z3278 := by rw [e_s3290, x_up_i (by decide)]; exact q3284
              have q3295 : s3290 256 55 = z3289 := by rw [e_s3290]; exact x_up_same
              have q3296 : s3290 261 x5.toNat = z3127 := by rw [e_s3290, x_up_q (by first | decide | omega)]; exact q3285
              refine x_iinc k207_143 (ls' := [(5, vi (x5 + 1)), (0, .ref 256), (1, vi x1), (2, vi x2), (3, vi x3), (4, vi x4)]) rfl (by decide) rfl ?_
              refine x_goto k207_146 (t := 23) rfl ?_
              refine x_ls (l := [(0, .ref 256), (1, vi x1), (2, vi x2), (3, vi x3), (4, vi x4), (5, vi (x5 + 1))]) (show ([0, 1, 2, 3, 4, 5] : List Nat).Nodup from by decide +kernel) ⟨rfl, rfl, rfl, rfl, rfl, rfl, trivial⟩ ?_
              exact ih s3290 x1 x2 x3 x4 (x5 + 1) z3229 z3278 z3289 z3131 hG_s3290 f_s3290 (by first | exact x_rb b_x1 rfl rfl | exact ⟨by omega, by omega⟩) (by first | exact x_rb b_x2 rfl rfl | exact ⟨by omega, by omega⟩) (by first | exact x_rb b_x3 rfl rfl | exact ⟨by omega, by omega⟩) (by first | exact x_rb b_x4 rfl rfl | exact ⟨by omega, by omega⟩) ⟨by omega, by omega⟩ (by first | exact x_rbe e_z3229 g_z3229 rfl rfl | exact x_rb g_z3229 rfl rfl | exact ⟨by omega, by omega⟩) (by first | exact x_rbe e_z3278 g_z3278 rfl rfl | exact x_rb g_z3278 rfl rfl | exact ⟨by omega, by omega⟩) (by first | exact x_rbe e_z3289 g_z3289 rfl rfl | exact x_rb g_z3289 rfl rfl | exact ⟨by omega, by omega⟩) (by first | exact x_rbe e_z3131 g_z3131 rfl rfl | exact x_rb g_z3131 rfl rfl | exact ⟨by omega, by omega⟩) (by omega) (by omega) (by omega) (by omega) (by omega) (by omega) (by omega) (q3293).symm (q3294).symm (q3295).symm (q3292).symm  (by omega)
            · skip
              refine x_A k207_124 (fun _ => rfl) ?_
              refine x_A k207_125 (fun _ => rfl) ?_
              refine x_A k207_127 (fun _ => rfl) ?_
              refine x_callV k207_128 (y := 169) (n := 2) (w0 := 2) (w1 := 2) (as := [vi x5, vi x2]) (rest := [vi x1002, .ref 256]) (by decide +kernel) (q := 256) (nq := 62) (kq := 15) ⟨by decide, rfl⟩ rfl rfl rfl rfl (xe_mono (C_X11_shows_256 s3279 hG_s3279 x5 (by first | exact x_rb b_x5 rfl rfl | exact ⟨by omega, by omega⟩) x2 (by first | exact x_rb b_x2 rfl rfl | exact ⟨by omega, by omega⟩)) ?_)
              rintro s3298 v ⟨-, t_s3298, z3297, rfl, g_z3297⟩
              rw [t_s3298.nil]
              show xe none 207 131 [(0, .ref 256), (1, vi x1), (2, vi x2), (3, vi x3), (4, vi x4), (5, vi x5)] [vi z3297, vi x1002, .ref 256] s3279 0 0 _
              refine x_if_eq k207_131 (t := 138) rfl (by first | exact x_rbe e_z3297 g_z3297 rfl rfl | exact x_rb g_z3297 rfl rfl | exact ⟨by omega, by omega⟩) (fun c3299 => ?_) (fun c3299 => ?_)
              · skip
                refine x_A k207_138 (fun _ => rfl) ?_
                refine x_iadd k207_139 ?_
                refine x_top (fun z3300 e_z3300 => ?_)
                refine x_putI k207_140 (f := 55) rfl (q := 256) (n := 62) (kd := 15) ⟨by decide, rfl⟩ rfl rfl rfl ?_
                refine x_nh (fun s3301 e_s3301 => ?_)
                have hG_s3301 : GI s3301 := by rw [e_s3301]; exact hG_s3279.up (show 0 ≤ z3300 ∧ z3300 ≤ 40 from (by first | exact x_rbe e_z3300 g_z3300 rfl rfl | exact x_rb g_z3300 rfl rfl | exact ⟨by omega, by omega⟩))
                have f_s3301 : FL [4150, 4151, 4152, 4153] s0 s3301 := by rw [e_s3301]; exact f_s3279.up (show 4152 ∈ [4150, 4151, 4152, 4153] from by decide +kernel)
                have q3302 : s3301 256 6 = z3122 := by rw [e_s3301, x_up_i (by decide)]; exact q3281
                have q3303 : s3301 256 56 = z3131 := by rw [e_s3301, x_up_i (by decide)]; exact q3282
                have q3304 : s3301 256 53 = z3229 := by rw [e_s3301, x_up_i (by decide)]; exact q3283
                have q3305 : s3301 256 54 = z3278 := by rw [e_s3301, x_up_i (by decide)]; exact q3284
                have q3306 : s3301 256 55 = z3300 := by rw [e_s3301]; exact x_up_same
                have q3307 : s3301 261 x5.toNat = z3127 := by rw [e_s3301, x_up_q (by first | decide | omega)]; exact q3285
                refine x_iinc k207_143 (ls' := [(5, vi (x5 + 1)), (0, .ref 256), (1, vi x1), (2, vi x2), (3, vi x3), (4, vi x4)]) rfl (by decide) rfl ?_
                refine x_goto k207_146 (t := 23) rfl ?_
                refine x_ls (l := [(0, .ref 256), (1, vi x1), (2, vi x2), (3, vi x3), (4, vi x4), (5, vi (x5 + 1))]) (show ([0, 1, 2, 3, 4, 5] : List Nat).Nodup from by decide +kernel) ⟨rfl, rfl, rfl, rfl, rfl, rfl, trivial⟩ ?_
                exact ih s3301 x1 x2 x3 x4 (x5 + 1) z3229 z3278 z3300 z3131 hG_s3301 f_s3301 (by first | exact x_rb b_x1 rfl rfl | exact ⟨by omega, by omega⟩) (by first | exact x_rb b_x2 rfl rfl | exact ⟨by omega, by omega⟩) (by first | exact x_rb b_x3 rfl rfl | exact ⟨by omega, by omega⟩) (by first | exact x_rb b_x4 rfl rfl | exact ⟨by omega, by omega⟩) ⟨by omega, by omega⟩ (by first | exact x_rbe e_z3229 g_z3229 rfl rfl | exact x_rb g_z3229 rfl rfl | exact ⟨by omega, by omega⟩) (by first | exact x_rbe e_z3278 g_z3278 rfl rfl | exact x_rb g_z3278 rfl rfl | exact ⟨by omega, by omega⟩) (by first | exact x_rbe e_z3300 g_z3300 rfl rfl | exact x_rb g_z3300 rfl rfl | exact ⟨by omega, by omega⟩) (by first | exact x_rbe e_z3131 g_z3131 rfl rfl | exact x_rb g_z3131 rfl rfl | exact ⟨by omega, by omega⟩) (by omega) (by omega) (by omega) (by omega) (by omega) (by omega) (by omega) (q3304).symm (q3305).symm (q3306).symm (q3303).symm  (by omega)
              · skip
                refine x_A k207_134 (fun _ => rfl) ?_
                refine x_goto k207_135 (t := 139) rfl ?_
                refine x_iadd k207_139 ?_
                refine x_top (fun z3308 e_z3308 => ?_)
                refine x_putI k207_140 (f := 55) rfl (q := 256) (n := 62) (kd := 15) ⟨by decide, rfl⟩ rfl rfl rfl ?_
                refine x_nh (fun s3309 e_s3309 => ?_)
                have hG_s3309 : GI s3309 := by rw [e_s3309]; exact hG_s3279.up (show 0 ≤ z3308 ∧ z3308 ≤ 40 from (by first | exact x_rbe e_z3308 g_z3308 rfl rfl | exact x_rb g_z3308 rfl rfl | exact ⟨by omega, by omega⟩))
                have f_s3309 : FL [4150, 4151, 4152, 4153] s0 s3309 := by rw [e_s3309]; exact f_s3279.up (show 4152 ∈ [4150, 4151, 4152, 4153] from by decide +kernel)
                have q3310 : s3309 256 6 = z3122 := by rw [e_s3309, x_up_i (by decide)]; exact q3281
                have q3311 : s3309 256 56 = z3131 := by rw [e_s3309, x_up_i (by decide)]; exact q3282
                have q3312 : s3309 256 53 = z3229 := by rw [e_s3309, x_up_i (by decide)]; exact q3283
                have q3313 : s3309 256 54 = z3278 := by rw [e_s3309, x_up_i (by decide)]; exact q3284
                have q3314 : s3309 256 55 = z3308 := by rw [e_s3309]; exact x_up_same
                have q3315 : s3309 261 x5.toNat = z3127 := by rw [e_s3309, x_up_q (by first | decide | omega)]; exact q3285
                refine x_iinc k207_143 (ls' := [(5, vi (x5 + 1)), (0, .ref 256), (1, vi x1), (2, vi x2), (3, vi x3), (4, vi x4)]) rfl (by decide) rfl ?_
                refine x_goto k207_146 (t := 23) rfl ?_
                refine x_ls (l := [(0, .ref 256), (1, vi x1), (2, vi x2), (3, vi x3), (4, vi x4), (5, vi (x5 + 1))]) (show ([0, 1, 2, 3, 4, 5] : List Nat).Nodup from by decide +kernel) ⟨rfl, rfl, rfl, rfl, rfl, rfl, trivial⟩ ?_
                exact ih s3309 x1 x2 x3 x4 (x5 + 1) z3229 z3278 z3308 z3131 hG_s3309 f_s3309 (by first | exact x_rb b_x1 rfl rfl | exact ⟨by omega, by omega⟩) (by first | exact x_rb b_x2 rfl rfl | exact ⟨by omega, by omega⟩) (by first | exact x_rb b_x3 rfl rfl | exact ⟨by omega, by omega⟩) (by first | exact x_rb b_x4 rfl rfl | exact ⟨by omega, by omega⟩) ⟨by omega, by omega⟩ (by first | exact x_rbe e_z3229 g_z3229 rfl rfl | exact x_rb g_z3229 rfl rfl | exact ⟨by omega, by omega⟩) (by first | exact x_rbe e_z3278 g_z3278 rfl rfl | exact x_rb g_z3278 rfl rfl | exact ⟨by omega, by omega⟩) (by first | exact x_rbe e_z3308 g_z3308 rfl rfl | exact x_rb g_z3308 rfl rfl | exact ⟨by omega, by omega⟩) (by first | exact x_rbe e_z3131 g_z3131 rfl rfl | exact x_rb g_z3131 rfl rfl | exact ⟨by omega, by omega⟩) (by omega) (by omega) (by omega) (by omega) (by omega) (by omega) (by omega) (q3312).symm (q3313).symm (q3314).symm (q3311).symm  (by omega)
      · rw [e_z3128]
        show xe none 207 48 [(0, .ref 256), (1, vi x1), (2, vi x2), (3, vi x3), (4, vi x4), (5, vi x5)] [vi 0] s 0 0 _
        refine x_if_eq k207_48 (t := 143) rfl ⟨by decide, by decide⟩ (fun c3316 => ?_) (fun c3316 => by exfalso; omega)
        refine x_iinc k207_143 (ls' := [(5, vi (x5 + 1)), (0, .ref 256), (1, vi x1), (2, vi x2), (3, vi x3), (4, vi x4)]) rfl (by decide) rfl ?_
        refine x_goto k207_146 (t := 23) rfl ?_
        refine x_ls (l := [(0, .ref 256), (1, vi x1), (2, vi x2), (3, vi x3), (4, vi x4), (5, vi (x5 + 1))]) (show ([0, 1, 2, 3, 4, 5] : List Nat).Nodup from by decide +kernel) ⟨rfl, rfl, rfl, rfl, rfl, rfl, trivial⟩ ?_
        exact ih s x1 x2 x3 x4 (x5 + 1) x1000 x1001 x1002 x1003 hG f (by first | exact x_rb b_x1 rfl rfl | exact ⟨by omega, by omega⟩) (by first | exact x_rb b_x2 rfl rfl | exact ⟨by omega, by omega⟩) (by first | exact x_rb b_x3 rfl rfl | exact ⟨by omega, by omega⟩) (by first | exact x_rb b_x4 rfl rfl | exact ⟨by omega, by omega⟩) ⟨by omega, by omega⟩ (by first | exact x_rb b_x1000 rfl rfl | exact ⟨by omega, by omega⟩) (by first | exact x_rb b_x1001 rfl rfl | exact ⟨by omega, by omega⟩) (by first | exact x_rb b_x1002 rfl rfl | exact ⟨by omega, by omega⟩) (by first | exact x_rb b_x1003 rfl rfl | exact ⟨by omega, by omega⟩) (by omega) (by omega) (by omega) (by omega) (by omega) (by omega) (by omega) (e_x1000.symm).symm (e_x1001.symm).symm (e_x1002.symm).symm (e_x1003.symm).symm  (by omega)
theorem C_X11_isBeyond_256 (s0 : xS) (hG0 : GI s0) (a : Int) (b_a : (-2147483648) ≤ a ∧ a ≤ 2147483647) (b : Int) (b_b : (-2147483648) ≤ b ∧ b ≤ 2147483647) (d : Int) (b_d : (-2147483648) ≤ d ∧ d ≤ 2147483647) (e : Int) (b_e : (-2147483648) ≤ e ∧ e ≤ 2147483647) : xe none 207 0 (lv_args 0 [.ref 256, vi a, vi b, vi d, vi e]) [] s0 0 0 (fun s' v => GI s' ∧ FL [4150, 4151, 4152, 4153] s0 s' ∧ ∃ z, v = some (vi z) ∧ (0 ≤ z ∧ z ≤ 1)) := by
  have f0 : FL [4150, 4151, 4152, 4153] s0 s0 := FL.rf
  show xe none 207 0 [(0, .ref 256), (1, vi a), (2, vi b), (3, vi d), (4, vi e)] [] s0 0 0 _
  refine x_A k207_0 (fun _ => rfl) ?_
  refine x_A k207_1 (fun _ => rfl) ?_
  refine x_putI k207_2 (f := 53) rfl (q := 256) (n := 62) (kd := 15) ⟨by decide, rfl⟩ rfl rfl rfl ?_
  refine x_nh (fun s3317 e_s3317 => ?_)
  have hG_s3317 : GI s3317 := by rw [e_s3317]; exact hG0.up (show 0 ≤ 0 ∧ 0 ≤ 40 from ⟨by decide, by decide⟩)
  have f_s3317 : FL [4150, 4151, 4152, 4153] s0 s3317 := by rw [e_s3317]; exact f0.up (show 4150 ∈ [4150, 4151, 4152, 4153] from by decide +kernel)
  have q3318 : s3317 256 53 = 0 := by rw [e_s3317]; exact x_up_same
  refine x_A k207_5 (fun _ => rfl) ?_
  refine x_A k207_6 (fun _ => rfl) ?_
  refine x_putI k207_7 (f := 54) rfl (q := 256) (n := 62) (kd := 15) ⟨by decide, rfl⟩ rfl rfl rfl ?_
  refine x_nh (fun s3319 e_s3319 => ?_)
  have hG_s3319 : GI s3319 := by rw [e_s3319]; exact hG_s3317.up (show 0 ≤ 0 ∧ 0 ≤ 40 from ⟨by decide, by decide⟩)
  have f_s3319 : FL [4150, 4151, 4152, 4153] s0 s3319 := by rw [e_s3319]; exact f_s3317.up (show 4151 ∈ [4150, 4151, 4152, 4153] from by decide +kernel)
  have q3320 : s3319 256 53 = 0 := by rw [e_s3319, x_up_i (by decide)]; exact q3318
  have q3321 : s3319 256 54 = 0 := by rw [e_s3319]; exact x_up_same
  refine x_A k207_10 (fun _ => rfl) ?_
  refine x_A k207_11 (fun _ => rfl) ?_
  refine x_putI k207_12 (f := 55) rfl (q := 256) (n := 62) (kd := 15) ⟨by decide, rfl⟩ rfl rfl rfl ?_
  refine x_nh (fun s3322 e_s3322 => ?_)
  have hG_s3322 : GI s3322 := by rw [e_s3322]; exact hG_s3319.up (show 0 ≤ 0 ∧ 0 ≤ 40 from ⟨by decide, by decide⟩)
  have f_s3322 : FL [4150, 4151, 4152, 4153] s0 s3322 := by rw [e_s3322]; exact f_s3319.up (show 4152 ∈ [4150, 4151, 4152, 4153] from by decide +kernel)
  have q3323 : s3322 256 53 = 0 := by rw [e_s3322, x_up_i (by decide)]; exact q3320
  have q3324 : s3322 256 54 = 0 := by rw [e_s3322, x_up_i (by decide)]; exact q3321
  have q3325 : s3322 256 55 = 0 := by rw [e_s3322]; exact x_up_same
  refine x_A k207_15 (fun _ => rfl) ?_
  refine x_A k207_16 (fun _ => rfl) ?_
  refine x_putI k207_17 (f := 56) rfl (q := 256) (n := 62) (kd := 15) ⟨by decide, rfl⟩ rfl rfl rfl ?_
  refine x_nh (fun s3326 e_s3326 => ?_)
  have hG_s3326 : GI s3326 := by rw [e_s3326]; exact hG_s3322.up (show 0 ≤ 0 ∧ 0 ≤ 40 from ⟨by decide, by decide⟩)
  have f_s3326 : FL [4150, 4151, 4152, 4153] s0 s3326 := by rw [e_s3326]; exact f_s3322.up (show 4153 ∈ [4150, 4151, 4152, 4153] from by decide +kernel)
  have q3327 : s3326 256 53 = 0 := by rw [e_s3326, x_up_i (by decide)]; exact q3323
  have q3328 : s3326 256 54 = 0 := by rw [e_s3326, x_up_i (by decide)]; exact q3324
  have q3329 : s3326 256 55 = 0 := by rw [e_s3326, x_up_i (by decide)]; exact q3325
  have q3330 : s3326 256 56 = 0 := by rw [e_s3326]; exact x_up_same
  refine x_A k207_20 (fun _ => rfl) ?_
  refine x_istore k207_21 (ls' := [(5, vi 0), (0, .ref 256), (1, vi a), (2, vi b), (3, vi d), (4, vi e)]) (by decide) rfl ?_
  refine x_ls (l := [(0, .ref 256), (1, vi a), (2, vi b), (3, vi d), (4, vi e), (5, vi 0)]) (show ([0, 1, 2, 3, 4, 5] : List Nat).Nodup from by decide +kernel) ⟨rfl, rfl, rfl, rfl, rfl, rfl, trivial⟩ ?_
  exact L_C_X11_isBeyond_256_23 s0   (((40 - 0) + 1 : Int)).toNat s3326 a b d e 0 0 0 0 0 hG_s3326 f_s3326 (by first | exact x_rb b_a rfl rfl | exact ⟨by omega, by omega⟩) (by first | exact x_rb b_b rfl rfl | exact ⟨by omega, by omega⟩) (by first | exact x_rb b_d rfl rfl | exact ⟨by omega, by omega⟩) (by first | exact x_rb b_e rfl rfl | exact ⟨by omega, by omega⟩) ⟨by decide, by decide⟩ ⟨by decide, by decide⟩ ⟨by decide, by decide⟩ ⟨by decide, by decide⟩ ⟨by decide, by decide⟩ (by omega) (by omega) (by omega) (by omega) (by omega) (by omega) (by omega) (q3327).symm (q3328).symm (q3329).symm (q3330).symm  (by omega)
theorem L_C_X11_showsWord_256_5 (s0 : xS)   : ∀ (n : Nat) (s : xS) (x1 : Int) (x2 : Int) (x3 : Int) (x4 : Int) (hG : GI s) (f : FL [] s0 s) (b_x1 : 0 ≤ x1 ∧ x1 ≤ 39) (b_x2 : (-2147483648) ≤ x2 ∧ x2 ≤ 2147483647) (b_x3 : 0 ≤ x3 ∧ x3 ≤ 1) (b_x4 : 0 ≤ x4 ∧ x4 ≤ 60) (r_3_4 : x3 ≤ x4 + 0)  (hm : (60 - x4) < (n : Int)), xe none 202 5 [(0, .ref 256), (1, vi x1), (2, vi x2), (3, vi x3), (4, vi x4)] [] s 0 0 (fun s' v => GI s' ∧ FL [] s0 s' ∧ ∃ z, v = some (vi z) ∧ (0 ≤ z ∧ z ≤ 1)) := by
  intro n
  induction n with
  | zero => intro s x1 x2 x3 x4 hG f b_x1 b_x2 b_x3 b_x4 r_3_4  hm; exfalso; omega
  | succ n ih =>
    intro s x1 x2 x3 x4 hG f b_x1 b_x2 b_x3 b_x4 r_3_4  hm
    refine x_A k202_5 (fun _ => rfl) ?_
    refine x_A k202_7 (fun _ => rfl) ?_
    refine x_getI k202_8 (f := 40) rfl (q := 256) (n := 62) (kd := 15) ⟨by decide, rfl⟩ (by decide) rfl ?_
    refine x_top (fun z136 e_z136 => ?_)
    have g_z136 : (0 : Int) ≤ s 256 40 ∧ s 256 40 ≤ 60 := hG 256 40
    refine x_ic_ge k202_11 (t := 56) rfl (by first | exact x_rb b_x4 rfl rfl | exact ⟨by omega, by omega⟩) (by first | exact x_rbe e_z136 g_z136 rfl rfl | exact x_rb g_z136 rfl rfl | exact ⟨by omega, by omega⟩) (fun c137 => ?_) (fun c137 => ?_)
    · skip
      refine x_A k202_56 (fun _ => rfl) ?_
      exact x_zret k202_57 rfl ⟨by omega, by omega⟩ ⟨hG, f, x3, rfl, (by first | exact x_rb b_x3 rfl rfl | exact ⟨by omega, by omega⟩)⟩
    · skip
      refine x_A k202_14 (fun _ => rfl) ?_
      refine x_if_ne k202_15 (t := 44) rfl (by first | exact x_rb b_x3 rfl rfl | exact ⟨by omega, by omega⟩) (fun c138 => ?_) (fun c138 => ?_)
      · skip
        refine x_A k202_44 (fun _ => rfl) ?_
        refine x_goto k202_45 (t := 49) rfl ?_
        refine x_istore_n k202_49 (ls' := [(3, vi 1), (0, .ref 256), (1, vi x1), (2, vi x2), (4, vi x4)]) (by decide) rfl ?_
        refine x_iinc k202_50 (ls' := [(4, vi (x4 + 1)), (3, vi 1), (0, .ref 256), (1, vi x1), (2, vi x2)]) rfl (by decide) rfl ?_
        refine x_goto k202_53 (t := 5) rfl ?_
        refine x_ls (l := [(0, .ref 256), (1, vi x1), (2, vi x2), (3, vi 1), (4, vi (x4 + 1))]) (show ([0, 1, 2, 3, 4] : List Nat).Nodup from by decide +kernel) ⟨rfl, rfl, rfl, rfl, rfl, trivial⟩ ?_
        exact ih s x1 x2 1 (x4 + 1) hG f (by first | exact x_rb b_x1 rfl rfl | exact ⟨by omega, by omega⟩) (by first | exact x_rb b_x2 rfl rfl | exact ⟨by omega, by omega⟩) ⟨by decide, by decide⟩ ⟨by omega, by omega⟩ (by omega)  (by omega)
      · skip
        refine x_A k202_18 (fun _ => rfl) ?_
        refine x_getR k202_19 (f := 41) rfl (q := 256) (n := 62) (kd := 15) ⟨by decide, rfl⟩ (q2 := 284) (by decide) rfl ?_
        refine x_A k202_22 (fun _ => rfl) ?_
        refine x_iald k202_24 (q := 284) (n := 60) ⟨by decide, rfl⟩ (by decide) (by first | exact x_rbl b_x4 rfl rfl | exact ⟨by omega, by omega⟩) ?_
        refine x_top (fun z139 e_z139 => ?_)
        have g_z139 : (0 : Int) ≤ s 284 x4.toNat ∧ s 284 x4.toNat ≤ 399 := hG 284 x4.toNat
        refine x_A k202_25 (fun _ => rfl) ?_
        refine x_ic_ne k202_26 (t := 48) rfl (by first | exact x_rbe e_z139 g_z139 rfl rfl | exact x_rb g_z139 rfl rfl | exact ⟨by omega, by omega⟩) (by first | exact x_rb b_x2 rfl rfl | exact ⟨by omega, by omega⟩) (fun c140 => ?_) (fun c140 => ?_)
        · skip
          refine x_A k202_48 (fun _ => rfl) ?_
          refine x_istore_n k202_49 (ls' := [(3, vi 0), (0, .ref 256), (1, vi x1), (2, vi x2), (4, vi x4)]) (by decide) rfl ?_
          refine x_iinc k202_50 (ls' := [(4, vi (x4 + 1)), (3, vi 0), (0, .ref 256), (1, vi x1), (2, vi x2)]) rfl (by decide) rfl ?_
          refine x_goto k202_53 (t := 5) rfl ?_
          refine x_ls (l := [(0, .ref 256), (1, vi x1), (2, vi x2), (3, vi 0), (4, vi (x4 + 1))]) (show ([0, 1, 2, 3, 4] : List Nat).Nodup from by decide +kernel) ⟨rfl, rfl, rfl, rfl, rfl, trivial⟩ ?_
          exact ih s x1 x2 0 (x4 + 1) hG f (by first | exact x_rb b_x1 rfl rfl | exact ⟨by omega, by omega⟩) (by first | exact x_rb b_x2 rfl rfl | exact ⟨by omega, by omega⟩) ⟨by decide, by decide⟩ ⟨by omega, by omega⟩ (by omega)  (by omega)
        · skip
          refine x_A k202_29 (fun _ => rfl) ?_
          refine x_A k202_30 (fun _ => rfl) ?_
          refine x_A k202_31 (fun _ => rfl) ?_
          refine x_getR k202_32 (f := 42) rfl (q := 256) (n := 62) (kd := 15) ⟨by decide, rfl⟩ (q2 := 285) (by decide) rfl ?_
          refine x_A k202_35 (fun _ => rfl) ?_
          refine x_iald k202_37 (q := 285) (n := 60) ⟨by decide, rfl⟩ (by decide) (by first | exact x_rbl b_x4 rfl rfl | exact ⟨by omega, by omega⟩) ?_
          refine x_top (fun z141 e_z141 => ?_)
          have g_z141 : (0 : Int) ≤ s 285 x4.toNat ∧ s 285 x4.toNat ≤ 39 := hG 285 x4.toNat
          refine x_callV k202_38 (y := 169) (n := 2) (w0 := 0) (w1 := 2) (as := [vi x1, vi z141]) (rest := []) (by decide +kernel) (q := 256) (nq := 62) (kq := 15) ⟨by decide, rfl⟩ rfl rfl rfl rfl (xe_mono (C_X11_shows_256 s hG x1 (by first | exact x_rb b_x1 rfl rfl | exact ⟨by omega, by omega⟩) z141 (by first | exact x_rbe e_z141 g_z141 rfl rfl | exact x_rb g_z141 rfl rfl | exact ⟨by omega, by omega⟩)) ?_)
          rintro s143 v ⟨-, t_s143, z142, rfl, g_z142⟩
          rw [t_s143.nil]
          show xe none 202 41 [(0, .ref 256), (1, vi x1), (2, vi x2), (3, vi x3), (4, vi x4)] [vi z142] s 0 0 _
          refine x_if_eq k202_41 (t := 48) rfl (by first | exact x_rbe e_z142 g_z142 rfl rfl | exact x_rb g_z142 rfl rfl | exact ⟨by omega, by omega⟩) (fun c144 => ?_) (fun c144 => ?_)
          · skip
            refine x_A k202_48 (fun _ => rfl) ?_
            refine x_istore_n k202_49 (ls' := [(3, vi 0), (0, .ref 256), (1, vi x1), (2, vi x2), (4, vi x4)]) (by decide) rfl ?_
            refine x_iinc k202_50 (ls' := [(4, vi (x4 + 1)), (3, vi 0), (0, .ref 256), (1, vi x1), (2, vi x2)]) rfl (by decide) rfl ?_
            refine x_goto k202_53 (t := 5) rfl ?_
            refine x_ls (l := [(0, .ref 256), (1, vi x1), (2, vi x2), (3, vi 0), (4, vi (x4 + 1))]) (show ([0, 1, 2, 3, 4] : List Nat).Nodup from by decide +kernel) ⟨rfl, rfl, rfl, rfl, rfl, trivial⟩ ?_
            exact ih s x1 x2 0 (x4 + 1) hG f (by first | exact x_rb b_x1 rfl rfl | exact ⟨by omega, by omega⟩) (by first | exact x_rb b_x2 rfl rfl | exact ⟨by omega, by omega⟩) ⟨by decide, by decide⟩ ⟨by omega, by omega⟩ (by omega)  (by omega)
          · skip
            refine x_A k202_44 (fun _ => rfl) ?_
            refine x_goto k202_45 (t := 49) rfl ?_
            refine x_istore_n k202_49 (ls' := [(3, vi 1), (0, .ref 256), (1, vi x1), (2, vi x2), (4, vi x4)]) (by decide) rfl ?_
            refine x_iinc k202_50 (ls' := [(4, vi (x4 + 1)), (3, vi 1), (0, .ref 256), (1, vi x1), (2, vi x2)]) rfl (by decide) rfl ?_
            refine x_goto k202_53 (t := 5) rfl ?_
            refine x_ls (l := [(0, .ref 256), (1, vi x1), (2, vi x2), (3, vi 1), (4, vi (x4 + 1))]) (show ([0, 1, 2, 3, 4] : List Nat).Nodup from by decide +kernel) ⟨rfl, rfl, rfl, rfl, rfl, trivial⟩ ?_
            exact ih s x1 x2 1 (x4 + 1) hG f (by first | exact x_rb b_x1 rfl rfl | exact ⟨by omega, by omega⟩) (by first | exact x_rb b_x2 rfl rfl | exact ⟨by omega, by omega⟩) ⟨by decide, by decide⟩ ⟨by omega, by omega⟩ (by omega)  (by omega)
theorem C_X11_showsWord_256 (s0 : xS) (hG0 : GI s0) (a : Int) (b_a : 0 ≤ a ∧ a ≤ 39) (b : Int) (b_b : (-2147483648) ≤ b ∧ b ≤ 2147483647) : xe none 202 0 (lv_args 0 [.ref 256, vi a, vi b]) [] s0 0 0 (fun s' v => GI s' ∧ FL [] s0 s' ∧ ∃ z, v = some (vi z) ∧ (0 ≤ z ∧ z ≤ 1)) := by
  have f0 : FL [] s0 s0 := FL.rf
  show xe none 202 0 [(0, .ref 256), (1, vi a), (2, vi b)] [] s0 0 0 _
  refine x_A k202_0 (fun _ => rfl) ?_
  refine x_istore_n k202_1 (ls' := [(3, vi 0), (0, .ref 256), (1, vi a), (2, vi b)]) (by decide) rfl ?_
  refine x_A k202_2 (fun _ => rfl) ?_
  refine x_istore k202_3 (ls' := [(4, vi 0), (3, vi 0), (0, .ref 256), (1, vi a), (2, vi b)]) (by decide) rfl ?_
  refine x_ls (l := [(0, .ref 256), (1, vi a), (2, vi b), (3, vi 0), (4, vi 0)]) (show ([0, 1, 2, 3, 4] : List Nat).Nodup from by decide +kernel) ⟨rfl, rfl, rfl, rfl, rfl, trivial⟩ ?_
  exact L_C_X11_showsWord_256_5 s0   (((60 - 0) + 1 : Int)).toNat s0 a b 0 0 hG0 f0 (by first | exact x_rb b_a rfl rfl | exact ⟨by omega, by omega⟩) (by first | exact x_rb b_b rfl rfl | exact ⟨by omega, by omega⟩) ⟨by decide, by decide⟩ ⟨by decide, by decide⟩ (by omega)  (by omega)
