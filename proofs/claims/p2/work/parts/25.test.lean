theorem C59 (s : xS) (a : Int) (ha : in32 a) (hsz : 1 ≤ s 1 4 ∧ s 1 4 ≤ 40) : xe none 59 0 (lv_args 0 [.ref 1, vi a]) [] s 0 0 (fun s' v => s' = s ∧ ∃ z, v = some (vi z) ∧ ((0 ≤ a ∧ a < s 1 4 ∧ z = 1) ∨ (¬ (0 ≤ a ∧ a < s 1 4) ∧ z = 0))) := by
  show xe none 59 0 [(0, .ref 1), (1, vi a)] [] s 0 0 _
  refine x_A k59_0 (fun _ => rfl) ?_
  refine x_if_lt k59_1 (t := 16) rfl ha (fun h1 => ?_) (fun h1 => ?_)
  · refine x_A k59_16 (fun _ => rfl) ?_
    exact x_zret k59_17 rfl ⟨by omega, by omega⟩ ⟨rfl, 0, rfl, by omega⟩
  · refine x_A k59_4 (fun _ => rfl) ?_
    refine x_A k59_5 (fun _ => rfl) ?_
    refine x_getI k59_6 (f := 4) rfl (q := 1) (n := 5) (kd := 4) ⟨by decide, rfl⟩ (by decide) rfl ?_
    refine x_ic_ge k59_9 (t := 16) rfl ha ⟨by omega, by omega⟩ (fun h2 => ?_) (fun h2 => ?_)
    · refine x_A k59_16 (fun _ => rfl) ?_
      exact x_zret k59_17 rfl ⟨by omega, by omega⟩ ⟨rfl, 0, rfl, by omega⟩
    · refine x_A k59_12 (fun _ => rfl) ?_
      refine x_goto k59_13 (t := 17) rfl ?_
      exact x_zret k59_17 rfl ⟨by omega, by omega⟩ ⟨rfl, 1, rfl, by omega⟩
/-- edition -/
theorem C91 (s : xS) (hn : 0 ≤ s 0 10 ∧ s 0 10 ≤ 9) : xe none 91 0 (lv_args 0 [.ref 0]) [] s 0 0 (fun s' v => (9 ≤ s 0 10 ∧ s' = s ∧ v = some (vi (-1003))) ∨ (s 0 10 < 9 ∧ s' = x_up s 0 10 (s 0 10 + 1) ∧ v = some (vi (s 0 10 + 1)))) := by
  show xe none 91 0 [(0, .ref 0)] [] s 0 0 _
  refine x_A k91_0 (fun _ => rfl) ?_
  refine x_getI k91_1 (f := 10) rfl (q := 0) (n := 12) (kd := 3) ⟨by decide, rfl⟩ (by decide) rfl ?_
  refine x_bipush k91_4 (by decide +kernel) ?_
  refine x_ic_lt k91_6 (t := 13) rfl ⟨by omega, by omega⟩ ⟨by omega, by omega⟩ (fun h1 => ?_) (fun h1 => ?_)
  · refine x_A k91_13 (fun _ => rfl) ?_
    refine x_A k91_14 (fun _ => rfl) ?_
    refine x_getI k91_15 (f := 10) rfl (q := 0) (n := 12) (kd := 3) ⟨by decide, rfl⟩ (by decide) rfl ?_
    refine x_A k91_18 (fun _ => rfl) ?_
    refine x_iadd k91_19 ?_
    refine x_putI k91_20 (f := 10) rfl (q := 0) (n := 12) (kd := 3) ⟨by decide, rfl⟩ rfl rfl rfl ?_
    refine x_A k91_23 (fun _ => rfl) ?_
    refine x_getI k91_24 (f := 10) rfl (q := 0) (n := 12) (kd := 3) ⟨by decide, rfl⟩ (by decide) rfl ?_
    rw [x_up_same]
    exact x_iret k91_27 rfl (Or.inr ⟨h1, rfl, rfl⟩)
  · refine x_sipush k91_9 (by decide +kernel) ?_
    exact x_iret k91_12 rfl (Or.inl ⟨by omega, rfl, rfl⟩)
/-- mark, its head: a call -/
theorem Cmark (s : xS) (a : Int) (ha : in32 a) (hsz : 1 ≤ s 1 4 ∧ s 1 4 ≤ 40) (hno : ¬ (0 ≤ a ∧ a < s 1 4)) : xe none 92 0 (lv_args 0 [.ref 0, vi a]) [] s 0 0 (fun s' v => s' = s ∧ v = some (vi (-1001))) := by
  show xe none 92 0 [(0, .ref 0), (1, vi a)] [] s 0 0 _
  refine x_A k92_0 (fun _ => rfl) ?_
  refine x_getR k92_1 (f := 0) rfl (q := 0) (n := 12) (kd := 3) (q2 := 1) ⟨by decide, rfl⟩ (by decide) rfl ?_
  refine x_A k92_4 (fun _ => rfl) ?_
  refine x_callV k92_5 (y := 59) (n := 1) (w0 := 0) (w1 := 1) (as := [vi a]) (rest := []) (by decide +kernel) (q := 1) (nq := 5) (kq := 4) ⟨by decide, rfl⟩ rfl rfl rfl rfl (xe_mono (C59 s a ha hsz) ?_)
  rintro s1 v ⟨rfl, z, rfl, hz⟩
  show xe none 92 8 [(0, .ref 0), (1, vi a)] [vi z] _ 0 0 _
  refine x_if_ne k92_8 (t := 15) rfl ⟨by omega, by omega⟩ (fun h1 => ?_) (fun h1 => ?_)
  · exfalso; omega
  · refine x_sipush k92_11 (by decide +kernel) ?_
    exact x_iret k92_14 rfl ⟨rfl, rfl⟩
