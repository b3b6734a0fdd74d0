theorem pm_kc14 : ∀ e ∈ pm_cons 14, pm_chk 14 e = true := by decide +kernel
theorem pm_k15 : ∀ w ∈ (pm_cons 15).flatMap (pm_wk 15), w ∈ pm_ws := pm_subg [] (by decide +kernel) (by decide +kernel)
theorem pm_kc15 : ∀ e ∈ pm_cons 15, pm_chk 15 e = true := by decide +kernel
theorem pm_k16 : ∀ w ∈ (pm_cons 16).flatMap (pm_wk 16), w ∈ pm_ws := pm_subg [] (by decide +kernel) (by decide +kernel)
theorem pm_kc16 : ∀ e ∈ pm_cons 16, pm_chk 16 e = true := by decide +kernel
theorem pm_k17 : ∀ w ∈ (pm_cons 17).flatMap (pm_wk 17), w ∈ pm_ws := pm_subg [] (by decide +kernel) (by decide +kernel)
theorem pm_kc17 : ∀ e ∈ pm_cons 17, pm_chk 17 e = true := by decide +kernel
theorem pm_k18 : ∀ w ∈ (pm_cons 18).flatMap (pm_wk 18), w ∈ pm_ws := pm_subg [1617] (by decide +kernel) (by decide +kernel)
theorem pm_kc18 : ∀ e ∈ pm_cons 18, pm_chk 18 e = true := by decide +kernel
theorem pm_kA : ∀ k : Nat, ∀ w ∈ (pm_cons k).flatMap (pm_wk k), w ∈ pm_ws := fun k => match k with
  | 0 => pm_k0
  | 1 => pm_k1
  | 2 => pm_k2
  | 3 => pm_k3
  | 4 => pm_k4
  | 5 => pm_k5
  | 6 => pm_k6
  | 7 => pm_k7
  | 8 => pm_k8
  | 9 => pm_k9
  | 10 => pm_k10
  | 11 => pm_k11
  | 12 => pm_k12
  | 13 => pm_k13
  | 14 => pm_k14
  | 15 => pm_k15
  | 16 => pm_k16
  | 17 => pm_k17
  | 18 => pm_k18
  | _ + 19 => fun w h => by simp [pm_cons] at h
theorem pm_kB : ∀ k : Nat, ∀ e ∈ pm_cons k, pm_chk k e = true := fun k => match k with
  | 0 => pm_kc0
  | 1 => pm_kc1
  | 2 => pm_kc2
  | 3 => pm_kc3
  | 4 => pm_kc4
  | 5 => pm_kc5
  | 6 => pm_kc6
  | 7 => pm_kc7
  | 8 => pm_kc8
  | 9 => pm_kc9
  | 10 => pm_kc10
  | 11 => pm_kc11
  | 12 => pm_kc12
  | 13 => pm_kc13
  | 14 => pm_kc14
  | 15 => pm_kc15
  | 16 => pm_kc16
  | 17 => pm_kc17
  | 18 => pm_kc18
  | _ + 19 => fun w h => by simp [pm_cons] at h
theorem pm_sA : ∀ w ∈ pm_strs.map (fun q => Cond.stringRef (pm_own q.1) q.2.1 q.2.2), w ∈ lw_tbl := pm_sub [921, 931, 932, 933, 934, 935, 956, 961, 765, 818, 819, 820, 821, 822, 846, 852, 843, 844, 845] (by decide +kernel)
def pm_okc (ci : Nat) (q : vw_C) : Prop := (∀ w ∈ u_ws q.1 q.2.1 q.2.2, w ∈ pm_ws) ∧ (∀ k, k < q.2.2 → parseFieldDescriptor (q.2.1 k).2.2.1 = some (pm_ty ci k)) ∧ (∀ a, a < q.2.2 → ∀ b, b < q.2.2 → a ≠ b → (q.2.1 a).2.1 ≠ (q.2.1 b).2.1) ∧ pm_own ci = q.1 ∧ (∀ k, pm_fin ci k = (q.2.1 k).2.2.2) ∧ (Cond.instantiable q.1 q.2.2 ∈ pm_ws ∧ Cond.initialized q.1 ∈ pm_ws) ∧ (∀ k, k < q.2.2 → (q.2.1 k).1 = q.1)
theorem pm_usg {C : String} {T : u_T} {N : Nat} (h : ∀ w ∈ u_ws C T N, w ∈ lw_tbl) : ∀ w ∈ u_ws C T N, w ∈ pm_ws := fun w hw => pm_wsin (h w hw) (by
  obtain ⟨k, -, rfl⟩ := List.mem_map.mp hw
  unfold u_lay
  split <;> rfl)
theorem pm_okc0 : pm_okc 0 (RX0, TX0, 7) := ⟨pm_usg wiX0, tyX0_ok, nmX0, rfl, fun _ => rfl, ⟨pm_wsin (List.mem_of_getElem? (i := 324) (by decide +kernel)) rfl, pm_wsin (List.mem_of_getElem? (i := 81) (by decide +kernel)) rfl⟩, by decide +kernel⟩
theorem pm_okc1 : pm_okc 1 (RX1, TX1, 8) := ⟨pm_usg wiX1, tyX1_ok, nmX1, rfl, fun _ => rfl, ⟨pm_wsin (List.mem_of_getElem? (i := 265) (by decide +kernel)) rfl, pm_wsin (List.mem_of_getElem? (i := 79) (by decide +kernel)) rfl⟩, by decide +kernel⟩
theorem pm_okc2 : pm_okc 2 (RX2, TX2, 7) := ⟨pm_usg wiX2, tyX2_ok, nmX2, rfl, fun _ => rfl, ⟨pm_wsin (List.mem_of_getElem? (i := 153) (by decide +kernel)) rfl, pm_wsin (List.mem_of_getElem? (i := 76) (by decide +kernel)) rfl⟩, by decide +kernel⟩
theorem pm_okc3 : pm_okc 3 (RX3, TX3, 4) := ⟨pm_usg wiX3, tyX3_ok, nmX3, rfl, fun _ => rfl, ⟨pm_wsin (List.mem_of_getElem? (i := 132) (by decide +kernel)) rfl, pm_wsin (List.mem_of_getElem? (i := 75) (by decide +kernel)) rfl⟩, by decide +kernel⟩
theorem pm_okc4 : pm_okc 4 (RX4, TX4, 6) := ⟨pm_usg wiX4, tyX4_ok, nmX4, rfl, fun _ => rfl, ⟨pm_wsin (List.mem_of_getElem? (i := 232) (by decide +kernel)) rfl, pm_wsin (List.mem_of_getElem? (i := 78) (by decide +kernel)) rfl⟩, by decide +kernel⟩
theorem pm_okc5 : pm_okc 5 (RX5, TX5, 4) := ⟨pm_usg wiX5, tyX5_ok, nmX5, rfl, fun _ => rfl, ⟨pm_wsin (List.mem_of_getElem? (i := 357) (by decide +kernel)) rfl, pm_wsin (List.mem_of_getElem? (i := 82) (by decide +kernel)) rfl⟩, by decide +kernel⟩
theorem pm_okc6 : pm_okc 6 (RX6, TX6, 7) := ⟨pm_usg wiX6, tyX6_ok, nmX6, rfl, fun _ => rfl, ⟨pm_wsin (List.mem_of_getElem? (i := 195) (by decide +kernel)) rfl, pm_wsin (List.mem_of_getElem? (i := 77) (by decide +kernel)) rfl⟩, by decide +kernel⟩
theorem pm_okc7 : pm_okc 7 (RX7, TX7, 5) := ⟨pm_usg wiX7, tyX7_ok, nmX7, rfl, fun _ => rfl, ⟨pm_wsin (List.mem_of_getElem? (i := 100) (by decide +kernel)) rfl, pm_wsin (List.mem_of_getElem? (i := 73) (by decide +kernel)) rfl⟩, by decide +kernel⟩
theorem pm_okc8 : pm_okc 8 (RX8, TX8, 13) := ⟨pm_usg wiX8, tyX8_ok, nmX8, rfl, fun _ => rfl, ⟨pm_wsin (List.mem_of_getElem? (i := 382) (by decide +kernel)) rfl, pm_wsin (List.mem_of_getElem? (i := 83) (by decide +kernel)) rfl⟩, by decide +kernel⟩
theorem pm_okc9 : pm_okc 9 (RX9, TX9, 4) := ⟨pm_usg wiX9, tyX9_ok, nmX9, rfl, fun _ => rfl, ⟨pm_wsin (List.mem_of_getElem? (i := 304) (by decide +kernel)) rfl, pm_wsin (List.mem_of_getElem? (i := 80) (by decide +kernel)) rfl⟩, by decide +kernel⟩
theorem pm_okc10 : pm_okc 10 (RX10, TX10, 12) := ⟨pm_usg wiX10, tyX10_ok, nmX10, rfl, fun _ => rfl, ⟨pm_wsin (List.mem_of_getElem? (i := 92) (by decide +kernel)) rfl, pm_wsin (List.mem_of_getElem? (i := 72) (by decide +kernel)) rfl⟩, by decide +kernel⟩
theorem pm_okc11 : pm_okc 11 (RX11, TX11, 62) := ⟨pm_usg wiX11, tyX11_ok, nmX11, rfl, fun _ => rfl, ⟨pm_wsin (List.mem_of_getElem? (i := 1075) (by decide +kernel)) rfl, pm_wsin (List.mem_of_getElem? (i := 84) (by decide +kernel)) rfl⟩, by decide +kernel⟩
theorem pm_clok : ∀ (ci : Nat) (q : vw_C), pm_cl[ci]? = some q → pm_okc ci q := fun ci q h => match ci, h with
  | 0, h => by cases h; exact pm_okc0
  | 1, h => by cases h; exact pm_okc1
  | 2, h => by cases h; exact pm_okc2
  | 3, h => by cases h; exact pm_okc3
  | 4, h => by cases h; exact pm_okc4
  | 5, h => by cases h; exact pm_okc5
  | 6, h => by cases h; exact pm_okc6
  | 7, h => by cases h; exact pm_okc7
  | 8, h => by cases h; exact pm_okc8
  | 9, h => by cases h; exact pm_okc9
  | 10, h => by cases h; exact pm_okc10
  | 11, h => by cases h; exact pm_okc11
  | n + 12, h => by simp [pm_cl] at h

