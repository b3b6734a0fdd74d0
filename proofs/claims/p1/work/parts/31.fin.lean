/-! p1 out of the runs -/
section AMZ
variable {ρ : Nat → Int32} {F : aF}
theorem am_veq_ok {a b : aV} {v : Value} (h : am_veq a b = true) (hv : a.1 = 9 ∨ am_v ρ a v) : b.1 = 9 ∨ am_v ρ b v := by
  unfold am_veq at h
  rw [Bool.and_eq_true, Bool.and_eq_true, Bool.and_eq_true, am_ieq_iff, am_ieq_iff] at h
  obtain ⟨h1, h2, h3, h4⟩ := h
  have h1 := am_bq h1
  have h4 := am_bq h4
  rcases hv with hv | hv
  · exact Or.inl (h1.symm.trans hv)
  · right
    rcases hv with ⟨t, x, rfl, hx⟩ | ⟨t, x, rfl, hx⟩ | ⟨t, n, rfl, hx⟩ | ⟨t, rfl⟩
    · exact .ofI (h1.symm.trans t) ⟨by rw [← h2]; exact hx.1, by rw [← h3]; exact hx.2.1, Or.inl h4⟩
    · exact .ofJ (h1.symm.trans t) ⟨by rw [← h2]; exact hx.1, by rw [← h3]; exact hx.2.1, Or.inl h4⟩
    · exact .ofR (h1.symm.trans t) (h2.symm.trans hx)
    · exact Or.inr (Or.inr (Or.inr ⟨h1.symm.trans t, rfl⟩))
theorem am_rng_ok {f : Nat → Bool} : ∀ {n : Nat}, am_rng f n = true → ∀ i, i < n → f i = true
  | 0, _, i, hi => absurd hi (Nat.not_lt_zero i)
  | n + 1, h, i, hi => by
    have h : (f n && am_rng f n) = true := h
    rw [Bool.and_eq_true] at h
    by_cases e : i = n
    · rw [e]; exact h.1
    · exact am_rng_ok h.2 i (by omega)
theorem am_reb_ok {h A : aH} {H : pmH} (hc : am_reb h A = true) (hH : am_H ρ h H) : am_H ρ A H := by
  unfold am_reb at hc
  rw [Bool.and_eq_true, List.all_eq_true] at hc
  refine ⟨hH.1.trans (am_bq hc.1), fun q x hx => ?_⟩
  have h1 := hc.2 _ (pm_look_mem hx)
  dsimp only at h1
  split at h1
  · next c hlk =>
    rw [Bool.and_eq_true, Bool.and_eq_true] at h1
    obtain ⟨a1, a2, a3⟩ := h1
    obtain ⟨y, hy, e1, e2, e3⟩ := hH.2 _ _ hlk
    refine ⟨y, hy, e1.trans (am_bq a1), e2.trans (am_bq a2), fun i hi => ?_⟩
    exact am_veq_ok (am_rng_ok a3 i hi) (e3 i (by rw [am_bq a2]; exact hi))
  · cases h1
theorem am_leq_ok : ∀ {a b : aL} {l : pmL}, am_leq a b = true → am_ls ρ a l → (∀ e ∈ b, e.2.1 ≠ 9) → am_ls ρ b l
  | [], [], _, _, h, _ => h
  | x :: r, y :: t, [], _, h, _ => h.elim
  | x :: r, y :: t, v :: l, he, h, h9 => by
    have he : (Nat.beq x.1 y.1 && (am_veq x.2 y.2 && am_leq r t)) = true := he
    rw [Bool.and_eq_true, Bool.and_eq_true] at he
    refine ⟨⟨(am_bq he.1).symm.trans h.1.1, ?_⟩, am_leq_ok he.2.2 h.2 (fun e hm => h9 e (List.mem_cons_of_mem _ hm))⟩
    rcases am_veq_ok he.2.1 (Or.inr h.1.2) with z | z
    · exact absurd z (h9 y List.mem_cons_self)
    · exact z
  | [], _ :: _, _, he, _, _ => by cases he
  | _ :: _, [], _, he, _, _ => by cases he
theorem am_ivs_ok {x : Int} {hi : Int} (hh : x ≤ hi) : ∀ {cs : List Int} {lo : Int}, lo ≤ x → ∃ iv ∈ am_ivs lo hi cs, iv.1 ≤ x ∧ x ≤ iv.2
  | [], lo, h => ⟨(lo, hi), List.mem_cons_self, h, hh⟩
  | c :: r, lo, h => by
    by_cases hc : c ≤ x
    · obtain ⟨iv, h1, h2⟩ := am_ivs_ok hh (cs := r) hc
      exact ⟨iv, List.mem_cons_of_mem _ h1, h2⟩
    · exact ⟨(lo, c - 1), List.mem_cons_self, h, by show x ≤ c - 1; omega⟩
def am_bok (ρ : Nat → Int32) (bx : List aV) : Prop := ∀ i a, bx[i]? = some a → am_v ρ a (.int (ρ (i + 1)))
theorem am_bset {bx : List aV} {j : Nat} {lo hi : Int} (hb : am_bok ρ bx) (h1 : lo ≤ (ρ (j + 1)).toInt) (h2 : (ρ (j + 1)).toInt ≤ hi) : am_bok ρ (bx.set j (0, lo, hi, j + 1, 0)) := by
  intro i a ha
  by_cases e : j = i
  · subst e
    by_cases hl : j < bx.length
    · rw [List.getElem?_set_self hl] at ha
      cases ha
      exact .ofI rfl ⟨h1, h2, Or.inr (by show ρ (j + 1) = ρ (j + 1) + Int32.ofInt 0; rw [am_ofInt0, Int32.add_zero])⟩
    · rw [List.set_eq_of_length_le (by omega)] at ha
      exact hb _ _ ha
  · rw [List.getElem?_set_ne e] at ha
    exact hb _ _ ha
theorem am_try_ok {v : Nat} : ∀ {sp : List aSp} {F : aF} {bx : List aV}, am_try v sp F bx = true → am_Fo ρ F → am_bok ρ bx → ∃ F' bx', am_run am_n F' bx' v = true ∧ am_Fo ρ F' ∧ am_bok ρ bx'
  | [], F, bx, h, hF, hb => ⟨F, bx, h, hF, hb⟩
  | (j, cs) :: r, F, bx, h, hF, hb => by
    unfold am_try at h
    rw [Bool.or_eq_true] at h
    rcases h with h | h
    · exact ⟨F, bx, h, hF, hb⟩
    · cases hj : Nat.blt j 7
      · rw [hj] at h
        simp only [cond_false] at h
        split at h
        · next a b hab =>
          rw [Bool.and_eq_true] at h
          by_cases hc : (j - 10 = 0 ∧ ρ (a + 1) = ρ (b + 1)) ∨ (j - 10 = 1 ∧ (ρ (a + 1)).toInt < (ρ (b + 1)).toInt)
          · refine am_try_ok h.1 (fun e he => ?_) hb
            rcases List.mem_cons.mp he with rfl | he
            · dsimp only
              refine ⟨fun z => ⟨fun _ => ?_, fun _ => rfl⟩, fun z => ⟨fun _ => ?_, fun _ => rfl⟩⟩
              · rcases hc with hc | hc
                · exact hc.2
                · omega
              · rcases hc with hc | hc
                · omega
                · exact hc.2
            · exact hF e he
          · refine am_try_ok h.2 (fun e he => ?_) hb
            rcases List.mem_cons.mp he with rfl | he
            · dsimp only
              refine ⟨fun z => ⟨fun w => (by cases w), fun w => absurd (Or.inl ⟨z, w⟩) hc⟩, fun z => ⟨fun w => (by cases w), fun w => absurd (Or.inr ⟨z, w⟩) hc⟩⟩
            · exact hF e he
        · cases h
      · rw [hj] at h
        simp only [cond_true] at h
        rw [List.all_eq_true] at h
        obtain ⟨iv, h1, h2, h3⟩ := am_ivs_ok (am_hi32 (ρ (j + 1))) (cs := cs) (am_lo32 (ρ (j + 1)))
        exact am_try_ok (h iv h1) hF (am_bset hb h2 h3)
theorem am_b0_ok : am_bok ρ am_b0 := by
  intro i a ha
  have key : ∀ j : Nat, am_v ρ (0, -2147483648, 2147483647, j + 1, 0) (.int (ρ (j + 1))) := fun j => .ofI rfl ⟨am_lo32 _, am_hi32 _, Or.inr (by show ρ (j + 1) = ρ (j + 1) + Int32.ofInt 0; rw [am_ofInt0, Int32.add_zero])⟩
  match i, ha with
  | 0, ha => cases ha; exact key 0
  | 1, ha => cases ha; exact key 1
  | 2, ha => cases ha; exact key 2
  | 3, ha => cases ha; exact key 3
  | 4, ha => cases ha; exact key 4
  | 5, ha => cases ha; exact key 5
  | 6, ha => cases ha; exact key 6
  | i + 7, ha => cases ha
end AMZ
