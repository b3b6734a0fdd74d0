section AMZ
variable {ρ : Nat → Int32} {F : aF}
theorem am_veq_ok {a b : aV} {v : Value} (h : am_veq a b = true) (hv : a.1 = 9 ∨ am_v ρ a v) : b.1 = 9 ∨ am_v ρ b v := by
  unfold am_veq at h
  rw [Bool.and_eq_true, Bool.and_eq_true, Bool.and_eq_true, am_ieq_iff, am_ieq_iff] at h
  obtain ⟨h1, h2, h3, h4⟩ := h
  have h1 := am_bq h1
  have h4 := am_bq h4
  rcases hv with hv | hv
  · exact Or.inl (h1.symm.trans hv)
  · right
    rcases hv with ⟨t, x, rfl, hx⟩ | ⟨t, x, rfl, hx⟩ | ⟨t, n, rfl, hx⟩ | ⟨t, rfl⟩
    · exact .ofI (h1.symm.trans t) ⟨by rw [← h2]; exact hx.1, by rw [← h3]; exact hx.2.1, Or.inl h4⟩
    · exact .ofJ (h1.symm.trans t) ⟨by rw [← h2]; exact hx.1, by rw [← h3]; exact hx.2.1, Or.inl h4⟩
    · exact .ofR (h1.symm.trans t) (h2.symm.trans hx)
    · exact Or.inr (Or.inr (Or.inr ⟨h1.symm.trans t, rfl⟩))
theorem am_rng_ok {f : Nat → Bool} : ∀ {n : Nat}, am_rng f n = true → ∀ i, i < n → f i = true
  | 0, _, i, hi => absurd hi (Nat.not_lt_zero i)
  | n + 1, h, i, hi => by
    have h : (f n && am_rng f n) = true := h
    rw [Bool.and_eq_true] at h
    by_cases e : i = n
    · rw [e]; exact h.1
    · exact am_rng_ok h.2 i (by omega)
theorem am_reb_ok {h A : aH} {H : pmH} (hc : am_reb h A = true) (hH : am_H ρ h H) : am_H ρ A H := by
  unfold am_reb at hc
  rw [Bool.and_eq_true, List.all_eq_true] at hc
  refine ⟨hH.1.trans (am_bq hc.1), fun q x hx => ?_⟩
  have h1 := hc.2 _ (pm_look_mem hx)
  dsimp only at h1
  split at h1
  · next c hlk =>
    rw [Bool.and_eq_true, Bool.and_eq_true] at h1
    obtain ⟨a1, a2, a3⟩ := h1
    obtain ⟨y, hy, e1, e2, e3⟩ := hH.2 _ _ hlk
    refine ⟨y, hy, e1.trans (am_bq a1), e2.trans (am_bq a2), fun i hi => ?_⟩
    exact am_veq_ok (am_rng_ok a3 i hi) (e3 i (by rw [am_bq a2]; exact hi))
  · cases h1
theorem am_leq_ok : ∀ {a b : aL} {l : pmL}, am_leq a b = true → am_ls ρ a l → (∀ e ∈ b, e.2.1 ≠ 9) → am_ls ρ b l
  | [], [], _, _, h, _ => h
  | x :: r, y :: t, [], _, h, _ => h.elim
  | x :: r, y :: t, v :: l, he, h, h9 => by
    have he : (Nat.beq x.1 y.1 && (am_veq x.2 y.2 && am_leq r t)) = true := he
    rw [Bool.and_eq_true, Bool.and_eq_true] at he
    refine ⟨⟨(am_bq he.1).symm.trans h.1.1, ?_⟩, am_leq_ok he.2.2 h.2 (fun e hm => h9 e (List.mem_cons_of_mem _ hm))⟩
    rcases am_veq_ok he.2.1 (Or.inr h.1.2) with z | z
    · exact absurd z (h9 y List.mem_cons_self)
    · exact z
  | [], _ :: _, _, he, _, _ => by cases he
  | _ :: _, [], _, he, _, _ => by cases he
theorem am_Fnil : am_Fo ρ [] := fun e h => by cases h
theorem am_Ll9 : ∀ e ∈ am_Ll, e.2.1 ≠ 9 := by decide
/-- the constructors, from the law's entry to its loop -/
theorem am_start (L : Nat) (xs : Nat → Int32) : ∃ ls h, (∀ d, pm_exec (some (L, xs)) (20021 + d) am_L 0 [(0, .ref 2000)] [] [] 0 0 = pm_exec (some (L, xs)) (20011 + d) am_L 18 ls [] h am_Lc am_Lk) ∧ am_ls ρ am_Ll ls ∧ am_H ρ am_A0 h := by
  have hp := am_preT
  unfold am_prec at hp
  split at hp
  · next b ls st h c k f hr =>
    simp only [Bool.and_eq_true, Bool.not_eq_true'] at hp
    obtain ⟨p1, p2, p3, p4, p5, p6, p7⟩ := hp
    unfold am_pre at hr
    cases hk : pm_kl am_L with
    | nil => rw [hk] at hr; cases hr
    | cons e r =>
      have he : e.1 = 0 := by
        have := am_z am_L
        rw [hk] at this
        exact this
      rw [hk] at hr
      have hO := am_ok (ρ := ρ) am_Fnil 20021 none (some (L, xs)) 18 am_L e r [(0, am_ref 2000)] [] (0, []) [(0, .ref 2000)] [] [] 0 0 _ hr ⟨[], hk⟩ (fun x h => by cases h) ⟨⟨rfl, .ofR rfl rfl⟩, trivial⟩ trivial ⟨rfl, fun q x h => by cases h⟩
      rw [he] at hO
      rcases hO with ⟨hb, _⟩ | ⟨_, ls', st', h', h1, h2, h3, h4⟩
      · dsimp only at hb
        rw [p1] at hb
        cases hb
      · dsimp only at h1 h2 h3 h4
        cases st with
        | nil =>
          cases h3.n
          rw [am_bq p5, am_bq p6, am_bq p7] at h1
          exact ⟨ls', h', h1, am_leq_ok p2 h2 am_Ll9, am_reb_ok p4 h4⟩
        | cons _ _ => cases p3
  · cases hp
end AMZ
