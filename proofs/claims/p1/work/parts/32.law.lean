/-! the law's run, whole -/
def am_res1 (o : Option aR) : Bool := match o with
  | some (true, _, [a], _) => Nat.beq a.1 0 && (am_ieq a.2.1 1 && am_ieq a.2.2.1 1)
  | _ => false
def am_end0 (L : Nat) : Bool := am_res1 (am_exec [] 20011 (some (L, [])) 99999 am_L (pm_oc am_L) (pm_maxL am_L) (am_drop (pm_kl am_L) 18) am_Ll [] am_A0 am_Lc am_Lk)
def am_mid : Bool := match am_exec [] 20011 (some (7, am_b0)) 33 am_L (pm_oc am_L) (pm_maxL am_L) (am_drop (pm_kl am_L) 18) am_Ll [] am_A0 am_Lc am_Lk with
  | some (b, ls, [a], h, c, k, f) => !b && (am_leq ls am_Ll && (Nat.beq a.1 0 && (am_le 0 a.2.1 && (am_le a.2.2.1 31 && (am_reb h am_A0 && (Nat.beq c am_Lc && (Nat.beq k am_Lk && Nat.beq f am_n)))))))
  | _ => false
theorem am_end0T : ∀ L, L < 7 → am_end0 L = true := by decide +kernel
theorem am_midT : am_mid = true := by decide +kernel
theorem am_tA : ∀ v : Nat, v < 32 → am_try v (am_sp v) [] am_b0 = true := fun v hv => match v, hv with
  | 0, _ => am_t0
  | 1, _ => am_t1
  | 2, _ => am_t2
  | 3, _ => am_t3
  | 4, _ => am_t4
  | 5, _ => am_t5
  | 6, _ => am_t6
  | 7, _ => am_t7
  | 8, _ => am_t8
  | 9, _ => am_t9
  | 10, _ => am_t10
  | 11, _ => am_t11
  | 12, _ => am_t12
  | 13, _ => am_t13
  | 14, _ => am_t14
  | 15, _ => am_t15
  | 16, _ => am_t16
  | 17, _ => am_t17
  | 18, _ => am_t18
  | 19, _ => am_t19
  | 20, _ => am_t20
  | 21, _ => am_t21
  | 22, _ => am_t22
  | 23, _ => am_t23
  | 24, _ => am_t24
  | 25, _ => am_t25
  | 26, _ => am_t26
  | 27, _ => am_t27
  | 28, _ => am_t28
  | 29, _ => am_t29
  | 30, _ => am_t30
  | 31, _ => am_t31
  | n + 32, h => absurd h (by omega)
section AMY
variable {ρ : Nat → Int32} {F : aF}
theorem am_Fnil : am_Fo ρ [] := fun e h => by cases h
theorem am_run_eq (n : Nat) (F : aF) (bx : List aV) (v : Nat) : am_run n F bx v = am_res1 (am_exec F n (some (7, bx)) 99999 am_L (pm_oc am_L) (pm_maxL am_L) (am_drop (pm_kl am_L) 33) am_Ll [am_c (v : Nat)] am_A0 am_Lc am_Lk) := rfl
theorem am_from (hF : am_Fo ρ F) {n m pc stop : Nat} {AX : Option (Nat × List aV)} {X : pmX} {als : aL} {ast : List aV} {ah : aH} {c k : Nat} {res : aR} {ls : pmL} {st : List Value} {h : pmH}
    (hx : am_exec F n AX stop m (pm_oc m) (pm_maxL m) (am_drop (pm_kl m) pc) als ast ah c k = some res) (hX : am_X ρ AX X) (hl : am_ls ρ als ls) (hs : am_sk ρ ast st) (hH : am_H ρ ah h) : am_O ρ X m stop res (pm_exec X n m pc ls st h c k) := by
  cases hn : am_drop (pm_kl m) pc with
  | nil =>
    rw [hn] at hx
    cases n <;> cases hx
  | cons e r =>
    rw [hn] at hx
    obtain ⟨h1, h2⟩ := am_drop_ok hn
    have := am_ok hF n AX X stop m e r als ast ah ls st h c k res hx h2 hX hl hs hH
    rwa [h1] at this
theorem am_res1_ok {X : pmX} {m stop : Nat} {o : Option aR} {w : Option (pmH × Option Value)} (h : am_res1 o = true) (hO : ∀ res, o = some res → am_O ρ X m stop res w) : ∃ h', w = some (h', some (.int 1)) := by
  unfold am_res1 at h
  split at h
  · next a q =>
    rw [Bool.and_eq_true, Bool.and_eq_true, am_ieq_iff, am_ieq_iff] at h
    rcases hO _ rfl with ⟨_, h', r, h1, h2, h3⟩ | ⟨hf, _⟩
    · refine ⟨h', ?_⟩
      rw [h1]
      dsimp only at h3
      cases r with
      | none => exact h3.elim
      | some v =>
        obtain ⟨x, rfl, hx⟩ := h3.1.int (am_bq h.1)
        have e : x = 1 := by
          rw [← Int32.toInt_inj]
          have e1 : (1 : Int32).toInt = 1 := rfl
          have := hx.1; have := hx.2.1
          omega
        rw [e]
    · cases hf
  · cases h
theorem am_Ll9 : ∀ e ∈ am_Ll, e.2.1 ≠ 9 := by decide
theorem am_law (L : Nat) (xs : Nat → Int32) (hL : L ≤ 7) : ∃ h', pm_exec (some (L, xs)) 20021 am_L 0 [(0, .ref 2000)] [] [] 0 0 = some (h', some (.int 1)) := by
  obtain ⟨ρ, hρ⟩ : ∃ ρ : Nat → Int32, ∀ i, ρ (i + 1) = xs i := ⟨fun j => xs (j - 1), fun i => rfl⟩
  obtain ⟨ls, h, hex, hl, hH⟩ : ∃ ls h, pm_exec (some (L, xs)) 20021 am_L 0 [(0, .ref 2000)] [] [] 0 0 = pm_exec (some (L, xs)) 20011 am_L 18 ls [] h am_Lc am_Lk ∧ am_ls ρ am_Ll ls ∧ am_H ρ am_A0 h := by
    have hp := am_preT
    unfold am_prec at hp
    split at hp
    · next b ls st h c k f hr =>
      simp only [Bool.and_eq_true, Bool.not_eq_true'] at hp
      obtain ⟨p1, p2, p3, p4, p5, p6, p7⟩ := hp
      unfold am_pre at hr
      cases hk : pm_kl am_L with
      | nil => rw [hk] at hr; cases hr
      | cons e r =>
        have he : e.1 = 0 := by
          have := am_z am_L
          rw [hk] at this
          exact this
        rw [hk] at hr
        have hO := am_ok (ρ := ρ) am_Fnil 20021 none (some (L, xs)) 18 am_L e r [(0, am_ref 2000)] [] (0, []) [(0, .ref 2000)] [] [] 0 0 _ hr ⟨[], hk⟩ (fun x h => by cases h) ⟨⟨rfl, .ofR rfl rfl⟩, trivial⟩ trivial ⟨rfl, fun q x h => by cases h⟩
        rw [he] at hO
        rcases hO with ⟨hb, _⟩ | ⟨_, ls', st', h', h1, h2, h3, h4⟩
        · dsimp only at hb
          rw [p1] at hb
          cases hb
        · dsimp only at h1 h2 h3 h4
          cases st with
          | nil =>
            cases h3.n
            rw [am_bq p5, am_bq p6, am_bq p7] at h1
            exact ⟨ls', h', h1, am_leq_ok p2 h2 am_Ll9, am_reb_ok p4 h4⟩
          | cons _ _ => cases p3
    · cases hp
  rw [hex]
  by_cases h7 : L < 7
  · exact am_res1_ok (ρ := ρ) (am_end0T L h7) (fun res hr => am_from am_Fnil hr (fun x hx => by cases hx; exact ⟨xs, rfl, fun i a ha => by cases ha⟩) hl trivial hH)
  · have h7 : L = 7 := by omega
    subst h7
    have hXb : ∀ bx, am_bok ρ bx → am_X ρ (some (7, bx)) (some (7, xs)) := fun bx hb x hx => by
      cases hx
      exact ⟨xs, rfl, fun i a ha => by have := hb i a ha; rwa [hρ] at this⟩
    obtain ⟨ls2, x, h2, hex2, h0, h1, hl2, hH2⟩ : ∃ ls2 x h2, pm_exec (some (7, xs)) 20011 am_L 18 ls [] h am_Lc am_Lk = pm_exec (some (7, xs)) am_n am_L 33 ls2 [.int x] h2 am_Lc am_Lk ∧ 0 ≤ x.toInt ∧ x.toInt ≤ 31 ∧ am_ls ρ am_Ll ls2 ∧ am_H ρ am_A0 h2 := by
      have hp := am_midT
      unfold am_mid at hp
      split at hp
      · next b ls0 a h0 c k f hr =>
        simp only [Bool.and_eq_true, Bool.not_eq_true'] at hp
        obtain ⟨p1, p2, pa, pb, pc, p4, p5, p6, p7⟩ := hp
        have hO := am_from am_Fnil hr (hXb am_b0 am_b0_ok) hl (st := []) trivial hH
        rcases hO with ⟨hb, _⟩ | ⟨_, ls', st', h', h1, h2, h3, h4⟩
        · dsimp only at hb
          rw [p1] at hb
          cases hb
        · dsimp only at h1 h2 h3 h4
          obtain ⟨v, vs, rfl, s1, s2⟩ := h3.c
          cases s2.n
          obtain ⟨x, rfl, hx⟩ := s1.int (am_bq pa)
          rw [am_bq p5, am_bq p6, am_bq p7] at h1
          have := am_le_iff.mp pb
          have := am_le_iff.mp pc
          have := hx.1
          have := hx.2.1
          exact ⟨ls', x, h', h1, by omega, by omega, am_leq_ok p2 h2 am_Ll9, am_reb_ok p4 h4⟩
      · cases hp
    rw [hex2]
    obtain ⟨v, hv, e⟩ : ∃ v : Nat, v < 32 ∧ x.toInt = (v : Int) := ⟨x.toInt.toNat, by omega, by omega⟩
    obtain ⟨F', bx', g1, g2, g3⟩ := am_try_ok (ρ := ρ) (am_tA v hv) am_Fnil am_b0_ok
    rw [am_run_eq] at g1
    exact am_res1_ok g1 (fun res hr => am_from g2 hr (hXb bx' g3) hl2 ⟨.ofI rfl ⟨by show (v : Int) ≤ _; omega, by show _ ≤ (v : Int); omega, Or.inl rfl⟩, trivial⟩ hH2)
end AMY
