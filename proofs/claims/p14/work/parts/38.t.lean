/-! the way up, of both -/
theorem pigeon : ∀ (n : Nat) (f : Nat → Nat), (∀ i, i ≤ n → f i < n) → ∃ i j, i < j ∧ j ≤ n ∧ f i = f j := by
  intro n
  induction n with
  | zero => intro f h; exact absurd (h 0 (Nat.le_refl 0)) (Nat.not_lt_zero _)
  | succ n ih =>
    intro f h
    by_cases hv : ∃ i, i ≤ n ∧ f i = f (n + 1)
    · obtain ⟨i, h1, h2⟩ := hv
      exact ⟨i, n + 1, by omega, Nat.le_refl _, h2⟩
    · have hn : ∀ i, i ≤ n → f i ≠ f (n + 1) := fun i hi e => hv ⟨i, hi, e⟩
      obtain ⟨i, j, h1, h2, h3⟩ := ih (fun i => if f i < f (n + 1) then f i else f i - 1) (fun i hi => by
        have a1 := h i (by omega)
        have a2 := hn i hi
        have a3 := h (n + 1) (Nat.le_refl _)
        show (if f i < f (n + 1) then f i else f i - 1) < n
        split <;> omega)
      have a1 := hn i (by omega)
      have a2 := hn j h2
      refine ⟨i, j, h1, by omega, ?_⟩
      have h3 : (if f i < f (n + 1) then f i else f i - 1) = (if f j < f (n + 1) then f j else f j - 1) := h3
      split at h3 <;> split at h3 <;> omega
/-- the class's parent -/
def parC (s : xS) (e x : Int) : Int := if (0 ≤ x ∧ x < s 1 4) ∧ 0 ≤ e ∧ e ≤ 9 then s (5 + 1 + x.toNat) e.toNat else -1
/-- k lies on the class's way up from x, within n steps -/
def onp (s : xS) (e : Int) : Nat → Int → Int → Prop
  | 0, _, _ => False
  | n + 1, x, k => (0 ≤ x ∧ x < s 1 4) ∧ (x = k ∨ onp s e n (parC s e x) k)
theorem onp_step {s : xS} {e set set' sh x a : Int} {n : Nat} (hx : 0 ≤ x ∧ x < s 1 4) (h : ∀ k : Nat, k < 64 → ((bt set k = true ∨ onp s e (n + 1) x k) ↔ onp s e 40 a k)) (h1 : ∀ k : Nat, k < 64 → bt sh k = decide (k = x.toNat)) (h2 : ∀ k, bt set' k = (bt set k || bt sh k)) :
    ∀ k : Nat, k < 64 → ((bt set' k = true ∨ onp s e n (parC s e x) k) ↔ onp s e 40 a k) := by
  intro k hk
  rw [← h k hk, h2 k, h1 k hk, Bool.or_eq_true, decide_eq_true_eq]
  constructor
  · rintro ((q | q) | q)
    · exact Or.inl q
    · exact Or.inr (show (0 ≤ x ∧ x < s 1 4) ∧ (x = (k : Int) ∨ onp s e n (parC s e x) k) from ⟨hx, Or.inl (by omega)⟩)
    · exact Or.inr (show (0 ≤ x ∧ x < s 1 4) ∧ (x = (k : Int) ∨ onp s e n (parC s e x) k) from ⟨hx, Or.inr q⟩)
  · rintro (q | q)
    · exact Or.inl (Or.inl q)
    · have q : (0 ≤ x ∧ x < s 1 4) ∧ (x = (k : Int) ∨ onp s e n (parC s e x) k) := q
      rcases q.2 with q | q
      · exact Or.inl (Or.inr (by omega))
      · exact Or.inr q
theorem onp_out {s : xS} {e x : Int} (hx : ¬ (0 ≤ x ∧ x < s 1 4)) (n : Nat) (k : Int) : ¬ onp s e n x k := by
  cases n with
  | zero => exact id
  | succ n =>
    intro h
    have h : (0 ≤ x ∧ x < s 1 4) ∧ (x = k ∨ onp s e n (parC s e x) k) := h
    exact hx h.1
theorem onp_mono {s : xS} {e : Int} {k : Int} : ∀ {n m : Nat} {x : Int}, n ≤ m → onp s e n x k → onp s e m x k := by
  intro n
  induction n with
  | zero => intro m x _ h; exact h.elim
  | succ n ih =>
    intro m x hm h
    obtain ⟨m', rfl⟩ : ∃ m', m = m' + 1 := ⟨m - 1, by omega⟩
    have h : (0 ≤ x ∧ x < s 1 4) ∧ (x = k ∨ onp s e n (parC s e x) k) := h
    show (0 ≤ x ∧ x < s 1 4) ∧ (x = k ∨ onp s e m' (parC s e x) k)
    exact ⟨h.1, h.2.imp id (fun q => ih (by omega) q)⟩
theorem xup_tail {s : xS} {e : Int} : ∀ (k : Nat) (x : Int), 0 ≤ xup s e k x → xup s e (k + 1) x = s 260 (10 * xup s e k x + e).toNat := by
  intro k
  induction k with
  | zero =>
    intro x h
    have h : 0 ≤ x := h
    show (if x < 0 then x else xup s e 0 (s 260 (10 * x + e).toNat)) = s 260 (10 * x + e).toNat
    rw [if_neg (by omega)]
    rfl
  | succ k ih =>
    intro x h
    have e1 : xup s e (k + 1 + 1) x = if x < 0 then x else xup s e (k + 1) (s 260 (10 * x + e).toNat) := rfl
    have e2 : xup s e (k + 1) x = if x < 0 then x else xup s e k (s 260 (10 * x + e).toNat) := rfl
    by_cases hz : x < 0
    · rw [e2, if_pos hz] at h; omega
    · rw [e2, if_neg hz] at h
      rw [e1, if_neg hz, e2, if_neg hz]
      exact ih _ h
theorem xup_nn {s : xS} {e : Int} (x : Int) : ∀ (j i : Nat), i ≤ j → 0 ≤ xup s e j x → 0 ≤ xup s e i x := by
  intro j
  induction j generalizing x with
  | zero => intro i hi h; rw [show i = 0 by omega]; exact h
  | succ j ih =>
    intro i hi h
    have e2 : xup s e (j + 1) x = if x < 0 then x else xup s e j (s 260 (10 * x + e).toNat) := rfl
    by_cases hz : x < 0
    · rw [e2, if_pos hz] at h; omega
    · cases i with
      | zero => show 0 ≤ x; omega
      | succ i =>
        rw [e2, if_neg hz] at h
        show 0 ≤ (if x < 0 then x else xup s e i (s 260 (10 * x + e).toNat))
        rw [if_neg hz]
        exact ih _ i (by omega) h
/-- the way up has no mark twice, so it has at most 40 -/
theorem xup_short {s : xS} (h2 : JP2 s) {rk : Int → Int → Nat} (h1 : JP1 s rk) (h40 : s 256 1 ≤ 40) {e : Int} (he : 0 ≤ e ∧ e ≤ 9) {x : Int} (hx : x < s 256 1) {j : Nat} (hj : 40 ≤ j) : xup s e j x < 0 := by
  by_cases hn : xup s e j x < 0
  · exact hn
  · exfalso
    have hnn : ∀ i, i ≤ 40 → 0 ≤ xup s e i x := fun i hi => xup_nn x j i (by omega) (by omega)
    have hlt : ∀ i, i ≤ 40 → xup s e i x < s 256 1 := fun i hi => xup_lt h2 he i x hx (by omega) h40
    obtain ⟨i, i', g1, g2, g3⟩ := pigeon 40 (fun i => (xup s e i x).toNat) (fun i hi => by
      have := hnn i hi; have := hlt i hi
      show (xup s e i x).toNat < 40
      omega)
    have hrk : ∀ d, i + d + 1 ≤ 40 → rk e (xup s e (i + d + 1) x) < rk e (xup s e i x) := by
      intro d
      induction d with
      | zero =>
        intro hd
        have a0 := hnn i (by omega)
        have a1 := hnn (i + 1) (by omega)
        have a2 := hlt i (by omega)
        rw [show i + 0 + 1 = i + 1 by omega, xup_tail i x a0]
        rw [xup_tail i x a0] at a1
        obtain ⟨p1, p2⟩ := h1 (xup s e i x) e a0 (by omega) he.1 he.2
        by_cases hz : xup s e i x = 0
        · have := p1 hz; omega
        · exact (p2 hz).2
      | succ d ih =>
        intro hd
        have := ih (by omega)
        have a0 := hnn (i + d + 1) (by omega)
        have a1 := hnn (i + d + 1 + 1) (by omega)
        have a2 := hlt (i + d + 1) (by omega)
        rw [show i + (d + 1) + 1 = i + d + 1 + 1 by omega, xup_tail (i + d + 1) x a0]
        rw [xup_tail (i + d + 1) x a0] at a1
        obtain ⟨p1, p2⟩ := h1 (xup s e (i + d + 1) x) e a0 (by omega) he.1 he.2
        by_cases hz : xup s e (i + d + 1) x = 0
        · have := p1 hz; omega
        · have := (p2 hz).2; omega
    have := hrk (i' - i - 1) (by omega)
    rw [show i + (i' - i - 1) + 1 = i' by omega] at this
    have e1 : xup s e i x = xup s e i' x := by
      have := hnn i (by omega); have := hnn i' (by omega)
      have g3 : (xup s e i x).toNat = (xup s e i' x).toNat := g3
      omega
    rw [e1] at this
    omega
/-- where both have the same parents, both ways up are the same -/
theorem onp_xup {s : xS} (hJ : J s) (hG : GI s) (hs : s 1 4 = s 256 1) {e : Int} (he : 0 ≤ e ∧ e ≤ 9) (hp : ∀ m : Int, 0 ≤ m → m < s 256 1 → s (5 + 1 + m.toNat) e.toNat = s 260 (10 * m + e).toNat) {a k : Int} (ha : 0 ≤ a ∧ a < s 256 1) (hk : 0 ≤ k) : onp s e 40 a k ↔ ∃ j, xup s e j a = k := by
  have g1 : (1 : Int) ≤ s 256 1 ∧ s 256 1 ≤ 40 := hG 256 1
  obtain ⟨-, ⟨rk, h1⟩, h2, -⟩ := hJ
  have hpar : ∀ x : Int, 0 ≤ x → x < s 256 1 → parC s e x = s 260 (10 * x + e).toNat := fun x x0 x1 => by unfold parC; rw [if_pos ⟨⟨x0, by omega⟩, he⟩]; exact hp x x0 x1
  constructor
  · have key : ∀ n x, onp s e n x k → ∃ j, xup s e j x = k := by
      intro n
      induction n with
      | zero => intro x h; exact h.elim
      | succ n ih =>
        intro x h
        have h : (0 ≤ x ∧ x < s 1 4) ∧ (x = k ∨ onp s e n (parC s e x) k) := h
        rcases h.2 with q | q
        · exact ⟨0, q⟩
        · rw [hpar x h.1.1 (by omega)] at q
          obtain ⟨j, hj⟩ := ih _ q
          refine ⟨j + 1, ?_⟩
          show (if x < 0 then x else xup s e j (s 260 (10 * x + e).toNat)) = k
          rw [if_neg (by omega)]
          exact hj
    exact key 40 a
  · rintro ⟨j, hj⟩
    have hj40 : j < 40 := by
      by_cases h : j < 40
      · exact h
      · have := xup_short h2 h1 g1.2 he ha.2 (j := j) (by omega)
        omega
    have key : ∀ n x, 0 ≤ x → x < s 256 1 → xup s e n x = k → onp s e (n + 1) x k := by
      intro n
      induction n with
      | zero => intro x x0 x1 h; exact (show (0 ≤ x ∧ x < s 1 4) ∧ (x = k ∨ onp s e 0 (parC s e x) k) from ⟨⟨x0, by omega⟩, Or.inl h⟩)
      | succ n ih =>
        intro x x0 x1 h
        have h : (if x < 0 then x else xup s e n (s 260 (10 * x + e).toNat)) = k := h
        rw [if_neg (by omega)] at h
        have hq := (h2 x e x0 (by omega) he.1 he.2).1
        have hq0 : 0 ≤ s 260 (10 * x + e).toNat := xup_nn (s := s) (e := e) _ n 0 (by omega) (by omega)
        refine (show (0 ≤ x ∧ x < s 1 4) ∧ (x = k ∨ onp s e (n + 1) (parC s e x) k) from ⟨⟨x0, by omega⟩, Or.inr ?_⟩)
        rw [hpar x x0 x1]
        exact ih _ hq0 hq h
    exact onp_mono (by omega) (key j a ha.1 ha.2 hj)
