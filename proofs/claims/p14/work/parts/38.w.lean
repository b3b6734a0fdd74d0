/-! both trees: parents are tied again behind mark, move, edition -/
def MkP (s s' : xS) (a z : Int) : Prop := (z < 0 → ∀ r j : Nat, 6 ≤ r → r ≤ 45 → s' r j = s r j) ∧ (0 ≤ z → ∀ r j : Nat, 6 ≤ r → r ≤ 45 → s' r j = if r = 5 + 1 + z.toNat ∧ s 0 10 ≤ (j : Int) ∧ (j : Int) < 10 then a else s r j)
def MkQ (s s' : xS) (a z : Int) : Prop := (z < 0 → s' 260 = s 260) ∧ (0 ≤ z → ∀ j : Nat, s' 260 j = if 10 * z + s 256 0 ≤ (j : Int) ∧ (j : Int) < 10 * z + 10 then a else s 260 j)
/-- the class's move -/
def MvC (s s' : xS) (a b z : Int) : Prop :=
  (¬ ((0 ≤ a ∧ a < s 1 4) ∧ (0 ≤ b ∧ b < s 1 4)) ∧ z = -1001 ∧ ∀ r j : Nat, 6 ≤ r → r ≤ 45 → s' r j = s r j) ∨
  (((0 ≤ a ∧ a < s 1 4) ∧ (0 ≤ b ∧ b < s 1 4)) ∧ ¬ ((a ≠ 0 ∧ (s 2 a.toNat ≤ s 0 10 ∧ ¬ (s 3 a.toNat ≠ -1 ∧ s 3 a.toNat ≤ s 0 10)) ∧ (s 2 b.toNat ≤ s 0 10 ∧ ¬ (s 3 b.toNat ≠ -1 ∧ s 3 b.toNat ≤ s 0 10))) ∧ ¬ onp s (s 0 10) 40 b a) ∧ z = -1003 ∧ ∀ r j : Nat, 6 ≤ r → r ≤ 45 → s' r j = s r j) ∨
  (((0 ≤ a ∧ a < s 1 4) ∧ (0 ≤ b ∧ b < s 1 4)) ∧ ((a ≠ 0 ∧ (s 2 a.toNat ≤ s 0 10 ∧ ¬ (s 3 a.toNat ≠ -1 ∧ s 3 a.toNat ≤ s 0 10)) ∧ (s 2 b.toNat ≤ s 0 10 ∧ ¬ (s 3 b.toNat ≠ -1 ∧ s 3 b.toNat ≤ s 0 10))) ∧ ¬ onp s (s 0 10) 40 b a) ∧ z = s (5 + 1 + a.toNat) (s 0 10).toNat ∧ ∀ r j : Nat, 6 ≤ r → r ≤ 45 → s' r j = if r = 5 + 1 + a.toNat ∧ s 0 10 ≤ (j : Int) ∧ (j : Int) < 10 then b else s r j)
/-- the reference's move -/
def MvR (s s' : xS) (a b z : Int) : Prop :=
  (¬ ((0 ≤ a ∧ a < s 256 1) ∧ (0 ≤ b ∧ b < s 256 1)) ∧ z = -1001 ∧ s' 260 = s 260) ∨
  (((0 ≤ a ∧ a < s 256 1) ∧ (0 ≤ b ∧ b < s 256 1)) ∧ ¬ ((a ≠ 0 ∧ (s 257 a.toNat ≤ s 256 0 ∧ (s 258 a.toNat < 0 ∨ s 256 0 < s 258 a.toNat)) ∧ (s 257 b.toNat ≤ s 256 0 ∧ (s 258 b.toNat < 0 ∨ s 256 0 < s 258 b.toNat))) ∧ ¬ ∃ k, xup s (s 256 0) k b = a) ∧ z = -1003 ∧ s' 260 = s 260) ∨
  (((0 ≤ a ∧ a < s 256 1) ∧ (0 ≤ b ∧ b < s 256 1)) ∧ ((a ≠ 0 ∧ (s 257 a.toNat ≤ s 256 0 ∧ (s 258 a.toNat < 0 ∨ s 256 0 < s 258 a.toNat)) ∧ (s 257 b.toNat ≤ s 256 0 ∧ (s 258 b.toNat < 0 ∨ s 256 0 < s 258 b.toNat))) ∧ ¬ ∃ k, xup s (s 256 0) k b = a) ∧ z = s 260 (10 * a + s 256 0).toNat ∧ ∀ j : Nat, s' 260 j = if 10 * a + s 256 0 ≤ (j : Int) ∧ (j : Int) < 10 * a + 10 then b else s 260 j)
theorem P1.ed {L1 L2 : List Nat} {s s1 s2 : xS} {z2 : Int} (h : P1 s) (hG : GI s) (f1 : FL L1 s s1) (f2 : FL L2 s1 s2) (hL1 : ∀ x ∈ [4097, 4098, 4160, 384, 4352], x ∉ L1) (hL2 : ∀ x ∈ [4098, 4160, 384, 4352], x ∉ L2)
    (x2 : (s1 256 0 = 9 ∧ z2 = -1003 ∧ s2 256 0 = 9) ∨ (s1 256 0 < 9 ∧ z2 = s1 256 0 + 1 ∧ s2 256 0 = z2)) : P1 s2 := by
  have g1 : (1 : Int) ≤ s 256 1 ∧ s 256 1 ≤ 40 := hG 256 1
  have a1 : s1 256 1 = s 256 1 := f1 256 1 (hL1 4098 (by decide))
  have a2 : s1 256 0 = s 256 0 := f1 256 0 (hL1 4097 (by decide))
  have b1 : s1 257 = s 257 := funext fun i => f1 257 i (hL1 4160 (by decide))
  have b2 : s1 260 = s 260 := funext fun i => f1 260 i (hL1 4352 (by decide))
  have b3 := rows40 f1 (hL1 384 (by decide))
  have c1 : s2 256 1 = s1 256 1 := f2 256 1 (hL2 4098 (by decide))
  have d1 : s2 257 = s1 257 := funext fun i => f2 257 i (hL2 4160 (by decide))
  have d2 : s2 260 = s1 260 := funext fun i => f2 260 i (hL2 4352 (by decide))
  have d3 := rows40 f2 (hL2 384 (by decide))
  intro m m0 m1
  rw [c1, a1] at m1
  have hm := h m m0 m1
  rw [d1, b1, d2, b2]
  refine ⟨by have := hm.1; omega, fun e e0 e1 e2 => ?_⟩
  rw [d3 (5 + 1 + m.toNat) e.toNat (by omega) (by omega), b3 (5 + 1 + m.toNat) e.toNat (by omega) (by omega)]
  exact hm.2 e e0 e1 e2
theorem P1.mark {L1 L2 : List Nat} {s s1 s2 : xS} {a z z' : Int} (h : P1 s) (t : T0 s) (hG : GI s) (f1 : FL L1 s s1) (f2 : FL L2 s1 s2) (hL1 : ∀ x ∈ [11, 4097, 4098, 4160, 4352], x ∉ L1) (hL2 : ∀ x ∈ [11, 4097, 384], x ∉ L2) (hz : z = z') (x1 : MkP s s1 a z) (x2 : MkR s1 s2 a z') (x3 : MkQ s1 s2 a z') : P1 s2 := by
  subst hz
  have g1 : (1 : Int) ≤ s 256 1 ∧ s 256 1 ≤ 40 := hG 256 1
  have g0 : (0 : Int) ≤ s 256 0 ∧ s 256 0 ≤ 9 := hG 256 0
  have a1 : s1 256 1 = s 256 1 := f1 256 1 (hL1 4098 (by decide))
  have a2 : s1 256 0 = s 256 0 := f1 256 0 (hL1 4097 (by decide))
  have b1 : s1 257 = s 257 := funext fun i => f1 257 i (hL1 4160 (by decide))
  have b2 : s1 260 = s 260 := funext fun i => f1 260 i (hL1 4352 (by decide))
  have c2 : s2 256 0 = s1 256 0 := f2 256 0 (hL2 4097 (by decide))
  have d3 := rows40 f2 (hL2 384 (by decide))
  have h0 := t.1
  unfold MkR at x2
  rw [a1, a2, b1] at x2
  have neg : z < 0 → s2 256 1 = s 256 1 → s2 257 = s 257 → P1 s2 := by
    intro zn e1 e2 m m0 m1
    rw [e1] at m1
    have hm := h m m0 m1
    rw [e2, c2, a2, x3.1 zn, b2]
    refine ⟨hm.1, fun e e0 e1 e2 => ?_⟩
    rw [d3 (5 + 1 + m.toNat) e.toNat (by omega) (by omega), x1.1 zn (5 + 1 + m.toNat) e.toNat (by omega) (by omega)]
    exact hm.2 e e0 e1 e2
  rcases x2 with ⟨k1, k2, k3, k4, k5⟩ | ⟨k1, k2, k3, k4, k5, k6⟩ | ⟨k1, k2, k3, k4, k5, k6, k7⟩ | ⟨k1, k2, k3, k4, k5, k6, k7⟩
  · exact neg (by omega) k3 k4
  · exact neg (by omega) k4 k5
  · exact neg (by omega) k5 k6
  · intro m m0 m1
    have hq := x3.2 (by omega)
    have hr := x1.2 (by omega)
    rw [k5] at m1
    rw [k6, c2, a2]
    by_cases e : m = s 256 1
    · rw [if_pos (by omega)]
      refine ⟨Int.le_refl _, fun e' e0 e1 e2 => ?_⟩
      rw [d3 (5 + 1 + m.toNat) e'.toNat (by omega) (by omega), hr (5 + 1 + m.toNat) e'.toNat (by omega) (by omega), hq, if_pos ⟨by omega, by omega, by omega⟩, if_pos ⟨by omega, by omega⟩]
    · rw [if_neg (by omega)]
      have hm := h m m0 (by omega)
      refine ⟨hm.1, fun e' e0 e1 e2 => ?_⟩
      rw [d3 (5 + 1 + m.toNat) e'.toNat (by omega) (by omega), hr (5 + 1 + m.toNat) e'.toNat (by omega) (by omega), hq, if_neg (fun w => e (by omega)), if_neg (fun w => e (by omega)), b2]
      exact hm.2 e' e0 e1 e2
theorem P1.way {s : xS} (h : P1 s) (t : T0 s) (hJ : J s) (hG : GI s) {a b : Int} (ha : 0 ≤ a) (hb : 0 ≤ b ∧ b < s 256 1) : onp s (s 0 10) 40 b a ↔ ∃ k, xup s (s 256 0) k b = a := by
  have g0 : (0 : Int) ≤ s 256 0 ∧ s 256 0 ≤ 9 := hG 256 0
  rw [t.1]
  exact onp_xup hJ hG t.2.1 g0 (fun m m0 m1 => (h m m0 m1).2 (s 256 0) (h m m0 m1).1 g0.1 g0.2) hb ha
theorem P1.move {L1 L2 : List Nat} {s s1 s2 : xS} {a b z1 z2 : Int} (h : P1 s) (t : T0 s) (hJ : J s) (hG : GI s) (f1 : FL L1 s s1) (f2 : FL L2 s1 s2) (hL1 : ∀ x ∈ [11, 4097, 4098, 4160, 4224, 4352], x ∉ L1) (hL2 : ∀ x ∈ [4097, 4098, 4160, 384], x ∉ L2) (x1 : MvC s s1 a b z1) (x2 : MvR s1 s2 a b z2) : z1 = z2 ∧ P1 s2 := by
  have g1 : (1 : Int) ≤ s 256 1 ∧ s 256 1 ≤ 40 := hG 256 1
  have g0 : (0 : Int) ≤ s 256 0 ∧ s 256 0 ≤ 9 := hG 256 0
  have a1 : s1 256 1 = s 256 1 := f1 256 1 (hL1 4098 (by decide))
  have a2 : s1 256 0 = s 256 0 := f1 256 0 (hL1 4097 (by decide))
  have b1 : s1 257 = s 257 := funext fun i => f1 257 i (hL1 4160 (by decide))
  have b0 : s1 258 = s 258 := funext fun i => f1 258 i (hL1 4224 (by decide))
  have b2 : s1 260 = s 260 := funext fun i => f1 260 i (hL1 4352 (by decide))
  have c1 : s2 256 1 = s1 256 1 := f2 256 1 (hL2 4098 (by decide))
  have c2 : s2 256 0 = s1 256 0 := f2 256 0 (hL2 4097 (by decide))
  have d1 : s2 257 = s1 257 := funext fun i => f2 257 i (hL2 4160 (by decide))
  have d3 := rows40 f2 (hL2 384 (by decide))
  have xe : ∀ k, xup s1 (s 256 0) k b = xup s (s 256 0) k b := fun k => xup_eq b2 k b
  have h0 := t.1
  have h1 := t.2.1
  have hk : ∀ a : Int, 0 ≤ a → a < s 256 1 → s 2 a.toNat = s 257 a.toNat ∧ s 3 a.toNat = s 258 a.toNat := fun a u v => (t.2.2 a u (by omega)).1 v
  have ha := hk a
  have hb := hk b
  have hg : -1 ≤ s 3 a.toNat ∧ s 3 a.toNat ≤ 9 := hG 3 a.toNat
  have hg2 : -1 ≤ s 3 b.toNat ∧ s 3 b.toNat ≤ 9 := hG 3 b.toNat
  unfold MvC at x1
  unfold MvR at x2
  rw [a1, a2, b1, b0, b2] at x2
  simp only [xe] at x2
  have same : s2 260 = s 260 → (∀ r j : Nat, 6 ≤ r → r ≤ 45 → s1 r j = s r j) → P1 s2 := by
    intro e1 e2 m m0 m1
    rw [c1, a1] at m1
    have hm := h m m0 m1
    rw [d1, b1, c2, a2, e1]
    refine ⟨hm.1, fun e e0 e1 e3 => ?_⟩
    rw [d3 (5 + 1 + m.toNat) e.toNat (by omega) (by omega), e2 (5 + 1 + m.toNat) e.toNat (by omega) (by omega)]
    exact hm.2 e e0 e1 e3
  rcases x1 with ⟨k1, k2, k3⟩ | ⟨k1, k2, k3, k4⟩ | ⟨k1, k2, k3, k4⟩ <;> rcases x2 with ⟨m1, m2, m3⟩ | ⟨m1, m2, m3, m4⟩ | ⟨m1, m2, m3, m4⟩
  case inl.inl => exact ⟨by omega, same m3 k3⟩
  case inr.inl.inr.inl => exact ⟨by omega, same m4 k4⟩
  case inr.inl.inr.inr =>
    exfalso
    have m2' := m2.1
    have hA : a ≠ 0 ∧ (s 2 a.toNat ≤ s 0 10 ∧ ¬ (s 3 a.toNat ≠ -1 ∧ s 3 a.toNat ≤ s 0 10)) ∧ (s 2 b.toNat ≤ s 0 10 ∧ ¬ (s 3 b.toNat ≠ -1 ∧ s 3 b.toNat ≤ s 0 10)) := by clear m2 k2; omega
    exact k2 ⟨hA, fun w => m2.2 ((h.way t hJ hG k1.1.1 m1.2).mp w)⟩
  case inr.inr.inr.inl =>
    exfalso
    have k2' := k2.1
    have hA : a ≠ 0 ∧ (s 257 a.toNat ≤ s 256 0 ∧ (s 258 a.toNat < 0 ∨ s 256 0 < s 258 a.toNat)) ∧ (s 257 b.toNat ≤ s 256 0 ∧ (s 258 b.toNat < 0 ∨ s 256 0 < s 258 b.toNat)) := by clear m2; omega
    exact m2 ⟨hA, fun w => k2.2 ((h.way t hJ hG k1.1.1 m1.2).mpr w)⟩
  case inr.inr.inr.inr =>
    refine ⟨?_, fun m m0 mm => ?_⟩
    · rw [k3, m3, h0]
      exact (h a (by omega) (by omega)).2 (s 256 0) (h a (by omega) (by omega)).1 g0.1 g0.2
    · rw [c1, a1] at mm
      have hm := h m m0 mm
      rw [d1, b1, c2, a2]
      refine ⟨hm.1, fun e e0 e1 e2 => ?_⟩
      rw [d3 (5 + 1 + m.toNat) e.toNat (by omega) (by omega), k4 (5 + 1 + m.toNat) e.toNat (by omega) (by omega), m4]
      by_cases ew : m = a ∧ s 256 0 ≤ e
      · rw [if_pos ⟨by omega, by omega, by omega⟩, if_pos ⟨by omega, by omega⟩]
      · rw [if_neg (fun w => ew ⟨by omega, by omega⟩), if_neg (fun w => ew ⟨by omega, by omega⟩)]
        exact hm.2 e e0 e1 e2
  all_goals (exfalso; omega)
