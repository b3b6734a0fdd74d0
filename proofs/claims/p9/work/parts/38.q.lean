/-! WHAT IS ANSWERED, and both states side by side: the tree's first part -/
section XRW
variable {X : pmX} {m pc : Nat} {ls : pmL} {r : List Value} {s : xS} {c k : Nat} {P : xS → Option Value → Prop} {a z : Int}
theorem x_rw (h : a = z) (kk : xe X m pc ls (vi z :: r) s c k P) : xe X m pc ls (vi a :: r) s c k P := by rw [h]; exact kk
theorem x_rwL (h : a = z) (kk : xe X m pc ls (vj z :: r) s c k P) : xe X m pc ls (vj a :: r) s c k P := by rw [h]; exact kk
end XRW
/-- the class's mark -/
def MkC (s s' : xS) (a z : Int) : Prop :=
  (¬ (0 ≤ a ∧ a < s 1 4) ∧ z = -1001 ∧ s' 1 4 = s 1 4 ∧ s' 2 = s 2) ∨
  ((0 ≤ a ∧ a < s 1 4) ∧ ¬ (s 2 a.toNat ≤ s 0 10 ∧ ¬ (s 3 a.toNat ≠ -1 ∧ s 3 a.toNat ≤ s 0 10)) ∧ z = -1003 ∧ s' 1 4 = s 1 4 ∧ s' 2 = s 2) ∨
  ((0 ≤ a ∧ a < s 1 4) ∧ (s 2 a.toNat ≤ s 0 10 ∧ ¬ (s 3 a.toNat ≠ -1 ∧ s 3 a.toNat ≤ s 0 10)) ∧ 40 ≤ s 1 4 ∧ z = -1004 ∧ s' 1 4 = s 1 4 ∧ s' 2 = s 2) ∨
  ((0 ≤ a ∧ a < s 1 4) ∧ (s 2 a.toNat ≤ s 0 10 ∧ ¬ (s 3 a.toNat ≠ -1 ∧ s 3 a.toNat ≤ s 0 10)) ∧ s 1 4 < 40 ∧ z = s 1 4 ∧ s' 1 4 = s 1 4 + 1 ∧ ∀ j, s' 2 j = if j = (s 1 4).toNat then s 0 10 else s 2 j)
/-- the reference's mark -/
def MkR (s s' : xS) (a z : Int) : Prop :=
  (¬ (0 ≤ a ∧ a < s 256 1) ∧ z = -1001 ∧ s' 256 1 = s 256 1 ∧ s' 257 = s 257 ∧ s' 258 = s 258) ∨
  ((0 ≤ a ∧ a < s 256 1) ∧ ¬ (s 257 a.toNat ≤ s 256 0 ∧ (s 258 a.toNat < 0 ∨ s 256 0 < s 258 a.toNat)) ∧ z = -1003 ∧ s' 256 1 = s 256 1 ∧ s' 257 = s 257 ∧ s' 258 = s 258) ∨
  ((0 ≤ a ∧ a < s 256 1) ∧ (s 257 a.toNat ≤ s 256 0 ∧ (s 258 a.toNat < 0 ∨ s 256 0 < s 258 a.toNat)) ∧ s 256 1 = 40 ∧ z = -1004 ∧ s' 256 1 = s 256 1 ∧ s' 257 = s 257 ∧ s' 258 = s 258) ∨
  ((0 ≤ a ∧ a < s 256 1) ∧ (s 257 a.toNat ≤ s 256 0 ∧ (s 258 a.toNat < 0 ∨ s 256 0 < s 258 a.toNat)) ∧ s 256 1 ≠ 40 ∧ z = s 256 1 ∧ s' 256 1 = s 256 1 + 1 ∧ (∀ j, s' 257 j = if j = (s 256 1).toNat then s 256 0 else s 257 j) ∧ (∀ j, s' 258 j = if j = (s 256 1).toNat then -1 else s 258 j))
/-- the class's end -/
def EnC (s s' : xS) (a b : Int) : Prop :=
  (¬ ((0 ≤ a ∧ a < s 1 4) ∧ (b = -1 ∨ (0 ≤ b ∧ b < s 1 4))) ∧ s' 3 = s 3) ∨
  (((0 ≤ a ∧ a < s 1 4) ∧ (b = -1 ∨ (0 ≤ b ∧ b < s 1 4))) ∧ ¬ (a ≠ 0 ∧ a ≠ b ∧ (s 2 a.toNat ≤ s 0 10 ∧ ¬ (s 3 a.toNat ≠ -1 ∧ s 3 a.toNat ≤ s 0 10)) ∧ (b = -1 ∨ (s 2 b.toNat ≤ s 0 10 ∧ ¬ (s 3 b.toNat ≠ -1 ∧ s 3 b.toNat ≤ s 0 10)))) ∧ s' 3 = s 3) ∨
  (((0 ≤ a ∧ a < s 1 4) ∧ (b = -1 ∨ (0 ≤ b ∧ b < s 1 4))) ∧ (a ≠ 0 ∧ a ≠ b ∧ (s 2 a.toNat ≤ s 0 10 ∧ ¬ (s 3 a.toNat ≠ -1 ∧ s 3 a.toNat ≤ s 0 10)) ∧ (b = -1 ∨ (s 2 b.toNat ≤ s 0 10 ∧ ¬ (s 3 b.toNat ≠ -1 ∧ s 3 b.toNat ≤ s 0 10)))) ∧ ∀ j, s' 3 j = if j = a.toNat then s 0 10 else s 3 j)
/-- the reference's end -/
def EnR (s s' : xS) (a b : Int) : Prop :=
  (¬ ((0 ≤ a ∧ a < s 256 1) ∧ (b = -1 ∨ (0 ≤ b ∧ b < s 256 1))) ∧ s' 258 = s 258) ∨
  (((0 ≤ a ∧ a < s 256 1) ∧ (b = -1 ∨ (0 ≤ b ∧ b < s 256 1))) ∧ ¬ (a ≠ 0 ∧ a ≠ b ∧ (s 257 a.toNat ≤ s 256 0 ∧ (s 258 a.toNat < 0 ∨ s 256 0 < s 258 a.toNat)) ∧ (b = -1 ∨ (s 257 b.toNat ≤ s 256 0 ∧ (s 258 b.toNat < 0 ∨ s 256 0 < s 258 b.toNat)))) ∧ s' 258 = s 258) ∨
  (((0 ≤ a ∧ a < s 256 1) ∧ (b = -1 ∨ (0 ≤ b ∧ b < s 256 1))) ∧ (a ≠ 0 ∧ a ≠ b ∧ (s 257 a.toNat ≤ s 256 0 ∧ (s 258 a.toNat < 0 ∨ s 256 0 < s 258 a.toNat)) ∧ (b = -1 ∨ (s 257 b.toNat ≤ s 256 0 ∧ (s 258 b.toNat < 0 ∨ s 256 0 < s 258 b.toNat)))) ∧ ∀ j, s' 258 j = if j = a.toNat then s 256 0 else s 258 j)
/-- both trees: editions, sizes, when told, when ended -/
def T0 (s : xS) : Prop := s 0 10 = s 256 0 ∧ s 1 4 = s 256 1 ∧ ∀ m : Int, 0 ≤ m → m ≤ 39 → (m < s 256 1 → s 2 m.toNat = s 257 m.toNat ∧ s 3 m.toNat = s 258 m.toNat) ∧ (s 256 1 ≤ m → s 3 m.toNat = -1)
def LT0 : List Nat := [11, 4097, 69, 4098, 128, 192, 4160, 4224]
theorem T0.fl {L : List Nat} {s s' : xS} (h : T0 s) (f : FL L s s') (hL : ∀ x ∈ LT0, x ∉ L) : T0 s' := by
  have a1 : s' 0 10 = s 0 10 := f 0 10 (hL 11 (by decide))
  have a2 : s' 256 0 = s 256 0 := f 256 0 (hL 4097 (by decide))
  have a3 : s' 1 4 = s 1 4 := f 1 4 (hL 69 (by decide))
  have a4 : s' 256 1 = s 256 1 := f 256 1 (hL 4098 (by decide))
  have b1 : s' 2 = s 2 := funext fun i => f 2 i (hL 128 (by decide))
  have b2 : s' 3 = s 3 := funext fun i => f 3 i (hL 192 (by decide))
  have b3 : s' 257 = s 257 := funext fun i => f 257 i (hL 4160 (by decide))
  have b4 : s' 258 = s 258 := funext fun i => f 258 i (hL 4224 (by decide))
  unfold T0; rw [a1, a2, a3, a4, b1, b2, b3, b4]; exact h
theorem T0.up {s : xS} {q i : Nat} {v : Int} (h : T0 s) (hL : x_pl q i ∉ LT0) : T0 (x_up s q i v) := h.fl FL.one (fun x hx hm => hL (by rw [← List.mem_singleton.mp hm]; exact hx))
theorem T0.ed {L1 L2 : List Nat} {s s1 s2 : xS} {z1 z2 : Int} (h : T0 s) (f1 : FL L1 s s1) (f2 : FL L2 s1 s2) (hL1 : ∀ x ∈ [4097, 69, 4098, 128, 192, 4160, 4224], x ∉ L1) (hL2 : ∀ x ∈ [11, 69, 4098, 128, 192, 4160, 4224], x ∉ L2)
    (x1 : (s 0 10 = 9 ∧ z1 = -1003 ∧ s1 0 10 = 9) ∨ (s 0 10 < 9 ∧ z1 = s 0 10 + 1 ∧ s1 0 10 = z1)) (x2 : (s1 256 0 = 9 ∧ z2 = -1003 ∧ s2 256 0 = 9) ∨ (s1 256 0 < 9 ∧ z2 = s1 256 0 + 1 ∧ s2 256 0 = z2)) : z1 = z2 ∧ T0 s2 := by
  have c2 : s1 256 0 = s 256 0 := f1 256 0 (hL1 4097 (by decide))
  have a3 : s1 1 4 = s 1 4 := f1 1 4 (hL1 69 (by decide))
  have a4 : s1 256 1 = s 256 1 := f1 256 1 (hL1 4098 (by decide))
  have b1 : s1 2 = s 2 := funext fun i => f1 2 i (hL1 128 (by decide))
  have b2 : s1 3 = s 3 := funext fun i => f1 3 i (hL1 192 (by decide))
  have b3 : s1 257 = s 257 := funext fun i => f1 257 i (hL1 4160 (by decide))
  have b4 : s1 258 = s 258 := funext fun i => f1 258 i (hL1 4224 (by decide))
  have d1 : s2 0 10 = s1 0 10 := f2 0 10 (hL2 11 (by decide))
  have d3 : s2 1 4 = s1 1 4 := f2 1 4 (hL2 69 (by decide))
  have d4 : s2 256 1 = s1 256 1 := f2 256 1 (hL2 4098 (by decide))
  have e1 : s2 2 = s1 2 := funext fun i => f2 2 i (hL2 128 (by decide))
  have e2 : s2 3 = s1 3 := funext fun i => f2 3 i (hL2 192 (by decide))
  have e3 : s2 257 = s1 257 := funext fun i => f2 257 i (hL2 4160 (by decide))
  have e4 : s2 258 = s1 258 := funext fun i => f2 258 i (hL2 4224 (by decide))
  have h0 := h.1
  refine ⟨by omega, by omega, by rw [d3, a3, d4, a4]; exact h.2.1, ?_⟩
  rw [d4, a4, e1, b1, e2, b2, e3, b3, e4, b4]
  exact h.2.2
theorem T0.mark {L1 L2 : List Nat} {s s1 s2 : xS} {a z1 z2 : Int} (h : T0 s) (hG : GI s) (f1 : FL L1 s s1) (f2 : FL L2 s1 s2) (hL1 : ∀ x ∈ [11, 4097, 4098, 192, 4160, 4224], x ∉ L1) (hL2 : ∀ x ∈ [11, 4097, 69, 128, 192], x ∉ L2) (x1 : MkC s s1 a z1) (x2 : MkR s1 s2 a z2) : z1 = z2 ∧ T0 s2 := by
  have g1 : (1 : Int) ≤ s 256 1 ∧ s 256 1 ≤ 40 := hG 256 1
  have c1 : s1 0 10 = s 0 10 := f1 0 10 (hL1 11 (by decide))
  have c2 : s1 256 0 = s 256 0 := f1 256 0 (hL1 4097 (by decide))
  have a4 : s1 256 1 = s 256 1 := f1 256 1 (hL1 4098 (by decide))
  have b2 : s1 3 = s 3 := funext fun i => f1 3 i (hL1 192 (by decide))
  have b3 : s1 257 = s 257 := funext fun i => f1 257 i (hL1 4160 (by decide))
  have b4 : s1 258 = s 258 := funext fun i => f1 258 i (hL1 4224 (by decide))
  have d1 : s2 0 10 = s1 0 10 := f2 0 10 (hL2 11 (by decide))
  have d2 : s2 256 0 = s1 256 0 := f2 256 0 (hL2 4097 (by decide))
  have d3 : s2 1 4 = s1 1 4 := f2 1 4 (hL2 69 (by decide))
  have e1 : s2 2 = s1 2 := funext fun i => f2 2 i (hL2 128 (by decide))
  have e2 : s2 3 = s1 3 := funext fun i => f2 3 i (hL2 192 (by decide))
  obtain ⟨h0, h1, h2⟩ := h
  have hk : 0 ≤ a → a < s 256 1 → s 2 a.toNat = s 257 a.toNat ∧ s 3 a.toNat = s 258 a.toNat := fun u v => (h2 a u (by omega)).1 v
  have hg : -1 ≤ s 3 a.toNat ∧ s 3 a.toNat ≤ 9 := hG 3 a.toNat
  unfold MkC at x1
  unfold MkR at x2
  rw [a4, b3, b4, c2] at x2
  rcases x1 with ⟨k1, k2, k3, k4⟩ | ⟨k1, k2, k3, k4, k5⟩ | ⟨k1, k2, k3, k4, k5, k6⟩ | ⟨k1, k2, k3, k4, k5, k6⟩ <;> rcases x2 with ⟨m1, m2, m3, m4, m5⟩ | ⟨m1, m2, m3, m4, m5, m6⟩ | ⟨m1, m2, m3, m4, m5, m6, m7⟩ | ⟨m1, m2, m3, m4, m5, m6, m7⟩
  case inl.inl => exact ⟨by omega, by omega, by omega, by rw [m3, e1, k4, e2, b2, m4, m5]; exact h2⟩
  case inr.inl.inr.inl => exact ⟨by omega, by omega, by omega, by rw [m4, e1, k5, e2, b2, m5, m6]; exact h2⟩
  case inr.inr.inl.inr.inr.inl => exact ⟨by omega, by omega, by omega, by rw [m5, e1, k6, e2, b2, m6, m7]; exact h2⟩
  case inr.inr.inr.inr.inr.inr =>
    refine ⟨by omega, by omega, by omega, fun x x0 x9 => ?_⟩
    rw [m5, e1, e2, b2, k6, m6, m7]
    by_cases e : x = s 256 1
    · rw [if_pos (by omega), if_pos (by omega), if_pos (by omega)]
      exact ⟨fun _ => ⟨h0, (h2 x x0 x9).2 (by omega)⟩, fun z => by omega⟩
    · rw [if_neg (by omega), if_neg (by omega), if_neg (by omega)]
      exact ⟨fun z => (h2 x x0 x9).1 (by omega), fun z => (h2 x x0 x9).2 (by omega)⟩
  all_goals (exfalso; omega)
theorem T0.end {L1 L2 : List Nat} {s s1 s2 : xS} {a b : Int} (h : T0 s) (hG : GI s) (f1 : FL L1 s s1) (f2 : FL L2 s1 s2) (hL1 : ∀ x ∈ [11, 4097, 69, 4098, 128, 4160, 4224], x ∉ L1) (hL2 : ∀ x ∈ [11, 4097, 69, 4098, 128, 192, 4160], x ∉ L2) (x1 : EnC s s1 a b) (x2 : EnR s1 s2 a b) : T0 s2 := by
  have g1 : (1 : Int) ≤ s 256 1 ∧ s 256 1 ≤ 40 := hG 256 1
  have c1 : s1 0 10 = s 0 10 := f1 0 10 (hL1 11 (by decide))
  have c2 : s1 256 0 = s 256 0 := f1 256 0 (hL1 4097 (by decide))
  have a3 : s1 1 4 = s 1 4 := f1 1 4 (hL1 69 (by decide))
  have a4 : s1 256 1 = s 256 1 := f1 256 1 (hL1 4098 (by decide))
  have b1 : s1 2 = s 2 := funext fun i => f1 2 i (hL1 128 (by decide))
  have b3 : s1 257 = s 257 := funext fun i => f1 257 i (hL1 4160 (by decide))
  have b4 : s1 258 = s 258 := funext fun i => f1 258 i (hL1 4224 (by decide))
  have d1 : s2 0 10 = s1 0 10 := f2 0 10 (hL2 11 (by decide))
  have d2 : s2 256 0 = s1 256 0 := f2 256 0 (hL2 4097 (by decide))
  have d3 : s2 1 4 = s1 1 4 := f2 1 4 (hL2 69 (by decide))
  have d4 : s2 256 1 = s1 256 1 := f2 256 1 (hL2 4098 (by decide))
  have e1 : s2 2 = s1 2 := funext fun i => f2 2 i (hL2 128 (by decide))
  have e2 : s2 3 = s1 3 := funext fun i => f2 3 i (hL2 192 (by decide))
  have e3 : s2 257 = s1 257 := funext fun i => f2 257 i (hL2 4160 (by decide))
  obtain ⟨h0, h1, h2⟩ := h
  have hk : ∀ a : Int, 0 ≤ a → a < s 256 1 → s 2 a.toNat = s 257 a.toNat ∧ s 3 a.toNat = s 258 a.toNat := fun a u v => (h2 a u (by omega)).1 v
  have ha := hk a
  have hb := hk b
  have hg : -1 ≤ s 3 a.toNat ∧ s 3 a.toNat ≤ 9 := hG 3 a.toNat
  have hg2 : -1 ≤ s 3 b.toNat ∧ s 3 b.toNat ≤ 9 := hG 3 b.toNat
  unfold EnC at x1
  unfold EnR at x2
  rw [a4, b3, b4, c2] at x2
  rcases x1 with ⟨k1, k2⟩ | ⟨k1, k2, k3⟩ | ⟨k1, k2, k3⟩ <;> rcases x2 with ⟨m1, m2⟩ | ⟨m1, m2, m3⟩ | ⟨m1, m2, m3⟩
  case inl.inl => exact ⟨by omega, by omega, by rw [d4, a4, e1, b1, e2, k2, e3, b3, m2]; exact h2⟩
  case inr.inl.inr.inl => exact ⟨by omega, by omega, by rw [d4, a4, e1, b1, e2, k3, e3, b3, m3]; exact h2⟩
  case inr.inr.inr.inr =>
    refine ⟨by omega, by omega, fun x x0 x9 => ?_⟩
    rw [d4, a4, e1, b1, e2, k3, e3, b3, m3]
    by_cases e : x = a
    · rw [if_pos (by omega), if_pos (by omega)]
      exact ⟨fun z => ⟨((h2 x x0 x9).1 z).1, h0⟩, fun z => by omega⟩
    · rw [if_neg (by omega), if_neg (by omega)]
      exact h2 x x0 x9
  all_goals (exfalso; omega)
