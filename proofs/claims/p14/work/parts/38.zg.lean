/-! both trees, all of them: TR -/
theorem T0.th {s : xS} (h : T0 s) (hG : GI s) (e m : Int) : thC s e m ↔ ((0 ≤ m ∧ m < s 256 1) ∧ s 257 m.toNat ≤ e ∧ (s 258 m.toNat < 0 ∨ e < s 258 m.toNat)) := by
  have g1 : (1 : Int) ≤ s 256 1 ∧ s 256 1 ≤ 40 := hG 256 1
  have g3 : (-1 : Int) ≤ s 3 m.toNat ∧ s 3 m.toNat ≤ 9 := hG 3 m.toNat
  have h1 := h.2.1
  unfold thC
  by_cases q : 0 ≤ m ∧ m < s 256 1
  · have := (h.2.2 m q.1 (by omega)).1 q.2
    omega
  · omega
theorem T0.en {s : xS} (h : T0 s) (hG : GI s) (e m : Int) : enC s e m ↔ ((0 ≤ m ∧ m < s 256 1) ∧ 0 ≤ s 258 m.toNat ∧ s 258 m.toNat ≤ e) := by
  have g1 : (1 : Int) ≤ s 256 1 ∧ s 256 1 ≤ 40 := hG 256 1
  have g3 : (-1 : Int) ≤ s 3 m.toNat ∧ s 3 m.toNat ≤ 9 := hG 3 m.toNat
  have h1 := h.2.1
  unfold enC
  by_cases q : 0 ≤ m ∧ m < s 256 1
  · have := (h.2.2 m q.1 (by omega)).1 q.2
    omega
  · omega
/-- joins of both -/
def JT (s : xS) : Prop := ∀ m : Int, 0 ≤ m → m ≤ 39 → (s 1 4 ≤ m → s 4 m.toNat = -1) ∧ (m < s 1 4 → s 4 m.toNat = s 259 m.toNat ∧ (0 ≤ s 4 m.toNat → s 4 m.toNat < s 1 4 ∧ 0 ≤ s 3 m.toNat ∧ s 2 (s 4 m.toNat).toNat ≤ s 3 m.toNat))
def LJT : List Nat := [69, 128, 192, 256, 4288]
theorem JT.fl {L : List Nat} {s s' : xS} (h : JT s) (f : FL L s s') (hL : ∀ x ∈ LJT, x ∉ L) : JT s' := by
  have a1 : s' 1 4 = s 1 4 := f 1 4 (hL 69 (by decide))
  have a2 : s' 2 = s 2 := funext fun i => f 2 i (hL 128 (by decide))
  have a3 : s' 3 = s 3 := funext fun i => f 3 i (hL 192 (by decide))
  have a4 : s' 4 = s 4 := funext fun i => f 4 i (hL 256 (by decide))
  have a5 : s' 259 = s 259 := funext fun i => f 259 i (hL 4288 (by decide))
  unfold JT; rw [a1, a2, a3, a4, a5]; exact h
/-- joins behind the reference's mark -/
def MkJ (s s' : xS) (z : Int) : Prop := (z < 0 → s' 259 = s 259) ∧ (0 ≤ z → ∀ j : Nat, s' 259 j = if j = z.toNat then -1 else s 259 j)
theorem JT.mark {L1 L2 : List Nat} {s s1 s2 : xS} {a z : Int} (h : JT s) (hG : GI s) (f1 : FL L1 s s1) (f2 : FL L2 s1 s2) (hL1 : ∀ x ∈ [192, 256, 4288], x ∉ L1) (hL2 : ∀ x ∈ [69, 128, 192, 256], x ∉ L2) (x1 : MkC s s1 a z) (x3 : MkJ s1 s2 z) : JT s2 := by
  have g1 : (1 : Int) ≤ s 1 4 ∧ s 1 4 ≤ 40 := hG 1 4
  have b3 : s1 3 = s 3 := funext fun i => f1 3 i (hL1 192 (by decide))
  have b4 : s1 4 = s 4 := funext fun i => f1 4 i (hL1 256 (by decide))
  have b5 : s1 259 = s 259 := funext fun i => f1 259 i (hL1 4288 (by decide))
  have c1 : s2 1 4 = s1 1 4 := f2 1 4 (hL2 69 (by decide))
  have c2 : s2 2 = s1 2 := funext fun i => f2 2 i (hL2 128 (by decide))
  have c3 : s2 3 = s1 3 := funext fun i => f2 3 i (hL2 192 (by decide))
  have c4 : s2 4 = s1 4 := funext fun i => f2 4 i (hL2 256 (by decide))
  have neg : z < 0 → s1 1 4 = s 1 4 → s1 2 = s 2 → JT s2 := by
    intro zn e1 e2
    unfold JT
    rw [c1, c2, c3, c4, e1, e2, b3, b4, x3.1 zn, b5]
    exact h
  unfold MkC at x1
  rcases x1 with ⟨k1, k2, k3, k4⟩ | ⟨k1, k2, k3, k4, k5⟩ | ⟨k1, k2, k3, k4, k5, k6⟩ | ⟨k1, k2, k3, k4, k5, k6⟩
  · exact neg (by omega) k3 k4
  · exact neg (by omega) k4 k5
  · exact neg (by omega) k5 k6
  · have x4 := x3.2 (by omega)
    intro m m0 m1
    have hm := h m m0 m1
    rw [c1, c2, c3, c4, b3, b4, k5, x4 m.toNat, b5]
    refine ⟨fun w => hm.1 (by omega), fun w => ?_⟩
    by_cases q : m = s 1 4
    · have e := hm.1 (by omega)
      rw [if_pos (by omega)]
      exact ⟨e, fun w => by omega⟩
    · rw [if_neg (by omega)]
      obtain ⟨u1, u2⟩ := hm.2 (by omega)
      refine ⟨u1, fun w => ?_⟩
      obtain ⟨v1, v2, v3⟩ := u2 w
      rw [k6, if_neg (by omega)]
      exact ⟨by omega, v2, v3⟩
/-- the class's end, with what it was joined to -/
def EnV (s s' : xS) (a b : Int) : Prop :=
  (¬ ((0 ≤ a ∧ a < s 1 4) ∧ (b = -1 ∨ (0 ≤ b ∧ b < s 1 4))) ∧ s' 3 = s 3 ∧ s' 4 = s 4) ∨
  (((0 ≤ a ∧ a < s 1 4) ∧ (b = -1 ∨ (0 ≤ b ∧ b < s 1 4))) ∧ ¬ (a ≠ 0 ∧ a ≠ b ∧ (s 2 a.toNat ≤ s 0 10 ∧ ¬ (s 3 a.toNat ≠ -1 ∧ s 3 a.toNat ≤ s 0 10)) ∧ (b = -1 ∨ (s 2 b.toNat ≤ s 0 10 ∧ ¬ (s 3 b.toNat ≠ -1 ∧ s 3 b.toNat ≤ s 0 10)))) ∧ s' 3 = s 3 ∧ s' 4 = s 4) ∨
  (((0 ≤ a ∧ a < s 1 4) ∧ (b = -1 ∨ (0 ≤ b ∧ b < s 1 4))) ∧ (a ≠ 0 ∧ a ≠ b ∧ (s 2 a.toNat ≤ s 0 10 ∧ ¬ (s 3 a.toNat ≠ -1 ∧ s 3 a.toNat ≤ s 0 10)) ∧ (b = -1 ∨ (s 2 b.toNat ≤ s 0 10 ∧ ¬ (s 3 b.toNat ≠ -1 ∧ s 3 b.toNat ≤ s 0 10)))) ∧ (∀ j, s' 3 j = if j = a.toNat then s 0 10 else s 3 j) ∧ ∀ j, s' 4 j = if j = a.toNat then b else s 4 j)
/-- the reference's -/
def EnW (s s' : xS) (a b : Int) : Prop :=
  (¬ ((0 ≤ a ∧ a < s 256 1) ∧ (b = -1 ∨ (0 ≤ b ∧ b < s 256 1))) ∧ s' 258 = s 258 ∧ s' 259 = s 259) ∨
  (((0 ≤ a ∧ a < s 256 1) ∧ (b = -1 ∨ (0 ≤ b ∧ b < s 256 1))) ∧ ¬ (a ≠ 0 ∧ a ≠ b ∧ (s 257 a.toNat ≤ s 256 0 ∧ (s 258 a.toNat < 0 ∨ s 256 0 < s 258 a.toNat)) ∧ (b = -1 ∨ (s 257 b.toNat ≤ s 256 0 ∧ (s 258 b.toNat < 0 ∨ s 256 0 < s 258 b.toNat)))) ∧ s' 258 = s 258 ∧ s' 259 = s 259) ∨
  (((0 ≤ a ∧ a < s 256 1) ∧ (b = -1 ∨ (0 ≤ b ∧ b < s 256 1))) ∧ (a ≠ 0 ∧ a ≠ b ∧ (s 257 a.toNat ≤ s 256 0 ∧ (s 258 a.toNat < 0 ∨ s 256 0 < s 258 a.toNat)) ∧ (b = -1 ∨ (s 257 b.toNat ≤ s 256 0 ∧ (s 258 b.toNat < 0 ∨ s 256 0 < s 258 b.toNat)))) ∧ (∀ j, s' 258 j = if j = a.toNat then s 256 0 else s 258 j) ∧ ∀ j, s' 259 j = if j = a.toNat then b else s 259 j)
theorem EnV.c {s s' : xS} {a b : Int} (h : EnV s s' a b) : EnC s s' a b := by
  unfold EnV at h
  unfold EnC
  rcases h with ⟨k1, k2, _⟩ | ⟨k1, k2, k3, _⟩ | ⟨k1, k2, k3, _⟩
  · exact Or.inl ⟨k1, k2⟩
  · exact Or.inr (Or.inl ⟨k1, k2, k3⟩)
  · exact Or.inr (Or.inr ⟨k1, k2, k3⟩)
theorem EnW.r {s s' : xS} {a b : Int} (h : EnW s s' a b) : EnR s s' a b := by
  unfold EnW at h
  unfold EnR
  rcases h with ⟨k1, k2, _⟩ | ⟨k1, k2, k3, _⟩ | ⟨k1, k2, k3, _⟩
  · exact Or.inl ⟨k1, k2⟩
  · exact Or.inr (Or.inl ⟨k1, k2, k3⟩)
  · exact Or.inr (Or.inr ⟨k1, k2, k3⟩)
theorem JT.end {L1 L2 : List Nat} {s s1 s2 : xS} {a b : Int} (h : JT s) (t : T0 s) (hG : GI s) (f1 : FL L1 s s1) (f2 : FL L2 s1 s2) (hL1 : ∀ x ∈ [11, 4097, 69, 4098, 128, 4160, 4224, 4288], x ∉ L1) (hL2 : ∀ x ∈ [11, 4097, 69, 4098, 128, 192, 256, 4160], x ∉ L2) (x1 : EnV s s1 a b) (x2 : EnW s1 s2 a b) : JT s2 := by
  have g1 : (1 : Int) ≤ s 256 1 ∧ s 256 1 ≤ 40 := hG 256 1
  have g0 : (0 : Int) ≤ s 0 10 ∧ s 0 10 ≤ 9 := hG 0 10
  have a1 : s1 1 4 = s 1 4 := f1 1 4 (hL1 69 (by decide))
  have a2 : s1 256 0 = s 256 0 := f1 256 0 (hL1 4097 (by decide))
  have a4 : s1 256 1 = s 256 1 := f1 256 1 (hL1 4098 (by decide))
  have b1 : s1 2 = s 2 := funext fun i => f1 2 i (hL1 128 (by decide))
  have b3 : s1 257 = s 257 := funext fun i => f1 257 i (hL1 4160 (by decide))
  have b4 : s1 258 = s 258 := funext fun i => f1 258 i (hL1 4224 (by decide))
  have b5 : s1 259 = s 259 := funext fun i => f1 259 i (hL1 4288 (by decide))
  have c1 : s2 1 4 = s1 1 4 := f2 1 4 (hL2 69 (by decide))
  have c2 : s2 2 = s1 2 := funext fun i => f2 2 i (hL2 128 (by decide))
  have c3 : s2 3 = s1 3 := funext fun i => f2 3 i (hL2 192 (by decide))
  have c4 : s2 4 = s1 4 := funext fun i => f2 4 i (hL2 256 (by decide))
  obtain ⟨h0, h1, h2⟩ := t
  have hk : ∀ a : Int, 0 ≤ a → a < s 256 1 → s 2 a.toNat = s 257 a.toNat ∧ s 3 a.toNat = s 258 a.toNat := fun a u v => (h2 a u (by omega)).1 v
  have ha := hk a
  have hb := hk b
  have hg : -1 ≤ s 3 a.toNat ∧ s 3 a.toNat ≤ 9 := hG 3 a.toNat
  have hg2 : -1 ≤ s 3 b.toNat ∧ s 3 b.toNat ≤ 9 := hG 3 b.toNat
  unfold EnV at x1
  unfold EnW at x2
  rw [a4, b3, b4, b5, a2] at x2
  rcases x1 with ⟨k1, k2, k3⟩ | ⟨k1, k2, k3, k4⟩ | ⟨k1, k2, k3, k4⟩ <;> rcases x2 with ⟨m1, m2, m3⟩ | ⟨m1, m2, m3, m4⟩ | ⟨m1, m2, m3, m4⟩
  case inl.inl => unfold JT; rw [c1, c2, c3, c4, a1, b1, k2, k3, m3]; exact h
  case inr.inl.inr.inl => unfold JT; rw [c1, c2, c3, c4, a1, b1, k3, k4, m4]; exact h
  case inr.inr.inr.inr =>
    intro m q0 q1
    have hm := h m q0 q1
    rw [c1, c2, c3, c4, a1, b1, k3 m.toNat, k4 m.toNat, m4 m.toNat]
    by_cases q : m = a
    · rw [if_pos (by omega), if_pos (by omega), if_pos (by omega)]
      exact ⟨fun w => by omega, fun _ => ⟨rfl, fun w => ⟨by omega, by omega, by omega⟩⟩⟩
    · rw [if_neg (by omega), if_neg (by omega), if_neg (by omega)]
      exact hm
  all_goals (exfalso; omega)
def TR (s : xS) : Prop := T0 s ∧ P1 s ∧ Q2 s ∧ JT s
def LTR : List Nat := [11, 4097, 69, 4098, 128, 192, 4160, 4224, 384, 4352, 256, 4288]
theorem TR.fl {L : List Nat} {s s' : xS} (h : TR s) (hG : s 256 1 ≤ 40) (f : FL L s s') (hL : ∀ x ∈ LTR, x ∉ L) : TR s' :=
  ⟨h.1.fl f (fun x hx => hL x (by revert x; decide)), h.2.1.fl hG f (fun x hx => hL x (by revert x; decide)), h.2.2.1.fl f (fun x hx => hL x (by revert x; decide)), h.2.2.2.fl f (fun x hx => hL x (by revert x; decide))⟩
theorem TR.ed {L1 L2 : List Nat} {s s1 s2 : xS} {z1 z2 : Int} (h : TR s) (hG : GI s) (f1 : FL L1 s s1) (f2 : FL L2 s1 s2) (hL1 : ∀ x ∈ [4097, 69, 4098, 128, 192, 4160, 4224, 384, 4352, 256, 4288], x ∉ L1) (hL2 : ∀ x ∈ [11, 69, 4098, 128, 192, 4160, 4224, 384, 4352, 256, 4288], x ∉ L2)
    (x1 : (s 0 10 = 9 ∧ z1 = -1003 ∧ s1 0 10 = 9) ∨ (s 0 10 < 9 ∧ z1 = s 0 10 + 1 ∧ s1 0 10 = z1)) (x2 : (s1 256 0 = 9 ∧ z2 = -1003 ∧ s2 256 0 = 9) ∨ (s1 256 0 < 9 ∧ z2 = s1 256 0 + 1 ∧ s2 256 0 = z2)) : z1 = z2 ∧ TR s2 := by
  obtain ⟨e, t⟩ := T0.ed h.1 f1 f2 (fun x hx => hL1 x (by revert x; decide)) (fun x hx => hL2 x (by revert x; decide)) x1 x2
  exact ⟨e, t, P1.ed h.2.1 hG f1 f2 (fun x hx => hL1 x (by revert x; decide)) (fun x hx => hL2 x (by revert x; decide)) x2, (h.2.2.1.fl f1 (fun x hx => hL1 x (by revert x; decide))).fl f2 (fun x hx => hL2 x (by revert x; decide)), (h.2.2.2.fl f1 (fun x hx => hL1 x (by revert x; decide))).fl f2 (fun x hx => hL2 x (by revert x; decide))⟩
theorem TR.mark {L1 L2 : List Nat} {s s1 s2 : xS} {a z1 z2 : Int} (h : TR s) (hG : GI s) (f1 : FL L1 s s1) (f2 : FL L2 s1 s2) (hL1 : ∀ x ∈ [11, 4097, 4098, 192, 256, 4160, 4224, 4352, 4288], x ∉ L1) (hL2 : ∀ x ∈ [11, 4097, 69, 128, 192, 256, 384], x ∉ L2) (x1 : MkC s s1 a z1 ∧ MkP s s1 a z1) (x2 : MkR s1 s2 a z2 ∧ MkQ s1 s2 a z2 ∧ MkJ s1 s2 z2) : z1 = z2 ∧ TR s2 := by
  obtain ⟨e, t⟩ := T0.mark h.1 hG f1 f2 (fun x hx => hL1 x (by revert x; decide)) (fun x hx => hL2 x (by revert x; decide)) x1.1 x2.1
  refine ⟨e, t, P1.mark h.2.1 h.1 hG f1 f2 (fun x hx => hL1 x (by revert x; decide)) (fun x hx => hL2 x (by revert x; decide)) e x1.2 x2.1 x2.2.1, (Q2.mark h.2.2.1 hG x1.1 x1.2).fl f2 (fun x hx => hL2 x (by revert x; decide)), ?_⟩
  subst e
  exact JT.mark h.2.2.2 hG f1 f2 (fun x hx => hL1 x (by revert x; decide)) (fun x hx => hL2 x (by revert x; decide)) x1.1 x2.2.2
theorem TR.move {L1 L2 : List Nat} {s s1 s2 : xS} {a b z1 z2 : Int} (h : TR s) (hJ : J s) (hG : GI s) (f1 : FL L1 s s1) (f2 : FL L2 s1 s2) (hL1 : ∀ x ∈ [11, 4097, 69, 4098, 128, 192, 256, 4160, 4224, 4352, 4288], x ∉ L1) (hL2 : ∀ x ∈ [11, 4097, 69, 4098, 128, 192, 256, 4160, 4224, 384, 4288], x ∉ L2) (x1 : MvC s s1 a b z1) (x2 : MvR s1 s2 a b z2) : z1 = z2 ∧ TR s2 := by
  obtain ⟨e, p⟩ := P1.move h.2.1 h.1 hJ hG f1 f2 (fun x hx => hL1 x (by revert x; decide)) (fun x hx => hL2 x (by revert x; decide)) x1 x2
  refine ⟨e, (h.1.fl f1 (fun x hx => hL1 x (by revert x; decide))).fl f2 (fun x hx => hL2 x (by revert x; decide)), p, ?_, (h.2.2.2.fl f1 (fun x hx => hL1 x (by revert x; decide))).fl f2 (fun x hx => hL2 x (by revert x; decide))⟩
  exact (Q2.move h.2.2.1 hG (f1 1 4 (hL1 69 (by decide))) (funext fun i => f1 2 i (hL1 128 (by decide))) x1).fl f2 (fun x hx => hL2 x (by revert x; decide))
theorem TR.end {L1 L2 : List Nat} {s s1 s2 : xS} {a b : Int} (h : TR s) (hG : GI s) (f1 : FL L1 s s1) (f2 : FL L2 s1 s2) (hL1 : ∀ x ∈ [11, 4097, 69, 4098, 128, 384, 4160, 4224, 4352, 4288], x ∉ L1) (hL2 : ∀ x ∈ [11, 4097, 69, 4098, 128, 192, 256, 384, 4160, 4352], x ∉ L2) (x1 : EnV s s1 a b) (x2 : EnW s1 s2 a b) : TR s2 := by
  have g1 : (1 : Int) ≤ s 256 1 ∧ s 256 1 ≤ 40 := hG 256 1
  have a4 : s1 256 1 = s 256 1 := f1 256 1 (hL1 4098 (by decide))
  refine ⟨T0.end h.1 hG f1 f2 (fun x hx => hL1 x (by revert x; decide)) (fun x hx => hL2 x (by revert x; decide)) x1.c x2.r, (h.2.1.fl g1.2 f1 (fun x hx => hL1 x (by revert x; decide))).fl (by omega) f2 (fun x hx => hL2 x (by revert x; decide)), (h.2.2.1.fl f1 (fun x hx => hL1 x (by revert x; decide))).fl f2 (fun x hx => hL2 x (by revert x; decide)), JT.end h.2.2.2 h.1 hG f1 f2 (fun x hx => hL1 x (by revert x; decide)) (fun x hx => hL2 x (by revert x; decide)) x1 x2⟩
/-- a mark is told by then -/
def tdC (s : xS) (e m : Int) : Prop := (0 ≤ m ∧ m < s 1 4) ∧ s 2 m.toNat ≤ e
theorem thC.td {s : xS} {e m : Int} (h : thC s e m) : tdC s e m := ⟨h.1, h.2.1⟩
theorem TR.par {s : xS} (h : TR s) (hG : GI s) {e m : Int} (he : 0 ≤ e ∧ e ≤ 9) (hm : tdC s e m) : parC s e m = s 260 (10 * m + e).toNat := by
  have g1 : (1 : Int) ≤ s 256 1 ∧ s 256 1 ≤ 40 := hG 256 1
  have e1 := h.1.2.1
  obtain ⟨⟨m0, m1⟩, m2⟩ := hm
  have hk := ((h.1.2.2 m m0 (by omega)).1 (by omega)).1
  unfold parC
  rw [if_pos ⟨⟨m0, m1⟩, he⟩]
  exact (h.2.1 m m0 (by omega)).2 e (by omega) he.1 he.2
theorem Q2.par {s : xS} (h : Q2 s) (hG : GI s) {e m : Int} (he : 0 ≤ e ∧ e ≤ 9) (hm : tdC s e m) (hp : 0 ≤ parC s e m) : tdC s e (parC s e m) := by
  have g1 : (1 : Int) ≤ s 1 4 ∧ s 1 4 ≤ 40 := hG 1 4
  have h1 := hm.1
  unfold parC at hp ⊢
  rw [if_pos ⟨h1, he⟩] at hp ⊢
  obtain ⟨u1, u2⟩ := (h m e h1.1 (by omega) he.1 he.2).2 h1.2 hm.2 hp
  exact ⟨⟨hp, u1⟩, u2⟩
/-- where a mark was told by then, both ways up are the same -/
theorem TR.way {s : xS} (h : TR s) (hJ : J s) (hG : GI s) {e : Int} (he : 0 ≤ e ∧ e ≤ 9) {a k : Int} (ha : tdC s e a) (hk : 0 ≤ k) : onp s e 40 a k ↔ ∃ j, xup s e j a = k := by
  have g1 : (1 : Int) ≤ s 256 1 ∧ s 256 1 ≤ 40 := hG 256 1
  have e1 := h.1.2.1
  obtain ⟨-, ⟨rk, h1⟩, h2, -⟩ := id hJ
  constructor
  · have key : ∀ n x, tdC s e x → onp s e n x k → ∃ j, xup s e j x = k := by
      intro n
      induction n with
      | zero => intro x _ h; exact h.elim
      | succ n ih =>
        intro x hx hq
        have hq : (0 ≤ x ∧ x < s 1 4) ∧ (x = k ∨ onp s e n (parC s e x) k) := hq
        rcases hq.2 with q | q
        · exact ⟨0, q⟩
        · have hp : 0 ≤ parC s e x := by
            by_cases z : 0 ≤ parC s e x
            · exact z
            · exact absurd q (onp_out (fun w => z w.1) n k)
          obtain ⟨j, hj⟩ := ih _ (h.2.2.1.par hG he hx hp) q
          rw [h.par hG he hx] at hj
          refine ⟨j + 1, ?_⟩
          show (if x < 0 then x else xup s e j (s 260 (10 * x + e).toNat)) = k
          rw [if_neg (by have := hx.1.1; omega)]
          exact hj
    exact key 40 a ha
  · rintro ⟨j, hj⟩
    have hj40 : j < 40 := by
      by_cases q : j < 40
      · exact q
      · have := xup_short h2 h1 g1.2 he (x := a) (by have := ha.1.2; omega) (j := j) (by omega)
        omega
    have key : ∀ n x, tdC s e x → xup s e n x = k → onp s e (n + 1) x k := by
      intro n
      induction n with
      | zero => intro x hx hq; exact (show (0 ≤ x ∧ x < s 1 4) ∧ (x = k ∨ onp s e 0 (parC s e x) k) from ⟨hx.1, Or.inl hq⟩)
      | succ n ih =>
        intro x hx hq
        have hq : (if x < 0 then x else xup s e n (s 260 (10 * x + e).toNat)) = k := hq
        rw [if_neg (by have := hx.1.1; omega)] at hq
        have hq0 : 0 ≤ s 260 (10 * x + e).toNat := xup_nn (s := s) (e := e) _ n 0 (by omega) (by omega)
        refine (show (0 ≤ x ∧ x < s 1 4) ∧ (x = k ∨ onp s e (n + 1) (parC s e x) k) from ⟨hx.1, Or.inr ?_⟩)
        rw [← h.par hG he hx] at hq hq0
        exact ih _ (h.2.2.1.par hG he hx hq0) hq
    exact onp_mono (by omega) (key j a ha hj)
/-- ahead of its telling a mark is alone -/
theorem Q2.lone {s : xS} (h : Q2 s) (hG : GI s) {e : Int} (he : 0 ≤ e ∧ e ≤ 9) {a k : Int} (ha : 0 ≤ a ∧ a < s 1 4) (hn : ¬ tdC s e a) (hk : a ≠ k) : ¬ onp s e 40 a k := by
  have g1 : (1 : Int) ≤ s 1 4 ∧ s 1 4 ≤ 40 := hG 1 4
  intro w
  have w : (0 ≤ a ∧ a < s 1 4) ∧ (a = k ∨ onp s e 39 (parC s e a) k) := w
  rcases w.2 with q | q
  · exact hk q
  · have hp : parC s e a = -1 := by
      unfold parC
      rw [if_pos ⟨ha, he⟩]
      exact (h a e ha.1 (by omega) he.1 he.2).1 (Or.inr (by
        by_cases z : e < s 2 a.toNat
        · exact z
        · exact absurd (show tdC s e a from ⟨ha, by omega⟩) hn))
    rw [hp] at q
    exact onp_out (by omega) 39 k q
/-- all on a way up from a told mark are told -/
theorem Q2.told {s : xS} (h : Q2 s) (hG : GI s) {e : Int} (he : 0 ≤ e ∧ e ≤ 9) {k : Int} : ∀ (n : Nat) (a : Int), tdC s e a → onp s e n a k → tdC s e k := by
  intro n
  induction n with
  | zero => intro a _ w; exact w.elim
  | succ n ih =>
    intro a ha w
    have w : (0 ≤ a ∧ a < s 1 4) ∧ (a = k ∨ onp s e n (parC s e a) k) := w
    rcases w.2 with q | q
    · subst q; exact ha
    · have hp : 0 ≤ parC s e a := by
        by_cases z : 0 ≤ parC s e a
        · exact z
        · exact absurd q (onp_out (fun w => z w.1) n k)
      exact ih _ (h.par hG he ha hp) q
