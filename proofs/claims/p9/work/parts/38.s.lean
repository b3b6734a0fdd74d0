/-! both givings side by side: hands and doubts -/
/-- how many of the first k editions count by e -/
def dcn (f : Int → Int) (e : Int) : Nat → Int
  | 0 => 0
  | k + 1 => dcn f e k + (if 0 ≤ f k ∧ f k ≤ e then 1 else 0)
theorem dcn_s (f : Int → Int) (e : Int) {k z : Int} (hk : 0 ≤ k) (hz : f k = z) : (0 ≤ z ∧ z ≤ e → dcn f e (k + 1).toNat = dcn f e k.toNat + 1) ∧ (¬ (0 ≤ z ∧ z ≤ e) → dcn f e (k + 1).toNat = dcn f e k.toNat) := by
  have e1 : (k + 1).toNat = k.toNat + 1 := by omega
  have e2 : ((k.toNat : Nat) : Int) = k := by omega
  rw [e1, dcn, e2, hz]
  exact ⟨fun h => by rw [if_pos h], fun h => by rw [if_neg h]; omega⟩
theorem dcn_cg {f g : Int → Int} {e : Int} (k : Nat) (h : ∀ j : Nat, j < k → f j = g j) : dcn f e k = dcn g e k := by
  induction k with
  | zero => rfl
  | succ k ih => rw [dcn, dcn, ih (fun j hj => h j (by omega)), h k (by omega)]
/-- a row being filled -/
theorem fl_up {s s0 : xS} {q x : Nat} {a n : Int} (h : ∀ r j : Nat, 57 ≤ r → r ≤ 176 → s r j = if r = q ∧ (j : Int) < n then a else s0 r j) (hn : 0 ≤ n) (hx : x = q) : ∀ r j : Nat, 57 ≤ r → r ≤ 176 → x_up s x n.toNat a r j = if r = q ∧ (j : Int) < n + 1 then a else s0 r j := by
  subst hx
  intro r j h1 h2
  by_cases e : r = x ∧ j = n.toNat
  · rw [e.1, e.2, x_up_same, if_pos ⟨rfl, by omega⟩]
  · have e2 : x_up s x n.toNat a r j = s r j := by
      by_cases e3 : r = x
      · exact x_up_i (fun z => e ⟨e3, z⟩)
      · exact x_up_q e3
    rw [e2, h r j h1 h2]
    by_cases e4 : r = x ∧ (j : Int) < n
    · rw [if_pos e4, if_pos ⟨e4.1, by omega⟩]
    · rw [if_neg e4, if_neg (fun z => e4 ⟨z.1, by
        by_cases e5 : j = n.toNat
        · exact absurd ⟨z.1, e5⟩ e
        · omega⟩)]
/-- the class's give -/
def GiC (s s' : xS) (a b d e z : Int) : Prop :=
  (¬ ((0 ≤ a ∧ a < s 46 3) ∧ (0 ≤ b ∧ b < s 1 4)) ∧ z = -1001 ∧ s' 50 6 = s 50 6 ∧ s' 53 = s 53 ∧ ∀ r j : Nat, 57 ≤ r → r ≤ 176 → s' r j = s r j) ∨
  (((0 ≤ a ∧ a < s 46 3) ∧ (0 ≤ b ∧ b < s 1 4)) ∧ ¬ ((0 ≤ d ∧ d ≤ 7) ∧ (0 ≤ e ∧ e ≤ 63)) ∧ z = -1002 ∧ s' 50 6 = s 50 6 ∧ s' 53 = s 53 ∧ ∀ r j : Nat, 57 ≤ r → r ≤ 176 → s' r j = s r j) ∨
  (((0 ≤ a ∧ a < s 46 3) ∧ (0 ≤ b ∧ b < s 1 4)) ∧ ((0 ≤ d ∧ d ≤ 7) ∧ (0 ≤ e ∧ e ≤ 63)) ∧ 120 ≤ s 50 6 ∧ z = -1004 ∧ s' 50 6 = s 50 6 ∧ s' 53 = s 53 ∧ ∀ r j : Nat, 57 ≤ r → r ≤ 176 → s' r j = s r j) ∨
  (((0 ≤ a ∧ a < s 46 3) ∧ (0 ≤ b ∧ b < s 1 4)) ∧ ((0 ≤ d ∧ d ≤ 7) ∧ (0 ≤ e ∧ e ≤ 63)) ∧ s 50 6 < 120 ∧ z = s 50 6 ∧ s' 50 6 = s 50 6 + 1 ∧ (∀ j : Nat, s' 53 j = if j = (s 50 6).toNat then d else s 53 j) ∧ ∀ r j : Nat, 57 ≤ r → r ≤ 176 → s' r j = if r = 56 + 1 + (s 50 6).toNat ∧ (j : Int) < 8 then -1 else s r j)
/-- the reference's give -/
def GiR (s s' : xS) (a b d e z : Int) : Prop :=
  (¬ ((0 ≤ a ∧ a < s 256 6) ∧ (0 ≤ b ∧ b < s 256 1)) ∧ z = -1001 ∧ s' 256 10 = s 256 10 ∧ s' 266 = s 266 ∧ s' 269 = s 269) ∨
  (((0 ≤ a ∧ a < s 256 6) ∧ (0 ≤ b ∧ b < s 256 1)) ∧ ¬ ((0 ≤ d ∧ d ≤ 7) ∧ (0 ≤ e ∧ e ≤ 63)) ∧ z = -1002 ∧ s' 256 10 = s 256 10 ∧ s' 266 = s 266 ∧ s' 269 = s 269) ∨
  (((0 ≤ a ∧ a < s 256 6) ∧ (0 ≤ b ∧ b < s 256 1)) ∧ ((0 ≤ d ∧ d ≤ 7) ∧ (0 ≤ e ∧ e ≤ 63)) ∧ s 256 10 = 120 ∧ z = -1004 ∧ s' 256 10 = s 256 10 ∧ s' 266 = s 266 ∧ s' 269 = s 269) ∨
  (((0 ≤ a ∧ a < s 256 6) ∧ (0 ≤ b ∧ b < s 256 1)) ∧ ((0 ≤ d ∧ d ≤ 7) ∧ (0 ≤ e ∧ e ≤ 63)) ∧ s 256 10 < 120 ∧ z = s 256 10 ∧ s' 256 10 = s 256 10 + 1 ∧ (∀ j : Nat, s' 266 j = if j = (s 256 10).toNat then d else s 266 j) ∧ ∀ j : Nat, s' 269 j = if 8 * s 256 10 ≤ (j : Int) ∧ (j : Int) < 8 * s 256 10 + 8 then -1 else s 269 j)
/-- the class's doubt -/
def DoC (s s' : xS) (a b z : Int) : Prop :=
  (¬ (0 ≤ a ∧ a < s 50 6) ∧ z = -1001 ∧ ∀ r j : Nat, 57 ≤ r → r ≤ 176 → s' r j = s r j) ∨
  ((0 ≤ a ∧ a < s 50 6) ∧ ¬ (0 ≤ b ∧ b ≤ 7) ∧ z = -1002 ∧ ∀ r j : Nat, 57 ≤ r → r ≤ 176 → s' r j = s r j) ∨
  ((0 ≤ a ∧ a < s 50 6) ∧ (0 ≤ b ∧ b ≤ 7) ∧ (s 53 a.toNat = b ∨ s (56 + 1 + a.toNat) b.toNat ≠ -1) ∧ z = -1003 ∧ ∀ r j : Nat, 57 ≤ r → r ≤ 176 → s' r j = s r j) ∨
  ((0 ≤ a ∧ a < s 50 6) ∧ (0 ≤ b ∧ b ≤ 7) ∧ (s 53 a.toNat ≠ b ∧ s (56 + 1 + a.toNat) b.toNat = -1) ∧ z = dcn (fun h => s' (56 + 1 + a.toNat) h.toNat) (s 0 10) 8 ∧ ∀ r j : Nat, 57 ≤ r → r ≤ 176 → s' r j = if r = 56 + 1 + a.toNat ∧ j = b.toNat then s 0 10 else s r j)
/-- the reference's doubt -/
def DoR (s s' : xS) (a b z : Int) : Prop :=
  (¬ (0 ≤ a ∧ a < s 256 10) ∧ z = -1001 ∧ s' 269 = s 269) ∨
  ((0 ≤ a ∧ a < s 256 10) ∧ ¬ (0 ≤ b ∧ b ≤ 7) ∧ z = -1002 ∧ s' 269 = s 269) ∨
  ((0 ≤ a ∧ a < s 256 10) ∧ (0 ≤ b ∧ b ≤ 7) ∧ (b = s 266 a.toNat ∨ 0 ≤ s 269 (8 * a + b).toNat) ∧ z = -1003 ∧ s' 269 = s 269) ∨
  ((0 ≤ a ∧ a < s 256 10) ∧ (0 ≤ b ∧ b ≤ 7) ∧ (b ≠ s 266 a.toNat ∧ s 269 (8 * a + b).toNat < 0) ∧ z = dcn (fun h => s' 269 (8 * a + h).toNat) (s 256 0) 8 ∧ ∀ j : Nat, s' 269 j = if j = (8 * a + b).toNat then s 256 0 else s 269 j)
def G1 (s : xS) : Prop := s 50 6 = s 256 10 ∧ ∀ g : Int, 0 ≤ g → g ≤ 119 → g < s 256 10 → s 53 g.toNat = s 266 g.toNat ∧ ∀ h : Int, 0 ≤ h → h ≤ 7 → s (56 + 1 + g.toNat) h.toNat = s 269 (8 * g + h).toNat
def LG1 : List Nat := [711, 4107, 896, 1152, 4736, 4928]
theorem rows120 {L : List Nat} {s s' : xS} (f : FL L s s') (hL : 1152 ∉ L) : ∀ r j : Nat, 57 ≤ r → r ≤ 176 → s' r j = s r j := fun r j h1 h2 => f r j (by rw [(gr_57 j h1 h2).2.2]; exact hL)
theorem G1.cg {s s' : xS} (h : G1 s) (a1 : s' 50 6 = s 50 6) (a2 : s' 256 10 = s 256 10) (b1 : s' 53 = s 53) (b2 : ∀ r j : Nat, 57 ≤ r → r ≤ 176 → s' r j = s r j) (b3 : s' 266 = s 266) (b4 : s' 269 = s 269) : G1 s' := by
  refine ⟨by rw [a1, a2]; exact h.1, fun g g0 g1 => ?_⟩
  rw [a2, b1, b3, b4]
  refine fun g2 => ⟨(h.2 g g0 g1 g2).1, fun i i0 i1 => ?_⟩
  rw [b2 (56 + 1 + g.toNat) i.toNat (by omega) (by omega)]
  exact (h.2 g g0 g1 g2).2 i i0 i1
theorem G1.fl {L : List Nat} {s s' : xS} (h : G1 s) (f : FL L s s') (hL : ∀ x ∈ LG1, x ∉ L) : G1 s' :=
  h.cg (f 50 6 (hL 711 (by decide))) (f 256 10 (hL 4107 (by decide))) (funext fun i => f 53 i (hL 896 (by decide))) (rows120 f (hL 1152 (by decide))) (funext fun i => f 266 i (hL 4736 (by decide))) (funext fun i => f 269 i (hL 4928 (by decide)))
theorem G1.up {s : xS} {q i : Nat} {v : Int} (h : G1 s) (hL : x_pl q i ∉ LG1) : G1 (x_up s q i v) := h.fl FL.one (fun x hx hm => hL (by rw [← List.mem_singleton.mp hm]; exact hx))
theorem G1.give {L1 L2 : List Nat} {s s1 s2 : xS} {a b d e z1 z2 : Int} (h : G1 s) (hm : s 1 4 = s 256 1) (hp : s 46 3 = s 256 6) (hG : GI s) (f1 : FL L1 s s1) (f2 : FL L2 s1 s2) (hL1 : ∀ x ∈ [4107, 4098, 4103, 4736, 4928], x ∉ L1) (hL2 : ∀ x ∈ [711, 896, 1152], x ∉ L2) (x1 : GiC s s1 a b d e z1) (x2 : GiR s1 s2 a b d e z2) : z1 = z2 ∧ G1 s2 := by
  have g1 : (0 : Int) ≤ s 256 10 ∧ s 256 10 ≤ 120 := hG 256 10
  have a2 : s1 256 10 = s 256 10 := f1 256 10 (hL1 4107 (by decide))
  have a3 : s1 256 1 = s 256 1 := f1 256 1 (hL1 4098 (by decide))
  have a4 : s1 256 6 = s 256 6 := f1 256 6 (hL1 4103 (by decide))
  have b3 : s1 266 = s 266 := funext fun i => f1 266 i (hL1 4736 (by decide))
  have b4 : s1 269 = s 269 := funext fun i => f1 269 i (hL1 4928 (by decide))
  have d1 : s2 50 6 = s1 50 6 := f2 50 6 (hL2 711 (by decide))
  have e1 : s2 53 = s1 53 := funext fun i => f2 53 i (hL2 896 (by decide))
  have e2 := rows120 f2 (hL2 1152 (by decide))
  have h0 := h.1
  unfold GiC at x1
  unfold GiR at x2
  rw [a2, a3, a4, b3, b4] at x2
  rcases x1 with ⟨k1, k2, k3, k4, k5⟩ | ⟨k1, k2, k3, k4, k5, k6⟩ | ⟨k1, k2, k3, k4, k5, k6, k7⟩ | ⟨k1, k2, k3, k4, k5, k6, k7⟩ <;> rcases x2 with ⟨m1, m2, m3, m4, m5⟩ | ⟨m1, m2, m3, m4, m5, m6⟩ | ⟨m1, m2, m3, m4, m5, m6, m7⟩ | ⟨m1, m2, m3, m4, m5, m6, m7⟩
  case inl.inl => exact ⟨by omega, h.cg (by omega) (by omega) (by rw [e1, k4]) (fun r j h1 h2 => (e2 r j h1 h2).trans (k5 r j h1 h2)) m4 m5⟩
  case inr.inl.inr.inl => exact ⟨by omega, h.cg (by omega) (by omega) (by rw [e1, k5]) (fun r j h1 h2 => (e2 r j h1 h2).trans (k6 r j h1 h2)) m5 m6⟩
  case inr.inr.inl.inr.inr.inl => exact ⟨by omega, h.cg (by omega) (by omega) (by rw [e1, k6]) (fun r j h1 h2 => (e2 r j h1 h2).trans (k7 r j h1 h2)) m6 m7⟩
  case inr.inr.inr.inr.inr.inr =>
    refine ⟨by omega, by omega, fun g g0 g9 g2 => ?_⟩
    rw [e1, k6, m6]
    have g2' : g < s 256 10 + 1 := by omega
    by_cases eg : g = s 256 10
    · rw [if_pos (by omega), if_pos (by omega)]
      refine ⟨rfl, fun i i0 i1 => ?_⟩
      rw [e2 (56 + 1 + g.toNat) i.toNat (by omega) (by omega), k7 (56 + 1 + g.toNat) i.toNat (by omega) (by omega), if_pos ⟨by omega, by omega⟩, m7, if_pos ⟨by omega, by omega⟩]
    · rw [if_neg (by omega), if_neg (by omega)]
      have hg := h.2 g g0 g9 (by omega)
      refine ⟨hg.1, fun i i0 i1 => ?_⟩
      rw [e2 (56 + 1 + g.toNat) i.toNat (by omega) (by omega), k7 (56 + 1 + g.toNat) i.toNat (by omega) (by omega), if_neg (fun w => eg (by omega)), m7, if_neg (fun w => eg (by omega))]
      exact hg.2 i i0 i1
  all_goals (exfalso; omega)
theorem G1.doubt {L1 L2 : List Nat} {s s1 s2 : xS} {a b z1 z2 : Int} (h : G1 s) (hn : s 0 10 = s 256 0) (hG : GI s) (f1 : FL L1 s s1) (f2 : FL L2 s1 s2) (hL1 : ∀ x ∈ [711, 4107, 4097, 896, 4736, 4928], x ∉ L1) (hL2 : ∀ x ∈ [711, 4107, 896, 1152, 4736], x ∉ L2) (x1 : DoC s s1 a b z1) (x2 : DoR s1 s2 a b z2) : z1 = z2 ∧ G1 s2 := by
  have g1 : (0 : Int) ≤ s 256 10 ∧ s 256 10 ≤ 120 := hG 256 10
  have a1 : s1 50 6 = s 50 6 := f1 50 6 (hL1 711 (by decide))
  have a2 : s1 256 10 = s 256 10 := f1 256 10 (hL1 4107 (by decide))
  have a3 : s1 256 0 = s 256 0 := f1 256 0 (hL1 4097 (by decide))
  have b1 : s1 53 = s 53 := funext fun i => f1 53 i (hL1 896 (by decide))
  have b3 : s1 266 = s 266 := funext fun i => f1 266 i (hL1 4736 (by decide))
  have b4 : s1 269 = s 269 := funext fun i => f1 269 i (hL1 4928 (by decide))
  have d1 : s2 50 6 = s1 50 6 := f2 50 6 (hL2 711 (by decide))
  have d2 : s2 256 10 = s1 256 10 := f2 256 10 (hL2 4107 (by decide))
  have e1 : s2 53 = s1 53 := funext fun i => f2 53 i (hL2 896 (by decide))
  have e2 := rows120 f2 (hL2 1152 (by decide))
  have e3 : s2 266 = s1 266 := funext fun i => f2 266 i (hL2 4736 (by decide))
  have h0 := h.1
  have hk : 0 ≤ a → a < s 256 10 → s 53 a.toNat = s 266 a.toNat ∧ (0 ≤ b → b ≤ 7 → s (56 + 1 + a.toNat) b.toNat = s 269 (8 * a + b).toNat) := fun u v => ⟨(h.2 a u (by omega) v).1, fun y w => (h.2 a u (by omega) v).2 b y w⟩
  have g3 : (-1 : Int) ≤ s 269 (8 * a + b).toNat ∧ s 269 (8 * a + b).toNat ≤ 9 := hG 269 (8 * a + b).toNat
  unfold DoC at x1
  unfold DoR at x2
  rw [a2, a3, b3, b4] at x2
  rcases x1 with ⟨k1, k2, k3⟩ | ⟨k1, k2, k3, k4⟩ | ⟨k1, k2, k3, k4, k5⟩ | ⟨k1, k2, k3, k4, k5⟩ <;> rcases x2 with ⟨m1, m2, m3⟩ | ⟨m1, m2, m3, m4⟩ | ⟨m1, m2, m3, m4, m5⟩ | ⟨m1, m2, m3, m4, m5⟩
  case inl.inl => exact ⟨by omega, h.cg (by omega) (by omega) (by rw [e1, b1]) (fun r j h1 h2 => (e2 r j h1 h2).trans (k3 r j h1 h2)) (by rw [e3, b3]) m3⟩
  case inr.inl.inr.inl => exact ⟨by omega, h.cg (by omega) (by omega) (by rw [e1, b1]) (fun r j h1 h2 => (e2 r j h1 h2).trans (k4 r j h1 h2)) (by rw [e3, b3]) m4⟩
  case inr.inr.inl.inr.inr.inl => exact ⟨by omega, h.cg (by omega) (by omega) (by rw [e1, b1]) (fun r j h1 h2 => (e2 r j h1 h2).trans (k5 r j h1 h2)) (by rw [e3, b3]) m5⟩
  case inr.inr.inr.inr.inr.inr =>
    have hrow : ∀ g : Int, 0 ≤ g → g ≤ 119 → g < s 256 10 → ∀ i : Int, 0 ≤ i → i ≤ 7 → s1 (56 + 1 + g.toNat) i.toNat = s2 269 (8 * g + i).toNat := by
      intro g g0 g9 g2 i i0 i1
      rw [k5 (56 + 1 + g.toNat) i.toNat (by omega) (by omega), m5]
      by_cases eg : g = a ∧ i = b
      · rw [if_pos ⟨by omega, by omega⟩, if_pos (by omega)]; exact hn
      · rw [if_neg (fun w => eg ⟨by omega, by omega⟩), if_neg (fun w => eg ⟨by omega, by omega⟩)]
        exact (h.2 g g0 g9 g2).2 i i0 i1
    refine ⟨?_, by omega, fun g g0 g9 g2 => ?_⟩
    · rw [k4, m4, hn]
      refine dcn_cg 8 (fun j hj => ?_)
      exact hrow a (by omega) (by omega) (by omega) j (by omega) (by omega)
    · rw [e1, b1, e3, b3]
      refine ⟨(h.2 g g0 g9 (by omega)).1, fun i i0 i1 => ?_⟩
      rw [e2 (56 + 1 + g.toNat) i.toNat (by omega) (by omega)]
      exact hrow g g0 g9 (by omega) i i0 i1
  all_goals (exfalso; omega)
theorem x_up_def {s : xS} {q i r j : Nat} {v : Int} : x_up s q i v r j = if r = q ∧ j = i then v else s r j := rfl
theorem db_up {s : xS} {g : Nat → Int} {n x z : Int} (h : ∀ j : Nat, s 269 j = if 8 * n ≤ (j : Int) ∧ (j : Int) < 8 * n + x then -1 else g j) (hz : z = 8 * n + x) (h0 : 0 ≤ z ∧ 0 ≤ x) : ∀ j : Nat, x_up s 269 z.toNat (-1) 269 j = if 8 * n ≤ (j : Int) ∧ (j : Int) < 8 * n + (x + 1) then -1 else g j := by
  intro i
  rw [x_up_at, h]
  by_cases e : i = z.toNat
  · rw [if_pos e, if_pos (by omega)]
  · rw [if_neg e]
    by_cases e2 : 8 * n ≤ (i : Int) ∧ (i : Int) < 8 * n + x
    · rw [if_pos e2, if_pos (by omega)]
    · rw [if_neg e2, if_neg (by omega)]
