/-! both stories side by side -/
theorem x_up_rw {s : xS} {k a r i j : Nat} {v : Int} : x_up s (k + a) i v (k + r) j = if r = a ∧ j = i then v else s (k + r) j := by
  by_cases h : r = a ∧ j = i
  · rw [if_pos h, h.1, h.2, x_up_same]
  · rw [if_neg h]
    by_cases e : r = a
    · exact x_up_i (fun z => h ⟨e, z⟩)
    · exact x_up_q (by omega)
/-- the class's moment -/
def MoC (s s' : xS) (a b d z : Int) : Prop :=
  (¬ ((0 ≤ a ∧ a < s 231 3) ∧ (0 ≤ d ∧ d < s 1 4)) ∧ z = -1001 ∧ s' 232 = s 232 ∧ ∀ r j : Nat, r < 4 → s' (233 + 1 + r) j = s (233 + 1 + r) j) ∨
  (((0 ≤ a ∧ a < s 231 3) ∧ (0 ≤ d ∧ d < s 1 4)) ∧ ¬ (0 ≤ b ∧ b ≤ s 232 a.toNat) ∧ z = -1002 ∧ s' 232 = s 232 ∧ ∀ r j : Nat, r < 4 → s' (233 + 1 + r) j = s (233 + 1 + r) j) ∨
  (((0 ≤ a ∧ a < s 231 3) ∧ (0 ≤ d ∧ d < s 1 4)) ∧ (0 ≤ b ∧ b ≤ s 232 a.toNat) ∧ (5 ≤ b ∨ 3 ≤ s (233 + 1 + a.toNat) b.toNat) ∧ z = -1004 ∧ s' 232 = s 232 ∧ ∀ r j : Nat, r < 4 → s' (233 + 1 + r) j = s (233 + 1 + r) j) ∨
  (((0 ≤ a ∧ a < s 231 3) ∧ (0 ≤ d ∧ d < s 1 4)) ∧ (0 ≤ b ∧ b ≤ s 232 a.toNat) ∧ (b < 5 ∧ s (233 + 1 + a.toNat) b.toNat < 3) ∧ z = s (233 + 1 + a.toNat) b.toNat + 1 ∧ (∀ j : Nat, s' 232 j = if j = a.toNat ∧ b = s 232 a.toNat then b + 1 else s 232 j) ∧ ∀ r j : Nat, r < 4 → s' (233 + 1 + r) j = if r = a.toNat ∧ j = b.toNat then z else s (233 + 1 + r) j)
/-- the reference's moment -/
def MoR (s s' : xS) (a b d z : Int) : Prop :=
  (¬ ((0 ≤ a ∧ a < s 256 58) ∧ (0 ≤ d ∧ d < s 256 1)) ∧ z = -1001 ∧ s' 292 = s 292 ∧ s' 293 = s 293) ∨
  (((0 ≤ a ∧ a < s 256 58) ∧ (0 ≤ d ∧ d < s 256 1)) ∧ ¬ (0 ≤ b ∧ b ≤ s 292 a.toNat) ∧ z = -1002 ∧ s' 292 = s 292 ∧ s' 293 = s 293) ∨
  (((0 ≤ a ∧ a < s 256 58) ∧ (0 ≤ d ∧ d < s 256 1)) ∧ (0 ≤ b ∧ b ≤ s 292 a.toNat) ∧ (b = 5 ∨ (b < s 292 a.toNat ∧ s 293 (5 * a + b).toNat = 3)) ∧ z = -1004 ∧ s' 292 = s 292 ∧ s' 293 = s 293) ∨
  (((0 ≤ a ∧ a < s 256 58) ∧ (0 ≤ d ∧ d < s 256 1)) ∧ (0 ≤ b ∧ b ≤ s 292 a.toNat) ∧ ¬ (b = 5 ∨ (b < s 292 a.toNat ∧ s 293 (5 * a + b).toNat = 3)) ∧ (b = s 292 a.toNat → z = 1) ∧ (b ≠ s 292 a.toNat → z = s 293 (5 * a + b).toNat + 1) ∧ (∀ j : Nat, s' 292 j = if j = a.toNat ∧ b = s 292 a.toNat then b + 1 else s 292 j) ∧ ∀ j : Nat, s' 293 j = if j = (5 * a + b).toNat then z else s 293 j)
def S1 (s : xS) : Prop := s 231 3 = s 256 58 ∧ ∀ t : Int, 0 ≤ t → t ≤ 3 → (s 256 58 ≤ t → s 232 t.toNat = 0) ∧ (t < s 256 58 → s 232 t.toNat = s 292 t.toNat) ∧ ∀ i : Int, 0 ≤ i → i ≤ 4 → (s 232 t.toNat ≤ i → s (233 + 1 + t.toNat) i.toNat = 0) ∧ (i < s 232 t.toNat → s (233 + 1 + t.toNat) i.toNat = s 293 (5 * t + i).toNat)
def LS1 : List Nat := [2884, 4155, 2944, 3072, 6400, 6464]
theorem rows4 {L : List Nat} {s s' : xS} (f : FL L s s') (hL : 3072 ∉ L) : ∀ r j : Nat, r < 4 → s' (233 + 1 + r) j = s (233 + 1 + r) j := fun r j hr => f (233 + 1 + r) j (by rw [(gr_234 j (by omega) (by omega)).2.2]; exact hL)
theorem S1.cg {s s' : xS} (h : S1 s) (a1 : s' 231 3 = s 231 3) (a2 : s' 256 58 = s 256 58) (b1 : s' 232 = s 232) (b2 : ∀ r j : Nat, r < 4 → s' (233 + 1 + r) j = s (233 + 1 + r) j) (b3 : s' 292 = s 292) (b4 : s' 293 = s 293) : S1 s' := by
  refine ⟨by rw [a1, a2]; exact h.1, fun t t0 t1 => ?_⟩
  rw [a2, b1, b3, b4]
  refine ⟨(h.2 t t0 t1).1, (h.2 t t0 t1).2.1, fun i i0 i1 => ?_⟩
  rw [b2 t.toNat i.toNat (by omega)]
  exact (h.2 t t0 t1).2.2 i i0 i1
theorem S1.fl {L : List Nat} {s s' : xS} (h : S1 s) (f : FL L s s') (hL : ∀ x ∈ LS1, x ∉ L) : S1 s' :=
  h.cg (f 231 3 (hL 2884 (by decide))) (f 256 58 (hL 4155 (by decide))) (funext fun i => f 232 i (hL 2944 (by decide))) (rows4 f (hL 3072 (by decide))) (funext fun i => f 292 i (hL 6400 (by decide))) (funext fun i => f 293 i (hL 6464 (by decide)))
theorem S1.up {s : xS} {q i : Nat} {v : Int} (h : S1 s) (hL : x_pl q i ∉ LS1) : S1 (x_up s q i v) := h.fl FL.one (fun x hx hm => hL (by rw [← List.mem_singleton.mp hm]; exact hx))
theorem S1.story {L1 L2 : List Nat} {s s1 s2 : xS} {z1 z2 : Int} (h : S1 s) (hG : GI s) (f1 : FL L1 s s1) (f2 : FL L2 s1 s2) (hL1 : ∀ x ∈ [4155, 2944, 3072, 6400, 6464], x ∉ L1) (hL2 : ∀ x ∈ [2884, 2944, 3072, 6464], x ∉ L2)
    (x1 : (s 231 3 ≥ 4 ∧ z1 = -1004 ∧ s1 231 3 = s 231 3) ∨ (s 231 3 < 4 ∧ z1 = s 231 3 ∧ s1 231 3 = s 231 3 + 1)) (x2 : (s1 256 58 = 4 ∧ z2 = -1004 ∧ s2 256 58 = s1 256 58 ∧ s2 292 = s1 292) ∨ (s1 256 58 ≠ 4 ∧ z2 = s1 256 58 ∧ s2 256 58 = s1 256 58 + 1 ∧ ∀ j : Nat, s2 292 j = if j = (s1 256 58).toNat then 0 else s1 292 j)) : z1 = z2 ∧ S1 s2 := by
  have g1 : (0 : Int) ≤ s 256 58 ∧ s 256 58 ≤ 4 := hG 256 58
  have a2 : s1 256 58 = s 256 58 := f1 256 58 (hL1 4155 (by decide))
  have b1 : s1 232 = s 232 := funext fun i => f1 232 i (hL1 2944 (by decide))
  have b2 := rows4 f1 (hL1 3072 (by decide))
  have b3 : s1 292 = s 292 := funext fun i => f1 292 i (hL1 6400 (by decide))
  have b4 : s1 293 = s 293 := funext fun i => f1 293 i (hL1 6464 (by decide))
  have d1 : s2 231 3 = s1 231 3 := f2 231 3 (hL2 2884 (by decide))
  have e1 : s2 232 = s1 232 := funext fun i => f2 232 i (hL2 2944 (by decide))
  have e2 := rows4 f2 (hL2 3072 (by decide))
  have e4 : s2 293 = s1 293 := funext fun i => f2 293 i (hL2 6464 (by decide))
  have h0 := h.1
  rcases x1 with ⟨k1, k2, k3⟩ | ⟨k1, k2, k3⟩ <;> rcases x2 with ⟨m1, m2, m3, m4⟩ | ⟨m1, m2, m3, m4⟩
  case inl.inl => exact ⟨by omega, h.cg (by omega) (by omega) (by rw [e1, b1]) (fun r j hr => (e2 r j hr).trans (b2 r j hr)) (by rw [m4, b3]) (by rw [e4, b4])⟩
  case inr.inr =>
    refine ⟨by omega, by omega, fun t t0 t1 => ?_⟩
    rw [m3, m4, e1, b1, e4, b4, a2, b3]
    refine ⟨fun z => (h.2 t t0 t1).1 (by omega), fun z => ?_, fun i i0 i1 => ?_⟩
    · by_cases e : t.toNat = (s 256 58).toNat
      · rw [if_pos e]; exact (h.2 t t0 t1).1 (by omega)
      · rw [if_neg e]; exact (h.2 t t0 t1).2.1 (by omega)
    · rw [e2 t.toNat i.toNat (by omega), b2 t.toNat i.toNat (by omega)]
      exact (h.2 t t0 t1).2.2 i i0 i1
  all_goals (exfalso; omega)
theorem S1.moment {L1 L2 : List Nat} {s s1 s2 : xS} {a b d z1 z2 : Int} (h : S1 s) (hm : s 1 4 = s 256 1) (hG : GI s) (f1 : FL L1 s s1) (f2 : FL L2 s1 s2) (hL1 : ∀ x ∈ [2884, 4155, 4098, 6400, 6464], x ∉ L1) (hL2 : ∀ x ∈ [2884, 4155, 2944, 3072], x ∉ L2) (x1 : MoC s s1 a b d z1) (x2 : MoR s1 s2 a b d z2) : z1 = z2 ∧ S1 s2 := by
  have g1 : (0 : Int) ≤ s 256 58 ∧ s 256 58 ≤ 4 := hG 256 58
  have a1 : s1 231 3 = s 231 3 := f1 231 3 (hL1 2884 (by decide))
  have a2 : s1 256 58 = s 256 58 := f1 256 58 (hL1 4155 (by decide))
  have a3 : s1 256 1 = s 256 1 := f1 256 1 (hL1 4098 (by decide))
  have b3 : s1 292 = s 292 := funext fun i => f1 292 i (hL1 6400 (by decide))
  have b4 : s1 293 = s 293 := funext fun i => f1 293 i (hL1 6464 (by decide))
  have d1 : s2 231 3 = s1 231 3 := f2 231 3 (hL2 2884 (by decide))
  have d2 : s2 256 58 = s1 256 58 := f2 256 58 (hL2 4155 (by decide))
  have e1 : s2 232 = s1 232 := funext fun i => f2 232 i (hL2 2944 (by decide))
  have e2 := rows4 f2 (hL2 3072 (by decide))
  have h0 := h.1
  have g2 : (0 : Int) ≤ s 292 a.toNat ∧ s 292 a.toNat ≤ 5 := hG 292 a.toNat
  have g3 : (0 : Int) ≤ s 293 (5 * a + b).toNat ∧ s 293 (5 * a + b).toNat ≤ 3 := hG 293 (5 * a + b).toNat
  have hk : 0 ≤ a → a < s 256 58 → s 232 a.toNat = s 292 a.toNat ∧ (0 ≤ b → b ≤ 4 → (s 232 a.toNat ≤ b → s (233 + 1 + a.toNat) b.toNat = 0) ∧ (b < s 232 a.toNat → s (233 + 1 + a.toNat) b.toNat = s 293 (5 * a + b).toNat)) := fun u v => ⟨(h.2 a u (by omega)).2.1 v, fun y w => (h.2 a u (by omega)).2.2 b y w⟩
  unfold MoC at x1
  unfold MoR at x2
  rw [a2, a3, b3, b4] at x2
  rcases x1 with ⟨k1, k2, k3, k4⟩ | ⟨k1, k2, k3, k4, k5⟩ | ⟨k1, k2, k3, k4, k5, k6⟩ | ⟨k1, k2, k3, k4, k5, k6⟩ <;> rcases x2 with ⟨m1, m2, m3, m4⟩ | ⟨m1, m2, m3, m4, m5⟩ | ⟨m1, m2, m3, m4, m5, m6⟩ | ⟨m1, m2, m3, m4, m5, m6, m7⟩
  case inl.inl => exact ⟨by omega, h.cg (by omega) (by omega) (by rw [e1, k3]) (fun r j hr => (e2 r j hr).trans (k4 r j hr)) m3 m4⟩
  case inr.inl.inr.inl => exact ⟨by omega, h.cg (by omega) (by omega) (by rw [e1, k4]) (fun r j hr => (e2 r j hr).trans (k5 r j hr)) m4 m5⟩
  case inr.inr.inl.inr.inr.inl => exact ⟨by omega, h.cg (by omega) (by omega) (by rw [e1, k5]) (fun r j hr => (e2 r j hr).trans (k6 r j hr)) m5 m6⟩
  case inr.inr.inr.inr.inr.inr =>
    have hz : z1 = z2 := by omega
    refine ⟨hz, by omega, fun t t0 t1 => ?_⟩
    rw [d2, a2, e1, k5, m6]
    have ht := h.2 t t0 t1
    have hs : s 232 a.toNat = s 292 a.toNat := (hk (by omega) (by omega)).1
    by_cases e : t = a
    · subst e
      refine ⟨fun z => by exfalso; omega, fun z => by rw [hs], fun i i0 i1 => ?_⟩
      rw [e2 t.toNat i.toNat (by omega), k6 t.toNat i.toNat (by omega), m7]
      have hti := ht.2.2 i i0 i1
      have hM : (if t.toNat = t.toNat ∧ b = s 232 t.toNat then b + 1 else s 232 t.toNat) = if b = s 232 t.toNat then b + 1 else s 232 t.toNat := by
        by_cases hb : b = s 232 t.toNat
        · rw [if_pos ⟨rfl, hb⟩, if_pos hb]
        · rw [if_neg (fun z => hb z.2), if_neg hb]
      rw [hM]
      by_cases ei : i = b
      · have hX : (if t.toNat = t.toNat ∧ i.toNat = b.toNat then z1 else s (233 + 1 + t.toNat) i.toNat) = z1 := if_pos ⟨rfl, by rw [ei]⟩
        have hY : (if (5 * t + i).toNat = (5 * t + b).toNat then z2 else s 293 (5 * t + i).toNat) = z2 := if_pos (by rw [ei])
        rw [hX, hY]
        refine ⟨fun z => ?_, fun z => hz⟩
        exfalso
        by_cases hb : b = s 232 t.toNat
        · rw [if_pos hb] at z; omega
        · rw [if_neg hb] at z; omega
      · have hX : (if t.toNat = t.toNat ∧ i.toNat = b.toNat then z1 else s (233 + 1 + t.toNat) i.toNat) = s (233 + 1 + t.toNat) i.toNat := if_neg (fun w => ei (by omega))
        have hY : (if (5 * t + i).toNat = (5 * t + b).toNat then z2 else s 293 (5 * t + i).toNat) = s 293 (5 * t + i).toNat := if_neg (by omega)
        rw [hX, hY]
        by_cases hb : b = s 232 t.toNat
        · rw [if_pos hb]; exact ⟨fun z => hti.1 (by omega), fun z => hti.2 (by omega)⟩
        · rw [if_neg hb]; exact hti
    · rw [if_neg (fun z => e (by omega)), if_neg (fun z => e (by omega))]
      refine ⟨ht.1, ht.2.1, fun i i0 i1 => ?_⟩
      rw [e2 t.toNat i.toNat (by omega), k6 t.toNat i.toNat (by omega), m7, if_neg (fun z => e (by omega)), if_neg (by omega)]
      exact ht.2.2 i i0 i1
  all_goals (exfalso; omega)
theorem if_and_t {p q : Prop} [Decidable p] [Decidable q] {x y : Int} (hq : q) : (if p ∧ q then x else y) = if p then x else y := by
  by_cases h : p
  · rw [if_pos ⟨h, hq⟩, if_pos h]
  · rw [if_neg (fun z => h z.1), if_neg h]
theorem if_and_f {p q : Prop} [Decidable p] [Decidable q] {x y : Int} (hq : ¬ q) : (if p ∧ q then x else y) = y := if_neg (fun z => hq z.2)
theorem if_dup {p : Prop} [Decidable p] {x y w : Int} : (if p then x else if p then y else w) = if p then x else w := by
  by_cases h : p
  · rw [if_pos h, if_pos h]
  · rw [if_neg h, if_neg h, if_neg h]
