/-! both givings: pictures, marks, keys, editions -/
def GiX (s s' : xS) (a b e n z : Int) : Prop := (z < 0 → s' 51 = s 51 ∧ s' 52 = s 52 ∧ s' 54 = s 54 ∧ s' 55 = s 55) ∧ (0 ≤ z → ∀ j : Nat, s' 51 j = (if j = z.toNat then a else s 51 j) ∧ s' 52 j = (if j = z.toNat then b else s 52 j) ∧ s' 54 j = (if j = z.toNat then e else s 54 j) ∧ s' 55 j = (if j = z.toNat then n else s 55 j))
def GiY (s s' : xS) (a b e n z : Int) : Prop := (z < 0 → s' 264 = s 264 ∧ s' 265 = s 265 ∧ s' 267 = s 267 ∧ s' 268 = s 268) ∧ (0 ≤ z → ∀ j : Nat, s' 264 j = (if j = z.toNat then a else s 264 j) ∧ s' 265 j = (if j = z.toNat then b else s 265 j) ∧ s' 267 j = (if j = z.toNat then e else s 267 j) ∧ s' 268 j = (if j = z.toNat then n else s 268 j))
theorem GiX.pre {L : List Nat} {s0 s s' : xS} {a b e n n' z : Int} (h : GiX s s' a b e n z) (f : FL L s0 s) (hL : ∀ x ∈ [768, 832, 960, 1024], x ∉ L) (hn : n = n') : GiX s0 s' a b e n' z := by
  have a1 : s 51 = s0 51 := funext fun i => f 51 i (hL 768 (by decide))
  have a2 : s 52 = s0 52 := funext fun i => f 52 i (hL 832 (by decide))
  have a4 : s 54 = s0 54 := funext fun i => f 54 i (hL 960 (by decide))
  have a5 : s 55 = s0 55 := funext fun i => f 55 i (hL 1024 (by decide))
  subst hn
  unfold GiX at h ⊢
  rw [a1, a2, a4, a5] at h
  exact h
def G3 (s : xS) : Prop := s 46 3 = s 256 6 ∧ ∀ g : Int, 0 ≤ g → g ≤ 119 → g < s 50 6 → (s 51 g.toNat = s 264 g.toNat ∧ s 52 g.toNat = s 265 g.toNat ∧ s 54 g.toNat = s 267 g.toNat ∧ s 55 g.toNat = s 268 g.toNat) ∧ s 51 g.toNat < s 46 3 ∧ tdC s (s 55 g.toNat) (s 52 g.toNat) ∧ s 55 g.toNat ≤ s 0 10
def LG3 : List Nat := [452, 4103, 711, 768, 832, 960, 1024, 4608, 4672, 4800, 4864, 11, 69, 128]
theorem G3.cg {s s' : xS} (h : G3 s) (a0 : s' 46 3 = s 46 3) (a1 : s' 256 6 = s 256 6) (a2 : s' 50 6 = s 50 6) (b1 : s' 51 = s 51) (b2 : s' 52 = s 52) (b4 : s' 54 = s 54) (b5 : s' 55 = s 55) (c1 : s' 264 = s 264) (c2 : s' 265 = s 265) (c4 : s' 267 = s 267) (c5 : s' 268 = s 268) (d0 : s 0 10 ≤ s' 0 10) (d1 : s 1 4 ≤ s' 1 4) (d2 : ∀ m : Int, 0 ≤ m → m < s 1 4 → s' 2 m.toNat = s 2 m.toNat) : G3 s' := by
  refine ⟨by rw [a0, a1]; exact h.1, fun g g0 g1 g2 => ?_⟩
  rw [a2] at g2
  obtain ⟨k1, k2, ⟨⟨k3, k4⟩, k5⟩, k6⟩ := h.2 g g0 g1 g2
  rw [b1, b2, b4, b5, c1, c2, c4, c5, a0]
  exact ⟨k1, k2, ⟨⟨k3, by omega⟩, by rw [d2 _ k3 k4]; exact k5⟩, by omega⟩
theorem G3.fl {L : List Nat} {s s' : xS} (h : G3 s) (f : FL L s s') (hL : ∀ x ∈ LG3, x ∉ L) : G3 s' :=
  h.cg (f 46 3 (hL 452 (by decide))) (f 256 6 (hL 4103 (by decide))) (f 50 6 (hL 711 (by decide))) (funext fun i => f 51 i (hL 768 (by decide))) (funext fun i => f 52 i (hL 832 (by decide))) (funext fun i => f 54 i (hL 960 (by decide))) (funext fun i => f 55 i (hL 1024 (by decide))) (funext fun i => f 264 i (hL 4608 (by decide))) (funext fun i => f 265 i (hL 4672 (by decide))) (funext fun i => f 267 i (hL 4800 (by decide))) (funext fun i => f 268 i (hL 4864 (by decide))) (by rw [f 0 10 (hL 11 (by decide))]; exact Int.le_refl _) (by rw [f 1 4 (hL 69 (by decide))]; exact Int.le_refl _) (fun m _ _ => f 2 _ (hL 128 (by decide)))
/-- but for the edition, the marks -/
theorem G3.fl2 {L : List Nat} {s s' : xS} (h : G3 s) (f : FL L s s') (hL : ∀ x ∈ [452, 4103, 711, 768, 832, 960, 1024, 4608, 4672, 4800, 4864], x ∉ L) (d0 : s 0 10 ≤ s' 0 10) (d1 : s 1 4 ≤ s' 1 4) (d2 : ∀ m : Int, 0 ≤ m → m < s 1 4 → s' 2 m.toNat = s 2 m.toNat) : G3 s' :=
  h.cg (f 46 3 (hL 452 (by decide))) (f 256 6 (hL 4103 (by decide))) (f 50 6 (hL 711 (by decide))) (funext fun i => f 51 i (hL 768 (by decide))) (funext fun i => f 52 i (hL 832 (by decide))) (funext fun i => f 54 i (hL 960 (by decide))) (funext fun i => f 55 i (hL 1024 (by decide))) (funext fun i => f 264 i (hL 4608 (by decide))) (funext fun i => f 265 i (hL 4672 (by decide))) (funext fun i => f 267 i (hL 4800 (by decide))) (funext fun i => f 268 i (hL 4864 (by decide))) d0 d1 d2
theorem G3.up {s : xS} {q i : Nat} {v : Int} (h : G3 s) (hL : x_pl q i ∉ LG3) : G3 (x_up s q i v) := h.fl FL.one (fun x hx hm => hL (by rw [← List.mem_singleton.mp hm]; exact hx))
theorem G3.ed {L1 L2 : List Nat} {s s1 s2 : xS} {z1 : Int} (h : G3 s) (f1 : FL L1 s s1) (f2 : FL L2 s1 s2) (hL1 : ∀ x ∈ [452, 4103, 711, 768, 832, 960, 1024, 4608, 4672, 4800, 4864, 69, 128], x ∉ L1) (hL2 : ∀ x ∈ LG3, x ∉ L2) (x1 : (s 0 10 = 9 ∧ z1 = -1003 ∧ s1 0 10 = 9) ∨ (s 0 10 < 9 ∧ z1 = s 0 10 + 1 ∧ s1 0 10 = z1)) : G3 s2 :=
  (h.fl2 f1 (fun x hx => hL1 x (by revert x; decide)) (by omega) (by rw [f1 1 4 (hL1 69 (by decide))]; exact Int.le_refl _) (fun m _ _ => f1 2 _ (hL1 128 (by decide)))).fl f2 hL2
theorem G3.mark {L1 L2 : List Nat} {s s1 s2 : xS} {a z1 : Int} (h : G3 s) (hG : GI s) (f1 : FL L1 s s1) (f2 : FL L2 s1 s2) (hL1 : ∀ x ∈ [452, 4103, 711, 768, 832, 960, 1024, 4608, 4672, 4800, 4864, 11], x ∉ L1) (hL2 : ∀ x ∈ LG3, x ∉ L2) (x1 : MkC s s1 a z1) : G3 s2 := by
  have g1 : (1 : Int) ≤ s 1 4 ∧ s 1 4 ≤ 40 := hG 1 4
  have e0 := f1 0 10 (hL1 11 (by decide))
  refine G3.fl ?_ f2 hL2
  unfold MkC at x1
  rcases x1 with ⟨k1, k2, k3, k4⟩ | ⟨k1, k2, k3, k4, k5⟩ | ⟨k1, k2, k3, k4, k5, k6⟩ | ⟨k1, k2, k3, k4, k5, k6⟩
  · exact h.fl2 f1 (fun x hx => hL1 x (by revert x; decide)) (by omega) (by omega) (fun m _ _ => by rw [k4])
  · exact h.fl2 f1 (fun x hx => hL1 x (by revert x; decide)) (by omega) (by omega) (fun m _ _ => by rw [k5])
  · exact h.fl2 f1 (fun x hx => hL1 x (by revert x; decide)) (by omega) (by omega) (fun m _ _ => by rw [k6])
  · exact h.fl2 f1 (fun x hx => hL1 x (by revert x; decide)) (by omega) (by omega) (fun m m0 m1 => by rw [k6, if_neg (by omega)])
/-- both pictures: how many -/
theorem G3.pic {L1 L2 : List Nat} {s s1 s2 : xS} (h : G3 s) (f1 : FL L1 s s1) (f2 : FL L2 s1 s2) (hL1 : ∀ x ∈ [4103, 711, 768, 832, 960, 1024, 4608, 4672, 4800, 4864, 11, 69, 128], x ∉ L1) (hL2 : ∀ x ∈ [452, 711, 768, 832, 960, 1024, 4608, 4672, 4800, 4864, 11, 69, 128], x ∉ L2) (e1 : s 46 3 ≤ s1 46 3) (e2 : s1 46 3 = s2 256 6) : G3 s2 := by
  have a1 : s2 46 3 = s1 46 3 := f2 46 3 (hL2 452 (by decide))
  refine ⟨by omega, fun g g0 g1 g2 => ?_⟩
  rw [f2 50 6 (hL2 711 (by decide)), f1 50 6 (hL1 711 (by decide))] at g2
  obtain ⟨k1, k2, k3, k6⟩ := h.2 g g0 g1 g2
  have b1 : s2 51 g.toNat = s 51 g.toNat := (f2 51 _ (hL2 768 (by decide))).trans (f1 51 _ (hL1 768 (by decide)))
  have b2 : s2 52 g.toNat = s 52 g.toNat := (f2 52 _ (hL2 832 (by decide))).trans (f1 52 _ (hL1 832 (by decide)))
  have b4 : s2 54 g.toNat = s 54 g.toNat := (f2 54 _ (hL2 960 (by decide))).trans (f1 54 _ (hL1 960 (by decide)))
  have b5 : s2 55 g.toNat = s 55 g.toNat := (f2 55 _ (hL2 1024 (by decide))).trans (f1 55 _ (hL1 1024 (by decide)))
  have c1 : s2 264 g.toNat = s 264 g.toNat := (f2 264 _ (hL2 4608 (by decide))).trans (f1 264 _ (hL1 4608 (by decide)))
  have c2 : s2 265 g.toNat = s 265 g.toNat := (f2 265 _ (hL2 4672 (by decide))).trans (f1 265 _ (hL1 4672 (by decide)))
  have c4 : s2 267 g.toNat = s 267 g.toNat := (f2 267 _ (hL2 4800 (by decide))).trans (f1 267 _ (hL1 4800 (by decide)))
  have c5 : s2 268 g.toNat = s 268 g.toNat := (f2 268 _ (hL2 4864 (by decide))).trans (f1 268 _ (hL1 4864 (by decide)))
  have d0 : s2 0 10 = s 0 10 := (f2 0 10 (hL2 11 (by decide))).trans (f1 0 10 (hL1 11 (by decide)))
  have d1 : s2 1 4 = s 1 4 := (f2 1 4 (hL2 69 (by decide))).trans (f1 1 4 (hL1 69 (by decide)))
  have d2 : s2 2 = s 2 := funext fun i => (f2 2 _ (hL2 128 (by decide))).trans (f1 2 _ (hL1 128 (by decide)))
  unfold tdC
  rw [b1, b2, b4, b5, c1, c2, c4, c5, d0, d1, d2]
  exact ⟨k1, by omega, k3, k6⟩
theorem G3.give {L1 L2 : List Nat} {s s1 s2 : xS} {a b d e z1 z2 : Int} (h : G3 s) (g1 : G1 s) (t : T0 s) (p : P1 s) (hG : GI s) (f1 : FL L1 s s1) (f2 : FL L2 s1 s2) (hL1 : ∀ x ∈ [452, 4103, 4097, 11, 69, 128, 4608, 4672, 4800, 4864], x ∉ L1) (hL2 : ∀ x ∈ [452, 4103, 711, 768, 832, 960, 1024, 11, 69, 128], x ∉ L2) (hz : z1 = z2) (x1 : GiC s s1 a b d e z1) (x2 : GiX s s1 a b e (s 0 10) z1) (x3 : GiY s1 s2 a b e (s1 256 0) z2) : G3 s2 := by
  subst hz
  have a0 : s1 46 3 = s 46 3 := f1 46 3 (hL1 452 (by decide))
  have a1 : s1 256 6 = s 256 6 := f1 256 6 (hL1 4103 (by decide))
  have a2 : s1 256 0 = s 256 0 := f1 256 0 (hL1 4097 (by decide))
  have a3 : s1 0 10 = s 0 10 := f1 0 10 (hL1 11 (by decide))
  have a4 : s1 1 4 = s 1 4 := f1 1 4 (hL1 69 (by decide))
  have a5 : s1 2 = s 2 := funext fun i => f1 2 i (hL1 128 (by decide))
  have c1 : s1 264 = s 264 := funext fun i => f1 264 i (hL1 4608 (by decide))
  have c2 : s1 265 = s 265 := funext fun i => f1 265 i (hL1 4672 (by decide))
  have c4 : s1 267 = s 267 := funext fun i => f1 267 i (hL1 4800 (by decide))
  have c5 : s1 268 = s 268 := funext fun i => f1 268 i (hL1 4864 (by decide))
  have d0 : s2 46 3 = s1 46 3 := f2 46 3 (hL2 452 (by decide))
  have d1 : s2 256 6 = s1 256 6 := f2 256 6 (hL2 4103 (by decide))
  have d2 : s2 50 6 = s1 50 6 := f2 50 6 (hL2 711 (by decide))
  have d3 : s2 0 10 = s1 0 10 := f2 0 10 (hL2 11 (by decide))
  have d4 : s2 1 4 = s1 1 4 := f2 1 4 (hL2 69 (by decide))
  have d5 : s2 2 = s1 2 := funext fun i => f2 2 i (hL2 128 (by decide))
  have e1 : s2 51 = s1 51 := funext fun i => f2 51 i (hL2 768 (by decide))
  have e2 : s2 52 = s1 52 := funext fun i => f2 52 i (hL2 832 (by decide))
  have e4 : s2 54 = s1 54 := funext fun i => f2 54 i (hL2 960 (by decide))
  have e5 : s2 55 = s1 55 := funext fun i => f2 55 i (hL2 1024 (by decide))
  have neg : z1 < 0 → s1 50 6 = s 50 6 → G3 s2 := by
    intro zn k3
    obtain ⟨u1, u2, u3, u4⟩ := x2.1 zn
    obtain ⟨v1, v2, v3, v4⟩ := x3.1 zn
    exact h.cg (d0.trans a0) (d1.trans a1) (d2.trans k3) (e1.trans u1) (e2.trans u2) (e4.trans u3) (e5.trans u4) (v1.trans c1) (v2.trans c2) (v3.trans c4) (v4.trans c5) (by omega) (by omega) (fun m _ _ => by rw [d5, a5])
  have h1 := h.1
  have t1 := t.1
  have t2 := t.2.1
  unfold GiC at x1
  rcases x1 with ⟨k1, k2, k3, -⟩ | ⟨k1, k2, k3, k4, -⟩ | ⟨k1, k2, k3, k4, k5, -⟩ | ⟨k1, k2, k3, k4, k5, -⟩
  · exact neg (by omega) k3
  · exact neg (by omega) k4
  · exact neg (by omega) k5
  · have gs : (0 : Int) ≤ s 50 6 ∧ s 50 6 ≤ 120 := hG 50 6
    have u := x2.2 (by omega)
    have v := x3.2 (by omega)
    refine ⟨by omega, fun g g0 g1 g2 => ?_⟩
    obtain ⟨u1, u2, u3, u4⟩ := u g.toNat
    obtain ⟨v1, v2, v3, v4⟩ := v g.toNat
    unfold tdC
    rw [e1, e2, e4, e5, u1, u2, u3, u4, v1, v2, v3, v4, c1, c2, c4, c5, d0, a0, d3, a3, d4, a4, d5, a5, a2]
    by_cases q : g = s 50 6
    · have hb := (p b (by omega) (by omega)).1
      have hb2 := ((t.2.2 b (by omega) (by have := (show (1 : Int) ≤ s 1 4 ∧ s 1 4 ≤ 40 from hG 1 4); omega)).1 (by omega)).1
      rw [if_pos (by omega), if_pos (by omega), if_pos (by omega), if_pos (by omega), if_pos (by omega), if_pos (by omega), if_pos (by omega), if_pos (by omega)]
      exact ⟨⟨rfl, rfl, rfl, t1⟩, by omega, ⟨⟨by omega, by omega⟩, by omega⟩, by omega⟩
    · rw [if_neg (by omega), if_neg (by omega), if_neg (by omega), if_neg (by omega), if_neg (by omega), if_neg (by omega), if_neg (by omega), if_neg (by omega)]
      exact h.2 g g0 g1 (by omega)
