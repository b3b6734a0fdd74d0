/-! a clause, as the reference reads it -/
/-- behind the keyword at p's end: the rest's fault, its place, what lies behind it (p: the token behind the keyword) -/
def rsF (T : Nat → Int) (n p k R : Int) : Int := if f1f T n p k R ≠ 0 then f1f T n p k R else s2f T n (nx T n p) k
def rsP (T : Nat → Int) (n p k R : Int) : Int := if f1f T n p k R ≠ 0 then p else s2p T n (nx T n p) k
theorem rs_y {T : Nat → Int} {n p k R : Int} (h : f1f T n p k R ≠ 0) : rsF T n p k R = f1f T n p k R ∧ rsP T n p k R = p := ⟨if_pos h, if_pos h⟩
theorem rs_n {T : Nat → Int} {n p k R : Int} (h : f1f T n p k R = 0) : rsF T n p k R = s2f T n (nx T n p) k ∧ rsP T n p k R = s2p T n (nx T n p) k := ⟨if_neg (fun w => w h), if_neg (fun w => w h)⟩
theorem f1_1 {T : Nat → Int} {n p R : Int} : f1f T n p 1 R = numf T n p 0 5 2 2 := rfl
theorem f1_2 {T : Nat → Int} {n p R : Int} : f1f T n p 2 R = numf T n p 0 5 2 2 := rfl
theorem f1_3 {T : Nat → Int} {n p R : Int} : f1f T n p 3 R = numf T n p 0 5 2 2 := rfl
theorem f1_4 {T : Nat → Int} {n p R : Int} : f1f T n p 4 R = numf T n p 0 39 2 2 := rfl
theorem f1_5 {T : Nat → Int} {n p R : Int} : f1f T n p 5 R = numf T n p 1 20 2 2 := rfl
theorem f1_6' {T : Nat → Int} {n p R : Int} : f1f T n p 6 R = numf T n p 0 (R - 1) 2 3 := rfl
theorem wv_kd {T : Nat → Int} {n p : Int} (h : wv T n p ≠ 0) : kd T n p = 1 ∧ te T n p = rn T n 97 122 p := by
  by_cases hk : kd T n p = 1
  · exact ⟨hk, te_1 hk⟩
  · exact absurd (wv_0 hk) h
theorem numf_c {T : Nat → Int} {n p lo hi g flt : Int} (hf : 0 < flt) : 0 ≤ numf T n p lo hi g flt := by
  unfold numf
  split
  · omega
  · split
    · omega
    · split
      · omega
      · omega
theorem clf_i {T : Nat → Int} {n p i j R : Int} (h : 8 ≤ i ↔ 8 ≤ j) : clf T n p i R = clf T n p j R ∧ clp T n p i R = clp T n p j R := by
  unfold clf clp
  by_cases h8 : 8 ≤ i
  · rw [if_pos h8, if_pos (h.mp h8), if_pos h8, if_pos (h.mp h8)]; exact ⟨rfl, rfl⟩
  · rw [if_neg h8, if_neg (fun w => h8 (h.mpr w)), if_neg h8, if_neg (fun w => h8 (h.mpr w))]; exact ⟨rfl, rfl⟩
/-- the whole clause out of the rest -/
theorem cl_rs {T : Nat → Int} {n p i R : Int} (h : kwd T n p ≠ -1) (h8 : i < 8) : (rsF T n (nx T n p) (kwd T n p) R ≠ 0 → clf T n p i R = rsF T n (nx T n p) (kwd T n p) R ∧ clp T n p i R = rsP T n (nx T n p) (kwd T n p) R) ∧ (rsF T n (nx T n p) (kwd T n p) R = 0 → (ch T n (clq T n p) ≠ 59 → clf T n p i R = 1 ∧ clp T n p i R = clq T n p) ∧ (ch T n (clq T n p) = 59 → clf T n p i R = 0)) := by
  by_cases e1 : f1f T n (nx T n p) (kwd T n p) R = 0
  · obtain ⟨a1, a2⟩ := rs_n e1
    rw [a1, a2]
    by_cases e2 : s2f T n (nx T n (nx T n p)) (kwd T n p) = 0
    · exact ⟨fun w => absurd e2 w, fun _ => cl_3 h h8 e1 e2⟩
    · exact ⟨fun _ => cl_2 h h8 e1 e2, fun w => absurd w e2⟩
  · obtain ⟨a1, a2⟩ := rs_y e1
    rw [a1, a2]
    exact ⟨fun _ => cl_1 h h8 e1, fun w => absurd w e1⟩
/-- what the reference's readSense and readPair do: p where the token lies, k the clause -/
def RsR (s s' : xS) (T : Nat → Int) (n p k R at_ z : Int) : Prop :=
  z = rsF T n p k R ∧ (z ≠ 0 → s' 256 35 = rsP T n p k R) ∧ (z = 0 → sk T n (s' 256 36) = s2n T n (nx T n p) k ∧ s' 256 36 ≤ n ∧ 0 ≤ s' 256 36 ∧ s' 273 at_.toNat = nva T n p ∧ s' 274 at_.toNat = s2v T n (nx T n p) k ∧ s' 256 35 = s 256 35)
/-- rows of clauses are kept but at a -/
def RCk (s s0 : xS) (a : Int) : Prop := ∀ j : Nat, j ≠ a.toNat → s 272 j = s0 272 j ∧ s 273 j = s0 273 j ∧ s 274 j = s0 274 j
def LRC : List Nat := [5120, 5184, 5248]
theorem RCk.rf {s : xS} {a : Int} : RCk s s a := fun _ _ => ⟨rfl, rfl, rfl⟩
theorem RCk.fl {L : List Nat} {s s' s0 : xS} {a : Int} (h : RCk s s0 a) (f : FL L s s') (hL : ∀ x ∈ LRC, x ∉ L) : RCk s' s0 a := fun j hj => by
  rw [f 272 j (hL 5120 (by decide)), f 273 j (hL 5184 (by decide)), f 274 j (hL 5248 (by decide))]
  exact h j hj
theorem RCk.up {s s0 : xS} {a : Int} {q i : Nat} {v : Int} (h : RCk s s0 a) (hL : x_pl q i ∉ LRC) : RCk (x_up s q i v) s0 a := h.fl FL.one (fun x hx hm => hL (by rw [← List.mem_singleton.mp hm]; exact hx))
theorem RCk.st {s s0 : xS} {a : Int} {q : Nat} {v : Int} (h : RCk s s0 a) : RCk (x_up s q a.toNat v) s0 a := fun j hj => by
  have e : ∀ r, x_up s q a.toNat v r j = s r j := fun r => by
    by_cases er : r = q
    · rw [er, x_up_i hj]
    · exact x_up_q er
  rw [e, e, e]
  exact h j hj
/-- behind the keyword, all told -/
def RsQ (s' : xS) (T : Nat → Int) (n p R a f g0 : Int) : Prop := f = rsF T n (nx T n p) (kwd T n p) R ∧ (f ≠ 0 → s' 256 35 = rsP T n (nx T n p) (kwd T n p) R) ∧ (f = 0 → sk T n (s' 256 36) = clq T n p ∧ s' 256 36 ≤ n ∧ 0 ≤ s' 256 36 ∧ s' 273 a.toNat = nva T n (nx T n p) ∧ (kwd T n p ≤ 4 → s' 274 a.toNat = s2v T n (nx T n (nx T n p)) (kwd T n p)) ∧ s' 256 35 = g0)
theorem RsR.q {s s' : xS} {T : Nat → Int} {n p k R a z : Int} (h : RsR s s' T n (nx T n p) k R a z) (hk : k = kwd T n p) : RsQ s' T n p R a z (s 256 35) := by
  subst hk
  exact ⟨h.1, h.2.1, fun w => ⟨(h.2.2 w).1, (h.2.2 w).2.1, (h.2.2 w).2.2.1, (h.2.2 w).2.2.2.1, fun _ => (h.2.2 w).2.2.2.2.1, (h.2.2 w).2.2.2.2.2⟩⟩
theorem RsQ.n5 {s' : xS} {T : Nat → Int} {n p R a z g0 : Int} (hk : kwd T n p = 5 ∨ kwd T n p = 6) (hz : z = f1f T n (nx T n p) (kwd T n p) R) (hp : z ≠ 0 → s' 256 35 = nx T n p) (h0 : z = 0 → s' 256 36 = te T n (nx T n p) ∧ s' 256 36 ≤ n ∧ 0 ≤ s' 256 36 ∧ s' 273 a.toNat = nva T n (nx T n p) ∧ s' 256 35 = g0) : RsQ s' T n p R a z g0 := by
  by_cases e : f1f T n (nx T n p) (kwd T n p) R = 0
  · obtain ⟨a1, a2⟩ := rs_n e
    have s5 := s2_5 T n (nx T n (nx T n p)) (k := kwd T n p) (by omega)
    refine ⟨by omega, fun w => by omega, fun w => ?_⟩
    obtain ⟨b1, b2, b3, b4, b5⟩ := h0 w
    refine ⟨?_, b2, b3, b4, fun w => by omega, b5⟩
    unfold clq
    rw [b1, s5.2.2]
    rfl
  · obtain ⟨a1, a2⟩ := rs_y e
    exact ⟨by omega, fun w => by rw [hp w, a2], fun w => by omega⟩
/-- what the reference's readClause does -/
def ClR (s s' : xS) (a b z : Int) : Prop :=
  z = clf (s 283) (s 256 34) (sk (s 283) (s 256 34) (s 256 36)) (8 * b) (s 256 17) ∧
  (z ≠ 0 → s' 256 35 = clp (s 283) (s 256 34) (sk (s 283) (s 256 34) (s 256 36)) (8 * b) (s 256 17)) ∧
  (z = 0 → sk (s 283) (s 256 34) (s' 256 36) = cln (s 283) (s 256 34) (sk (s 283) (s 256 34) (s 256 36)) ∧ s' 256 36 ≤ s 256 34 ∧ s' 272 a.toNat + 1 = kwd (s 283) (s 256 34) (sk (s 283) (s 256 34) (s 256 36)) ∧ s' 273 a.toNat = nva (s 283) (s 256 34) (nx (s 283) (s 256 34) (sk (s 283) (s 256 34) (s 256 36))) ∧
    (kwd (s 283) (s 256 34) (sk (s 283) (s 256 34) (s 256 36)) ≤ 4 → s' 274 a.toNat = s2v (s 283) (s 256 34) (nx (s 283) (s 256 34) (nx (s 283) (s 256 34) (sk (s 283) (s 256 34) (s 256 36)))) (kwd (s 283) (s 256 34) (sk (s 283) (s 256 34) (s 256 36)))) ∧ s' 256 35 = s 256 35)
/-- the reference's rows of the first m clauses behind C -/
def RrT (s : xS) (T : Nat → Int) (n C m : Int) : Prop := ∀ j : Int, 0 ≤ j → j < m → s 272 (C + j).toNat + 1 = kwd T n (cps T n j.toNat) ∧ s 273 (C + j).toNat = nva T n (nx T n (cps T n j.toNat)) ∧ (kwd T n (cps T n j.toNat) ≤ 4 → s 274 (C + j).toNat = s2v T n (nx T n (nx T n (cps T n j.toNat))) (kwd T n (cps T n j.toNat)))
def RrI (s : xS) (T : Nat → Int) (n C R x f : Int) : Prop :=
  (f = 0 ∧ sk T n (s 256 36) = cps T n x.toNat ∧ s 256 36 ≤ n ∧ s 256 35 = -1 ∧ OkT T n R x ∧ RrT s T n C x) ∨
  (f ≠ 0 ∧ OkT T n R x ∧ cps T n x.toNat < n ∧ f = clf T n (cps T n x.toNat) x R ∧ s 256 35 = clp T n (cps T n x.toNat) x R)
theorem cps_sk {T : Nat → Int} {n : Int} (i : Nat) : sk T n (cps T n i) = cps T n i := by
  cases i with
  | zero => exact sk_sk
  | succ i => exact sk_sk
theorem RrI.step {s s1 s2 : xS} {T : Nat → Int} {n C R x b z : Int} (h : RrI s T n C R x 0) (hx : 0 ≤ x ∧ x ≤ 8) (hC : 0 ≤ C) (h36 : s1 256 36 = sk T n (s 256 36)) (hc : 0 ≤ ch T n (sk T n (s 256 36))) (e35 : s1 256 35 = s 256 35) (e2 : s1 272 = s 272) (e3 : s1 273 = s 273) (e4 : s1 274 = s 274) (c : ClR s1 s2 (C + x) b z) (hT : s1 283 = T) (hn : s1 256 34 = n) (hR : s1 256 17 = R) (hb : (b = 1 ∧ x = 8) ∨ (b = 0 ∧ x < 8)) (rk : RCk s2 s1 (C + x)) :
    (z = 0 → RrI s2 T n C R (x + 1) 0) ∧ (z ≠ 0 → RrI s2 T n C R x z) := by
  rcases h with ⟨_, a2, a3, a4, a5, a6⟩ | ⟨a1, _⟩
  · have hlt : cps T n x.toNat < n := by
      rw [a2] at hc
      unfold ch at hc
      split at hc
      · assumption
      · omega
    unfold ClR at c
    rw [hT, hn, hR, h36, a2, cps_sk] at c
    obtain ⟨i1, i2⟩ := clf_i (T := T) (n := n) (p := cps T n x.toNat) (i := 8 * b) (j := x) (R := R) (by omega)
    rw [i1, i2] at c
    obtain ⟨c1, c2, c3⟩ := c
    refine ⟨fun w => ?_, fun w => ?_⟩
    · obtain ⟨d1, d2, d3, d4, d5, d6⟩ := c3 w
      left
      refine ⟨rfl, ?_, d2, by omega, fun j j0 j1 => ?_, fun j j0 j1 => ?_⟩
      · rw [d1, show (x + 1).toNat = x.toNat + 1 by omega]; rfl
      · by_cases e : j = x
        · rw [e]; exact ⟨hlt, by omega⟩
        · exact a5 j j0 (by omega)
      · by_cases e : j = x
        · rw [e]; exact ⟨d3, d4, d5⟩
        · obtain ⟨k1, k2, k3⟩ := rk (C + j).toNat (by omega)
          rw [k1, k2, k3, e2, e3, e4]
          exact a6 j j0 (by omega)
    · right
      exact ⟨w, a5, hlt, c1, c2 w⟩
  · exact absurd rfl a1
/-- what the reference's rule does -/
def RuR (s s' : xS) (a z : Int) : Prop :=
  (¬ (0 ≤ a ∧ a ≤ 9) ∧ z = -1002 ∧ s' = s) ∨ ((0 ≤ a ∧ a ≤ 9) ∧ s 256 17 = 8 ∧ z = -1004 ∧ s' = s) ∨
  ((0 ≤ a ∧ a ≤ 9) ∧ s 256 17 ≠ 8 ∧ s' 256 34 = 0 ∧ (∀ j : Nat, (j : Int) < s 256 20 → s' 272 j = s 272 j ∧ s' 273 j = s 273 j ∧ s' 274 j = s 274 j) ∧ ∃ m : Int, (0 ≤ m ∧ m ≤ 8) ∧ OkT (s 283) (s 256 34) (s 256 17) m ∧
    ((s 256 34 ≤ cps (s 283) (s 256 34) m.toNat ∧ z = s 256 17 ∧ s' 256 35 = -1 ∧ s' 256 17 = s 256 17 + 1 ∧ s' 256 20 = s 256 20 + m ∧ (∀ j : Nat, s' 270 j = if j = (s 256 17).toNat then a else s 270 j) ∧ (∀ j : Nat, s' 271 j = if j = (s 256 17 + 1).toNat then s 256 20 + m else if j = (s 256 17).toNat then s 256 20 else s 271 j) ∧ RrT s' (s 283) (s 256 34) (s 256 20) m) ∨
     (cps (s 283) (s 256 34) m.toNat < s 256 34 ∧ clf (s 283) (s 256 34) (cps (s 283) (s 256 34) m.toNat) m (s 256 17) ≠ 0 ∧ z = -10 - clf (s 283) (s 256 34) (cps (s 283) (s 256 34) m.toNat) m (s 256 17) ∧ s' 256 35 = clp (s 283) (s 256 34) (cps (s 283) (s 256 34) m.toNat) m (s 256 17) ∧ s' 256 17 = s 256 17 ∧ s' 256 20 = s 256 20 ∧ s' 270 = s 270 ∧ s' 271 = s 271)))
/-- both readings stop at the same clause -/
theorem OkU {T : Nat → Int} {n R m m' : Int} (h : OkT T n R m) (h' : OkT T n R m') (hm : 0 ≤ m) (hm' : 0 ≤ m') (e : n ≤ cps T n m.toNat ∨ clf T n (cps T n m.toNat) m R ≠ 0) (e' : n ≤ cps T n m'.toNat ∨ clf T n (cps T n m'.toNat) m' R ≠ 0) : m = m' := by
  by_cases q : m < m'
  · have := h' m hm q; omega
  · by_cases q' : m' < m
    · have := h m' hm' q'; omega
    · omega
theorem RuR.bad {s0 s s' : xS} {a x f : Int} (h : RrI s (s0 283) (s0 256 34) (s0 256 20) (s0 256 17) x f) (hf : f ≠ 0) (ha : 0 ≤ a ∧ a ≤ 9) (hR : s0 256 17 ≠ 8) (hx : 0 ≤ x) (e4 : s' 256 34 = 0) (e5 : s' 256 35 = s 256 35) (e1 : s' 256 17 = s0 256 17) (e2 : s' 256 20 = s0 256 20) (e7 : s' 270 = s0 270) (e8 : s' 271 = s0 271) (hr : ∀ j : Nat, (j : Int) < s0 256 20 → s' 272 j = s0 272 j ∧ s' 273 j = s0 273 j ∧ s' 274 j = s0 274 j) : RuR s0 s' a (-10 - f) := by
  rcases h with ⟨a1, _⟩ | ⟨a1, a2, a3, a4, a5⟩
  · exact absurd a1 hf
  · exact Or.inr (Or.inr ⟨ha, hR, e4, hr, x, ⟨hx, OkT_8 a2⟩, a2, Or.inr ⟨a3, by omega, by omega, by omega, e1, e2, e7, e8⟩⟩)
theorem RuR.good {s0 s s' : xS} {a x : Int} (h : RrI s (s0 283) (s0 256 34) (s0 256 20) (s0 256 17) x 0) (hc : ch (s0 283) (s0 256 34) (sk (s0 283) (s0 256 34) (s 256 36)) < 0) (hT : ∀ j : Nat, 0 ≤ s0 283 j) (ha : 0 ≤ a ∧ a ≤ 9) (hR : s0 256 17 ≠ 8) (hx : 0 ≤ x) (e4 : s' 256 34 = 0) (e5 : s' 256 35 = s 256 35) (e1 : s' 256 17 = s0 256 17 + 1) (e2 : s' 256 20 = s0 256 20 + x)
    (e7 : ∀ j : Nat, s' 270 j = if j = (s0 256 17).toNat then a else s0 270 j) (e8 : ∀ j : Nat, s' 271 j = if j = (s0 256 17 + 1).toNat then s0 256 20 + x else if j = (s0 256 17).toNat then s0 256 20 else s0 271 j) (hr : ∀ j : Nat, (j : Int) < s0 256 20 → s' 272 j = s0 272 j ∧ s' 273 j = s0 273 j ∧ s' 274 j = s0 274 j) (g2 : s' 272 = s 272) (g3 : s' 273 = s 273) (g4 : s' 274 = s 274) : RuR s0 s' a (s0 256 17) := by
  rcases h with ⟨_, a2, a3, a4, a5, a6⟩ | ⟨a1, _⟩
  · refine Or.inr (Or.inr ⟨ha, hR, e4, hr, x, ⟨hx, OkT_8 a5⟩, a5, Or.inl ⟨?_, rfl, by omega, e1, e2, e7, e8, fun j j0 j1 => ?_⟩⟩)
    · rw [a2] at hc
      have := hT (cps (s0 283) (s0 256 34) x.toNat).toNat
      unfold ch at hc
      split at hc <;> omega
    · rw [g2, g3, g4]; exact a6 j j0 j1
  · exact absurd rfl a1
