/-! a clause of a rule, as its text spells it -/
/-- which clause: 1 key, 2 allow, 3 bar, 4 need, 5 most, 6 strike; -1 none -/
def kww (w : Int) : Int := if w = 8179 then 1 else if w = 776813 then 2 else if w = 1503 then 3 else if w = 279346 then 4 else if w = 267347 then 5 else if w = 283619210 then 6 else -1
def kwd (T : Nat → Int) (n p : Int) : Int := kww (wv T n p)
theorem kww_cs (w : Int) : (kww w = 1 ∧ w = 8179) ∨ (kww w = 2 ∧ w = 776813) ∨ (kww w = 3 ∧ w = 1503) ∨ (kww w = 4 ∧ w = 279346) ∨ (kww w = 5 ∧ w = 267347) ∨ (kww w = 6 ∧ w = 283619210) ∨ (kww w = -1 ∧ w ≠ 8179 ∧ w ≠ 776813 ∧ w ≠ 1503 ∧ w ≠ 279346 ∧ w ≠ 267347 ∧ w ≠ 283619210) := by
  unfold kww
  split
  · omega
  · split
    · omega
    · split
      · omega
      · split
        · omega
        · split
          · omega
          · split
            · omega
            · omega
theorem kwd_cs (T : Nat → Int) (n p : Int) : (kwd T n p = 1 ∧ wv T n p = 8179) ∨ (kwd T n p = 2 ∧ wv T n p = 776813) ∨ (kwd T n p = 3 ∧ wv T n p = 1503) ∨ (kwd T n p = 4 ∧ wv T n p = 279346) ∨ (kwd T n p = 5 ∧ wv T n p = 267347) ∨ (kwd T n p = 6 ∧ wv T n p = 283619210) ∨ (kwd T n p = -1 ∧ wv T n p ≠ 8179 ∧ wv T n p ≠ 776813 ∧ wv T n p ≠ 1503 ∧ wv T n p ≠ 279346 ∧ wv T n p ≠ 267347 ∧ wv T n p ≠ 283619210) := kww_cs (wv T n p)
/-- the sense: 0 keeps, 1 turns, 2 raises; -1 none -/
def snw (w : Int) : Int := if w = 5948362 then 0 else if w = 11055682 then 1 else if w = 259002919 then 2 else -1
def sns (T : Nat → Int) (n p : Int) : Int := snw (wv T n p)
theorem snw_cs (w : Int) : (snw w = 0 ∧ w = 5948362) ∨ (snw w = 1 ∧ w = 11055682) ∨ (snw w = 2 ∧ w = 259002919) ∨ (snw w = -1 ∧ w ≠ 5948362 ∧ w ≠ 11055682 ∧ w ≠ 259002919) := by
  unfold snw
  split
  · omega
  · split
    · omega
    · split
      · omega
      · omega
theorem sns_cs (T : Nat → Int) (n p : Int) : (sns T n p = 0 ∧ wv T n p = 5948362) ∨ (sns T n p = 1 ∧ wv T n p = 11055682) ∨ (sns T n p = 2 ∧ wv T n p = 259002919) ∨ (sns T n p = -1 ∧ wv T n p ≠ 5948362 ∧ wv T n p ≠ 11055682 ∧ wv T n p ≠ 259002919) := snw_cs (wv T n p)
/-- the first number's fault -/
def f1f (T : Nat → Int) (n p k R : Int) : Int := if k = 4 then numf T n p 0 39 2 2 else if k = 5 then numf T n p 1 20 2 2 else if k = 6 then numf T n p 0 (R - 1) 2 3 else numf T n p 0 5 2 2
/-- the rest: what it must be, its fault, its place, its number, the place behind it -/
def s2f (T : Nat → Int) (n p k : Int) : Int := if k = 1 then (if sns T n p = -1 then 1 else 0) else if k = 2 then (if wv T n p = 11438892 then numf T n (nx T n p) 0 39 2 2 else 1) else if k = 3 then (if wv T n p = 459818 then numf T n (nx T n p) 0 5 2 2 else 1) else if k = 4 then (if wv T n p = 459818 then numf T n (nx T n p) 0 39 2 2 else 1) else 0
def s2p (T : Nat → Int) (n p k : Int) : Int := if k = 1 then p else if k = 2 then (if wv T n p = 11438892 then nx T n p else p) else if wv T n p = 459818 then nx T n p else p
def s2v (T : Nat → Int) (n p k : Int) : Int := if k = 1 then sns T n p else if 2 ≤ k ∧ k ≤ 4 then nva T n (nx T n p) else -1
def s2n (T : Nat → Int) (n p k : Int) : Int := if k = 1 then nx T n p else if 2 ≤ k ∧ k ≤ 4 then nx T n (nx T n p) else p
theorem s2_1 (T : Nat → Int) (n p : Int) : (sns T n p ≠ -1 → s2f T n p 1 = 0 ∧ s2v T n p 1 = sns T n p ∧ s2n T n p 1 = nx T n p) ∧ (sns T n p = -1 → s2f T n p 1 = 1 ∧ s2p T n p 1 = p) := by
  unfold s2f s2v s2n s2p
  rw [if_pos rfl, if_pos rfl, if_pos rfl, if_pos rfl]
  exact ⟨fun h => ⟨if_neg h, rfl, rfl⟩, fun h => ⟨if_pos h, rfl⟩⟩
theorem s2_2 (T : Nat → Int) (n p : Int) : (wv T n p = 11438892 → s2f T n p 2 = numf T n (nx T n p) 0 39 2 2 ∧ s2p T n p 2 = nx T n p ∧ s2v T n p 2 = nva T n (nx T n p) ∧ s2n T n p 2 = nx T n (nx T n p)) ∧ (wv T n p ≠ 11438892 → s2f T n p 2 = 1 ∧ s2p T n p 2 = p) := by
  unfold s2f s2v s2n s2p
  exact ⟨fun h => ⟨by rw [if_neg (by decide), if_pos rfl, if_pos h], by rw [if_neg (by decide), if_pos rfl, if_pos h], rfl, rfl⟩, fun h => ⟨by rw [if_neg (by decide), if_pos rfl, if_neg h], by rw [if_neg (by decide), if_pos rfl, if_neg h]⟩⟩
theorem s2_3 (T : Nat → Int) (n p : Int) : (wv T n p = 459818 → s2f T n p 3 = numf T n (nx T n p) 0 5 2 2 ∧ s2p T n p 3 = nx T n p ∧ s2v T n p 3 = nva T n (nx T n p) ∧ s2n T n p 3 = nx T n (nx T n p)) ∧ (wv T n p ≠ 459818 → s2f T n p 3 = 1 ∧ s2p T n p 3 = p) := by
  unfold s2f s2v s2n s2p
  exact ⟨fun h => ⟨by rw [if_neg (by decide), if_neg (by decide), if_pos rfl, if_pos h], by rw [if_neg (by decide), if_neg (by decide), if_pos h], rfl, rfl⟩, fun h => ⟨by rw [if_neg (by decide), if_neg (by decide), if_pos rfl, if_neg h], by rw [if_neg (by decide), if_neg (by decide), if_neg h]⟩⟩
theorem s2_4 (T : Nat → Int) (n p : Int) : (wv T n p = 459818 → s2f T n p 4 = numf T n (nx T n p) 0 39 2 2 ∧ s2p T n p 4 = nx T n p ∧ s2v T n p 4 = nva T n (nx T n p) ∧ s2n T n p 4 = nx T n (nx T n p)) ∧ (wv T n p ≠ 459818 → s2f T n p 4 = 1 ∧ s2p T n p 4 = p) := by
  unfold s2f s2v s2n s2p
  exact ⟨fun h => ⟨by rw [if_neg (by decide), if_neg (by decide), if_neg (by decide), if_pos rfl, if_pos h], by rw [if_neg (by decide), if_neg (by decide), if_pos h], rfl, rfl⟩, fun h => ⟨by rw [if_neg (by decide), if_neg (by decide), if_neg (by decide), if_pos rfl, if_neg h], by rw [if_neg (by decide), if_neg (by decide), if_neg h]⟩⟩
theorem s2_5 (T : Nat → Int) (n p : Int) {k : Int} (hk : ¬ (1 ≤ k ∧ k ≤ 4)) : s2f T n p k = 0 ∧ s2v T n p k = -1 ∧ s2n T n p k = p := by
  unfold s2f s2v s2n
  exact ⟨by rw [if_neg (by omega), if_neg (by omega), if_neg (by omega), if_neg (by omega)], by rw [if_neg (by omega), if_neg (by omega)], by rw [if_neg (by omega), if_neg (by omega)]⟩
/-- the class's fault of the first number, the rule's number not yet looked at -/
def f1c (T : Nat → Int) (n p k : Int) : Int := if k = 4 then numf T n p 0 39 2 2 else if k = 5 then numf T n p 1 20 2 2 else if k = 6 then numf T n p 0 99 2 2 else numf T n p 0 5 2 2
theorem f1_ne {T : Nat → Int} {n p k R : Int} (h : k ≠ 6) : f1f T n p k R = f1c T n p k := by
  unfold f1f f1c
  by_cases h4 : k = 4
  · rw [if_pos h4, if_pos h4]
  · by_cases h5 : k = 5
    · rw [if_neg h4, if_pos h5, if_neg h4, if_pos h5]
    · rw [if_neg h4, if_neg h5, if_neg h, if_neg h4, if_neg h5, if_neg h]
theorem f1_6 {T : Nat → Int} {n p R : Int} : (f1c T n p 6 ≠ 0 → f1f T n p 6 R = f1c T n p 6) ∧ (f1c T n p 6 = 0 → 0 ≤ nva T n p ∧ (nva T n p < R → f1f T n p 6 R = 0) ∧ (R ≤ nva T n p → f1f T n p 6 R = 3)) := by
  show (numf T n p 0 99 2 2 ≠ 0 → numf T n p 0 (R - 1) 2 3 = numf T n p 0 99 2 2) ∧ (numf T n p 0 99 2 2 = 0 → 0 ≤ nva T n p ∧ (nva T n p < R → numf T n p 0 (R - 1) 2 3 = 0) ∧ (R ≤ nva T n p → numf T n p 0 (R - 1) 2 3 = 3))
  by_cases hk : kd T n p = 2
  · by_cases hl : 2 < te T n p - p
    · rw [numf_2 hk hl, numf_2 hk hl]; exact ⟨fun _ => rfl, fun h => by omega⟩
    · have h0 := (te_le (T := T) (n := n) (p := p)).1
      have hb := nv_d (x := te T n p) hk h0 (Int.le_refl _)
      have hb2 := hb.2.2.1 (by omega)
      rw [numf_0 hk hl ⟨hb.1, hb2⟩]
      refine ⟨fun h => absurd rfl h, fun _ => ⟨hb.1, fun h => ?_, fun h => ?_⟩⟩
      · unfold nva at h; exact numf_0 hk hl ⟨hb.1, by omega⟩
      · unfold nva at h; exact numf_3 hk hl (by omega)
  · rw [numf_1 hk, numf_1 hk]; exact ⟨fun _ => rfl, fun h => by omega⟩
/-- what the class's readFirst does -/
def FrC (s s' : xS) (a z : Int) : Prop := NmR (f1c (s 178) (s 177 1) (s 177 3) a) (nva (s 178) (s 177 1) (s 177 3)) (nx (s 178) (s 177 1) (s 177 3)) (s 177 3) (s 177 5) (s' 177 5) (s 177 6) (s' 177 6) (s' 177 3) z
/-- what the class's readSense and readSecond do -/
def SeR (sf sp sv sn p f f' g g' q' z : Int) : Prop := (f ≠ 0 ∧ f' = f ∧ g' = g) ∨ (f = 0 ∧ sf = 0 ∧ z = sv ∧ f' = f ∧ g' = g ∧ q' = sn) ∨ (f = 0 ∧ sf ≠ 0 ∧ f' = sf ∧ g' = sp)
def SeC (s s' : xS) (k z : Int) : Prop := SeR (s2f (s 178) (s 177 1) (s 177 3) k) (s2p (s 178) (s 177 1) (s 177 3) k) (s2v (s 178) (s 177 1) (s 177 3) k) (s2n (s 178) (s 177 1) (s 177 3) k) (s 177 3) (s 177 5) (s' 177 5) (s 177 6) (s' 177 6) (s' 177 3) z
/-- the last token's place; the clause's fault, its place, the place behind it -/
def clq (T : Nat → Int) (n p : Int) : Int := s2n T n (nx T n (nx T n p)) (kwd T n p)
def clf (T : Nat → Int) (n p i R : Int) : Int := if kwd T n p = -1 then 1 else if 8 ≤ i then 4 else if f1f T n (nx T n p) (kwd T n p) R ≠ 0 then f1f T n (nx T n p) (kwd T n p) R else if s2f T n (nx T n (nx T n p)) (kwd T n p) ≠ 0 then s2f T n (nx T n (nx T n p)) (kwd T n p) else if ch T n (clq T n p) ≠ 59 then 1 else 0
def clp (T : Nat → Int) (n p i R : Int) : Int := if kwd T n p = -1 then p else if 8 ≤ i then p else if f1f T n (nx T n p) (kwd T n p) R ≠ 0 then nx T n p else if s2f T n (nx T n (nx T n p)) (kwd T n p) ≠ 0 then s2p T n (nx T n (nx T n p)) (kwd T n p) else clq T n p
def cln (T : Nat → Int) (n p : Int) : Int := sk T n (clq T n p + 1)
/-- where the i-th clause begins -/
def cps (T : Nat → Int) (n : Int) : Nat → Int
  | 0 => sk T n 0
  | i + 1 => cln T n (cps T n i)
theorem cl_k {T : Nat → Int} {n p i R : Int} (h : kwd T n p = -1) : clf T n p i R = 1 ∧ clp T n p i R = p := ⟨if_pos h, if_pos h⟩
theorem cl_8 {T : Nat → Int} {n p i R : Int} (h : kwd T n p ≠ -1) (h8 : 8 ≤ i) : clf T n p i R = 4 ∧ clp T n p i R = p := by
  unfold clf clp
  rw [if_neg h, if_pos h8, if_neg h, if_pos h8]
  exact ⟨rfl, rfl⟩
theorem cl_1 {T : Nat → Int} {n p i R : Int} (h : kwd T n p ≠ -1) (h8 : i < 8) (h1 : f1f T n (nx T n p) (kwd T n p) R ≠ 0) : clf T n p i R = f1f T n (nx T n p) (kwd T n p) R ∧ clp T n p i R = nx T n p := by
  unfold clf clp
  rw [if_neg h, if_neg (by omega), if_pos h1, if_neg h, if_neg (by omega), if_pos h1]
  exact ⟨rfl, rfl⟩
theorem cl_2 {T : Nat → Int} {n p i R : Int} (h : kwd T n p ≠ -1) (h8 : i < 8) (h1 : f1f T n (nx T n p) (kwd T n p) R = 0) (h2 : s2f T n (nx T n (nx T n p)) (kwd T n p) ≠ 0) : clf T n p i R = s2f T n (nx T n (nx T n p)) (kwd T n p) ∧ clp T n p i R = s2p T n (nx T n (nx T n p)) (kwd T n p) := by
  unfold clf clp
  rw [if_neg h, if_neg (by omega), if_neg (by omega), if_pos h2, if_neg h, if_neg (by omega), if_neg (by omega), if_pos h2]
  exact ⟨rfl, rfl⟩
theorem cl_3 {T : Nat → Int} {n p i R : Int} (h : kwd T n p ≠ -1) (h8 : i < 8) (h1 : f1f T n (nx T n p) (kwd T n p) R = 0) (h2 : s2f T n (nx T n (nx T n p)) (kwd T n p) = 0) : (ch T n (clq T n p) ≠ 59 → clf T n p i R = 1 ∧ clp T n p i R = clq T n p) ∧ (ch T n (clq T n p) = 59 → clf T n p i R = 0) := by
  have e1 : clf T n p i R = if ch T n (clq T n p) ≠ 59 then 1 else 0 := by unfold clf; rw [if_neg h, if_neg (by omega), if_neg (by omega), if_neg (by omega)]
  have e2 : clp T n p i R = clq T n p := by unfold clp; rw [if_neg h, if_neg (by omega), if_neg (by omega), if_neg (by omega)]
  rw [e1, e2]
  exact ⟨fun h => ⟨if_pos h, rfl⟩, fun h => if_neg (fun w => w h)⟩
theorem nx_59 {T : Nat → Int} {n q : Int} (h : ch T n q = 59) : nx T n q = sk T n (q + 1) := by
  have kc := kd_cs (T := T) (n := n) (p := q)
  have hk : kd T n q = 3 := by
    unfold ch at h
    split at h <;> omega
  unfold nx
  rw [te_3 hk]
/-- the class's way through a clause, all told -/
theorem cl_fin {T : Nat → Int} {n p i R k f1 f2 f3 f4 g0 g1 g2 g3 g4 q1 q3 q4 z1 z2 : Int} (hk : k = kwd T n p) (h1 : k ≠ -1) (h8 : i < 8)
    (r1 : NmR (f1c T n (nx T n p) k) (nva T n (nx T n p)) (nx T n (nx T n p)) (nx T n p) 0 f1 g0 g1 q1 z1)
    (rs : (k = 6 → R ≤ z1 → (f1 ≠ 0 ∧ f2 = f1 ∧ g2 = g1) ∨ (f1 = 0 ∧ f2 = 3 ∧ g2 = nx T n p)) ∧ (¬ (k = 6 ∧ R ≤ z1) → f2 = f1 ∧ g2 = g1)) (hR : 0 ≤ R)
    (r2 : SeR (s2f T n q1 k) (s2p T n q1 k) (s2v T n q1 k) (s2n T n q1 k) q1 f2 f3 g2 g3 q3 z2)
    (r3 : (f3 ≠ 0 ∧ f4 = f3 ∧ g4 = g3 ∧ q4 = q3) ∨ (f3 = 0 ∧ ch T n q3 = 59 ∧ f4 = f3 ∧ g4 = g3 ∧ q4 = nx T n q3) ∨ (f3 = 0 ∧ ¬ ch T n q3 = 59 ∧ f4 = 1 ∧ g4 = q3 ∧ q4 = q3)) :
    (clf T n p i R = 0 ∧ f4 = 0 ∧ g4 = g0 ∧ q4 = cln T n p ∧ z1 = nva T n (nx T n p) ∧ z2 = s2v T n (nx T n (nx T n p)) k) ∨ (clf T n p i R ≠ 0 ∧ f4 = clf T n p i R ∧ g4 = clp T n p i R) := by
  subst hk
  unfold NmR at r1
  by_cases e1 : f1c T n (nx T n p) (kwd T n p) = 0
  · have r1 : z1 = nva T n (nx T n p) ∧ f1 = 0 ∧ g1 = g0 ∧ q1 = nx T n (nx T n p) := by omega
    have e2 : f1f T n (nx T n p) (kwd T n p) R = 0 ∧ f2 = 0 ∧ g2 = g0 ∨ f1f T n (nx T n p) (kwd T n p) R = 3 ∧ f2 = 3 ∧ g2 = nx T n p := by
      by_cases e6 : kwd T n p = 6
      · rw [e6] at e1 rs ⊢
        have h6 := (f1_6 (T := T) (n := n) (p := nx T n p) (R := R)).2 e1
        by_cases eR : R ≤ z1
        · have := rs.1 rfl eR
          have := h6.2.2 (by omega)
          omega
        · have := rs.2 (by omega)
          have := h6.2.1 (by omega)
          omega
      · have := rs.2 (by omega)
        rw [f1_ne e6]
        omega
    rcases e2 with ⟨e2, e3, e4⟩ | ⟨e2, e3, e4⟩
    · rw [r1.2.2.2] at r2
      unfold SeR at r2
      by_cases e5 : s2f T n (nx T n (nx T n p)) (kwd T n p) = 0
      · have r2 : z2 = s2v T n (nx T n (nx T n p)) (kwd T n p) ∧ f3 = 0 ∧ g3 = g0 ∧ q3 = clq T n p := by unfold clq; omega
        have c3 := cl_3 (i := i) h1 h8 e2 e5
        rw [r2.2.2.2] at r3
        by_cases e9 : ch T n (clq T n p) = 59
        · left
          have := c3.2 e9
          have e10 := nx_59 e9
          refine ⟨this, by omega, by omega, ?_, r1.1, r2.1⟩
          unfold cln
          omega
        · right
          have := c3.1 e9
          omega
      · right
        have := cl_2 (i := i) h1 h8 e2 e5
        omega
    · right
      have := cl_1 (i := i) (R := R) h1 h8 (by omega)
      unfold SeR at r2
      omega
  · have e2 : f1f T n (nx T n p) (kwd T n p) R = f1c T n (nx T n p) (kwd T n p) := by
      by_cases e6 : kwd T n p = 6
      · rw [e6] at e1 ⊢
        exact (f1_6 (T := T) (n := n) (p := nx T n p) (R := R)).1 e1
      · exact f1_ne e6
    have r1 : z1 = -1 ∧ f1 = f1c T n (nx T n p) (kwd T n p) ∧ g1 = nx T n p := by omega
    have e3 : f2 = f1 ∧ g2 = g1 := rs.2 (by omega)
    right
    have := cl_1 (i := i) (R := R) h1 h8 (by omega)
    unfold SeR at r2
    omega
/-- what the class's readClause does -/
def ClC (s s' : xS) (i : Int) : Prop :=
  (clf (s 178) (s 177 1) (s 177 3) i (s 179 5) = 0 ∧ s' 177 5 = 0 ∧ s' 177 6 = s 177 6 ∧ s' 177 3 = cln (s 178) (s 177 1) (s 177 3) ∧ s' (182 + 1 + (s 179 5).toNat) i.toNat = kwd (s 178) (s 177 1) (s 177 3) ∧ s' (191 + 1 + (s 179 5).toNat) i.toNat = nva (s 178) (s 177 1) (nx (s 178) (s 177 1) (s 177 3)) ∧ s' (200 + 1 + (s 179 5).toNat) i.toNat = s2v (s 178) (s 177 1) (nx (s 178) (s 177 1) (nx (s 178) (s 177 1) (s 177 3))) (kwd (s 178) (s 177 1) (s 177 3))) ∨
  (clf (s 178) (s 177 1) (s 177 3) i (s 179 5) ≠ 0 ∧ s' 177 5 = clf (s 178) (s 177 1) (s 177 3) i (s 179 5) ∧ s' 177 6 = clp (s 178) (s 177 1) (s 177 3) i (s 179 5))
/-- rows are kept but at a in those of rule R -/
def RKp (s s0 : xS) (R a : Int) : Prop := ∀ r j : Nat, 183 ≤ r → r ≤ 208 → (j ≠ a.toNat ∨ (r ≠ 182 + 1 + R.toNat ∧ r ≠ 191 + 1 + R.toNat ∧ r ≠ 200 + 1 + R.toNat)) → s r j = s0 r j
theorem RKp.rf {s : xS} {R a : Int} : RKp s s R a := fun _ _ _ _ _ => rfl
def LRK : List Nat := [1600, 1664, 1728, 1792, 1856]
theorem LRK_in {r j : Nat} (h1 : 183 ≤ r) (h2 : r ≤ 208) : x_pl r j ∈ LRK := by
  rcases (show r ≤ 190 ∨ r = 191 ∨ (192 ≤ r ∧ r ≤ 199) ∨ r = 200 ∨ 201 ≤ r by omega) with h | h | h | h | h
  · rw [(gr_183 j h1 h).2.2]; decide
  · subst h; exact (show 1664 ∈ LRK from by decide)
  · rw [(gr_192 j h.1 h.2).2.2]; decide
  · subst h; exact (show 1792 ∈ LRK from by decide)
  · rw [(gr_201 j h h2).2.2]; decide
theorem RKp.fl {L : List Nat} {s s' s0 : xS} {R a : Int} (h : RKp s s0 R a) (f : FL L s s') (hL : ∀ x ∈ LRK, x ∉ L) : RKp s' s0 R a := fun r j h1 h2 hj => (f r j (hL _ (LRK_in h1 h2))).trans (h r j h1 h2 hj)
theorem RKp.up {s s0 : xS} {R a : Int} {q i : Nat} {v : Int} (h : RKp s s0 R a) (hL : x_pl q i ∉ LRK) : RKp (x_up s q i v) s0 R a := h.fl FL.one (fun x hx hm => hL (by rw [← List.mem_singleton.mp hm]; exact hx))
theorem RKp.st {s s0 : xS} {R a : Int} {q : Nat} {v : Int} (h : RKp s s0 R a) (hq : q = 182 + 1 + R.toNat ∨ q = 191 + 1 + R.toNat ∨ q = 200 + 1 + R.toNat) : RKp (x_up s q a.toNat v) s0 R a := fun r j h1 h2 hj => by
  by_cases e : r = q
  · have hj2 : j ≠ a.toNat := by omega
    rw [e, x_up_i hj2, ← e]; exact h r j h1 h2 hj
  · rw [x_up_q e]; exact h r j h1 h2 hj
/-- the first m clauses are good -/
def OkT (T : Nat → Int) (n R m : Int) : Prop := ∀ j : Int, 0 ≤ j → j < m → cps T n j.toNat < n ∧ clf T n (cps T n j.toNat) j R = 0
/-- the rows of rule R hold them -/
def RwT (s : xS) (T : Nat → Int) (n R m : Int) : Prop := ∀ j : Int, 0 ≤ j → j < m → s (182 + 1 + R.toNat) j.toNat = kwd T n (cps T n j.toNat) ∧ s (191 + 1 + R.toNat) j.toNat = nva T n (nx T n (cps T n j.toNat)) ∧ s (200 + 1 + R.toNat) j.toNat = s2v T n (nx T n (nx T n (cps T n j.toNat))) (kwd T n (cps T n j.toNat))
def RdI (s : xS) (T : Nat → Int) (n R x : Int) : Prop :=
  (s 177 5 = 0 ∧ s 177 6 = -1 ∧ s 177 3 = cps T n x.toNat ∧ OkT T n R x ∧ RwT s T n R x) ∨
  (1 ≤ x ∧ OkT T n R (x - 1) ∧ cps T n (x - 1).toNat < n ∧ clf T n (cps T n (x - 1).toNat) (x - 1) R ≠ 0 ∧ s 177 5 = clf T n (cps T n (x - 1).toNat) (x - 1) R ∧ s 177 6 = clp T n (cps T n (x - 1).toNat) (x - 1) R)
/-- rows of other rules -/
def OtR (s s0 : xS) (R : Int) : Prop := ∀ r j : Nat, 183 ≤ r → r ≤ 208 → (r ≠ 182 + 1 + R.toNat ∧ r ≠ 191 + 1 + R.toNat ∧ r ≠ 200 + 1 + R.toNat) → s r j = s0 r j
theorem RdI.step {s s' : xS} {T : Nat → Int} {n R x : Int} (h : RdI s T n R x) (hT : s 178 = T) (hn : s 177 1 = n) (hR : s 179 5 = R) (hR2 : 0 ≤ R ∧ R ≤ 7) (hx : 0 ≤ x) (h5 : s 177 5 = 0) (hk : kd T n (s 177 3) ≠ 0) (c : s 177 5 = 0 → ClC s s' x) (rk : RKp s' s R x) : RdI s' T n R (x + 1) := by
  have c := c h5
  unfold ClC at c
  rw [hT, hn, hR] at c
  rcases h with ⟨_, a2, a3, a4, a5⟩ | ⟨a1, a2, a3, a4, a5, a6⟩
  · have hlt : cps T n x.toNat < n := by
      rcases kd_cs (T := T) (n := n) (p := s 177 3) with q | q | q | q <;> omega
    rw [a3] at c
    rcases c with ⟨c1, c2, c3, c4, c5, c6, c7⟩ | ⟨c1, c2, c3⟩
    · left
      refine ⟨c2, by omega, ?_, fun j j0 j1 => ?_, fun j j0 j1 => ?_⟩
      · rw [c4, show (x + 1).toNat = x.toNat + 1 by omega]; rfl
      · by_cases e : j = x
        · rw [e]; exact ⟨hlt, c1⟩
        · exact a4 j j0 (by omega)
      · by_cases e : j = x
        · rw [e]; exact ⟨c5, c6, c7⟩
        · have hj : j.toNat ≠ x.toNat := by omega
          rw [rk _ _ (by omega) (by omega) (Or.inl hj), rk _ _ (by omega) (by omega) (Or.inl hj), rk _ _ (by omega) (by omega) (Or.inl hj)]
          exact a5 j j0 (by omega)
    · right
      rw [show x + 1 - 1 = x by omega]
      exact ⟨by omega, a4, hlt, c1, c2, c3⟩
  · exact absurd h5 (by omega)
/-- what the class's reading of a rule does -/
def RdC (s s' : xS) (e : Int) : Prop := ∃ m : Int, (0 ≤ m ∧ m ≤ 8) ∧ OkT (s 178) (s 177 1) (s 179 5) m ∧ OtR s' s (s 179 5) ∧
  ((s 177 1 ≤ cps (s 178) (s 177 1) m.toNat ∧ s' 177 5 = 0 ∧ s' 177 6 = -1 ∧ s' 179 5 = s 179 5 + 1 ∧ (∀ j : Nat, s' 180 j = if j = (s 179 5).toNat then e else s 180 j) ∧ (∀ j : Nat, s' 181 j = if j = (s 179 5).toNat then m else s 181 j) ∧ RwT s' (s 178) (s 177 1) (s 179 5) m) ∨
   (cps (s 178) (s 177 1) m.toNat < s 177 1 ∧ clf (s 178) (s 177 1) (cps (s 178) (s 177 1) m.toNat) m (s 179 5) ≠ 0 ∧ s' 177 5 = clf (s 178) (s 177 1) (cps (s 178) (s 177 1) m.toNat) m (s 179 5) ∧ s' 177 6 = clp (s 178) (s 177 1) (cps (s 178) (s 177 1) m.toNat) m (s 179 5) ∧ s' 179 5 = s 179 5 ∧ s' 180 = s 180 ∧ s' 181 = s 181))
theorem OkT_8 {T : Nat → Int} {n R m : Int} (h : OkT T n R m) : m ≤ 8 := by
  by_cases e : m ≤ 8
  · exact e
  · exfalso
    have h8 := (h 8 (by omega) (by omega)).2
    by_cases hk : kwd T n (cps T n (8 : Int).toNat) = -1
    · have := (cl_k (i := 8) (R := R) hk).1; omega
    · have := (cl_8 (R := R) hk (Int.le_refl 8)).1; omega
theorem FL.rows {L : List Nat} {s s' : xS} (f : FL L s s') (hL : ∀ x ∈ LRK, x ∉ L) : ∀ r j : Nat, 183 ≤ r → r ≤ 208 → s' r j = s r j := fun r j h1 h2 => f r j (hL _ (LRK_in h1 h2))
theorem RdC.bad {s0 s : xS} {e x : Int} (h : RdI s (s0 178) (s0 177 1) (s0 179 5) x) (h5 : s 177 5 ≠ 0) (hx : 0 ≤ x ∧ x ≤ 9) (ot : OtR s s0 (s0 179 5)) (e1 : s 179 5 = s0 179 5) (e2 : s 180 = s0 180) (e3 : s 181 = s0 181) : RdC s0 s e := by
  rcases h with ⟨a1, _⟩ | ⟨a1, a2, a3, a4, a5, a6⟩
  · exact absurd a1 h5
  · exact ⟨x - 1, ⟨by omega, by omega⟩, a2, ot, Or.inr ⟨a3, a4, a5, a6, e1, e2, e3⟩⟩
theorem RdC.good {s0 s s' : xS} {e x : Int} (h : RdI s (s0 178) (s0 177 1) (s0 179 5) x) (h5 : s 177 5 = 0) (hk : kd (s0 178) (s0 177 1) (s 177 3) = 0 ∨ 8 < x) (hx : 0 ≤ x) (hR : 0 ≤ s0 179 5 ∧ s0 179 5 ≤ 7) (ot : OtR s s0 (s0 179 5)) (hs : ∀ r j : Nat, 183 ≤ r → r ≤ 208 → s' r j = s r j) (g5 : s' 177 5 = s 177 5) (g6 : s' 177 6 = s 177 6) (e1 : s' 179 5 = s0 179 5 + 1)
    (e2 : ∀ j : Nat, s' 180 j = if j = (s0 179 5).toNat then e else s0 180 j) (e3 : ∀ j : Nat, s' 181 j = if j = (s0 179 5).toNat then x else s0 181 j) : RdC s0 s' e := by
  rcases h with ⟨a1, a2, a3, a4, a5⟩ | ⟨a1, a2, a3, a4, a5, a6⟩
  · have h8 := OkT_8 a4
    refine ⟨x, ⟨hx, h8⟩, a4, fun r j h1 h2 h3 => (hs r j h1 h2).trans (ot r j h1 h2 h3), Or.inl ⟨?_, by omega, by omega, e1, e2, e3, fun j j0 j1 => ?_⟩⟩
    · rw [← a3]
      rcases kd_cs (T := s0 178) (n := s0 177 1) (p := s 177 3) with q | q | q | q <;> omega
    · rw [hs _ _ (by omega) (by omega), hs _ _ (by omega) (by omega), hs _ _ (by omega) (by omega)]
      exact a5 j j0 j1
  · exact absurd h5 (by omega)
theorem RwT.cg {s s' : xS} {T : Nat → Int} {n R m : Int} (h : RwT s T n R m) (hR : 0 ≤ R ∧ R ≤ 7) (hs : ∀ r j : Nat, 183 ≤ r → r ≤ 208 → s' r j = s r j) : RwT s' T n R m := fun j j0 j1 => by
  rw [hs _ _ (by omega) (by omega), hs _ _ (by omega) (by omega), hs _ _ (by omega) (by omega)]
  exact h j j0 j1
theorem RdC.cg {L1 L2 : List Nat} {s s1 s2 s3 : xS} {e : Int} (f1 : FL L1 s s1) (hL1 : ∀ x ∈ [1218, 1280, 1350, 1408, 1472, 1600, 1664, 1728, 1792, 1856], x ∉ L1) (h : RdC s1 s2 e) (f2 : FL L2 s2 s3) (hL2 : ∀ x ∈ [1222, 1223, 1350, 1408, 1472, 1600, 1664, 1728, 1792, 1856], x ∉ L2) (hR : 0 ≤ s 179 5 ∧ s 179 5 ≤ 7) : RdC s s3 e := by
  have a1 : s1 177 1 = s 177 1 := f1 177 1 (hL1 1218 (by decide))
  have a2 : s1 178 = s 178 := funext fun i => f1 178 i (hL1 1280 (by decide))
  have a3 : s1 179 5 = s 179 5 := f1 179 5 (hL1 1350 (by decide))
  have a4 : s1 180 = s 180 := funext fun i => f1 180 i (hL1 1408 (by decide))
  have a5 : s1 181 = s 181 := funext fun i => f1 181 i (hL1 1472 (by decide))
  have a6 := f1.rows (fun x hx => hL1 x (by revert x; decide))
  have b1 : s3 177 5 = s2 177 5 := f2 177 5 (hL2 1222 (by decide))
  have b2 : s3 177 6 = s2 177 6 := f2 177 6 (hL2 1223 (by decide))
  have b3 : s3 179 5 = s2 179 5 := f2 179 5 (hL2 1350 (by decide))
  have b4 : s3 180 = s2 180 := funext fun i => f2 180 i (hL2 1408 (by decide))
  have b5 : s3 181 = s2 181 := funext fun i => f2 181 i (hL2 1472 (by decide))
  have b6 := f2.rows (fun x hx => hL2 x (by revert x; decide))
  obtain ⟨m, hm, h1, h2, h3⟩ := h
  rw [a1, a2, a3] at h1 h3
  rw [a3] at h2
  rw [a4, a5] at h3
  refine ⟨m, hm, h1, fun r j r1 r2 r3 => (b6 r j r1 r2).trans ((h2 r j r1 r2 r3).trans (a6 r j r1 r2)), ?_⟩
  rw [b1, b2, b3, b4, b5]
  rcases h3 with ⟨c1, c2, c3, c4, c5, c6, c7⟩ | c
  · exact Or.inl ⟨c1, c2, c3, c4, c5, c6, c7.cg hR b6⟩
  · exact Or.inr c
/-- what the class's rule does -/
def RuC (s s' : xS) (a z : Int) : Prop :=
  (¬ (0 ≤ a ∧ a ≤ 9) ∧ z = -1002 ∧ s' = s) ∨ ((0 ≤ a ∧ a ≤ 9) ∧ 8 ≤ s 179 5 ∧ z = -1004 ∧ s' = s) ∨
  ((0 ≤ a ∧ a ≤ 9) ∧ s 179 5 < 8 ∧ RdC s s' a ∧ s' 177 1 = 0 ∧ ((s' 177 5 = 0 ∧ z = s 179 5 ∧ s' 0 11 = -1) ∨ (s' 177 5 ≠ 0 ∧ z = -10 - s' 177 5 ∧ s' 0 11 = s' 177 6)))
