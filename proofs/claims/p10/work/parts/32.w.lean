/-! J IS KEPT: by what changes its places -/
theorem x_up_at {s : xS} {q i j : Nat} {v : Int} : x_up s q i v q j = if j = i then v else s q j := by
  by_cases h : j = i
  · rw [if_pos h, h, x_up_same]
  · rw [if_neg h, x_up_i h]
theorem JP2.fl {L : List Nat} {s s' : xS} (h : JP2 s) (f : FL L s s') (hL : ∀ x ∈ [4352, 4097, 4098], x ∉ L) : JP2 s' := by
  have b1 : s' 260 = s 260 := funext fun i => f 260 i (hL 4352 (by decide))
  have a2 : s' 256 0 = s 256 0 := f 256 0 (hL 4097 (by decide))
  have a3 : s' 256 1 = s 256 1 := f 256 1 (hL 4098 (by decide))
  unfold JP2; rw [b1, a2, a3]; exact h
theorem JE2.fl {L : List Nat} {s s' : xS} (h : JE2 s) (f : FL L s s') (hL : ∀ x ∈ [4160, 4224, 4288, 4097, 4098], x ∉ L) : JE2 s' := by
  have a2 : s' 256 0 = s 256 0 := f 256 0 (hL 4097 (by decide))
  have a3 : s' 256 1 = s 256 1 := f 256 1 (hL 4098 (by decide))
  have b2 : s' 257 = s 257 := funext fun i => f 257 i (hL 4160 (by decide))
  have b3 : s' 258 = s 258 := funext fun i => f 258 i (hL 4224 (by decide))
  have b4 : s' 259 = s 259 := funext fun i => f 259 i (hL 4288 (by decide))
  unfold JE2; rw [b2, b3, b4, a2, a3]; exact h
theorem JR2.fl {L : List Nat} {s s' : xS} (h : JR2 s) (f : FL L s s') (hL : ∀ x ∈ [5056, 4114, 4117], x ∉ L) : JR2 s' := by
  have a4 : s' 256 17 = s 256 17 := f 256 17 (hL 4114 (by decide))
  have a5 : s' 256 20 = s 256 20 := f 256 20 (hL 4117 (by decide))
  have b5 : s' 271 = s 271 := funext fun i => f 271 i (hL 5056 (by decide))
  unfold JR2; rw [b5, a4, a5]; exact h
theorem JK.fl {L : List Nat} {s s' : xS} (h : JK s) (f : FL L s s') (hL : ∀ x ∈ [4544, 4103], x ∉ L) : JK s' := by
  have a6 : s' 256 6 = s 256 6 := f 256 6 (hL 4103 (by decide))
  have b6 : s' 263 = s 263 := funext fun i => f 263 i (hL 4544 (by decide))
  unfold JK; rw [b6, a6]; exact h
theorem JA.fl {L : List Nat} {s s' : xS} (h : JA s) (f : FL L s s') (hL : ∀ x ∈ [4140, 6016, 6080], x ∉ L) : JA s' := by
  have a7 : s' 256 43 = s 256 43 := f 256 43 (hL 4140 (by decide))
  have b7 : s' 286 = s 286 := funext fun i => f 286 i (hL 6016 (by decide))
  have b8 : s' 287 = s 287 := funext fun i => f 287 i (hL 6080 (by decide))
  unfold JA; rw [b7, b8, a7]; exact h
/-- one edition on -/
theorem J.ed {s : xS} (h : J s) (hn : 0 ≤ s 256 0 ∧ s 256 0 < 9) : J (x_up s 256 0 (s 256 0 + 1)) := by
  have f : FL [4097] s (x_up s 256 0 (s 256 0 + 1)) := FL.rf.up (by decide)
  obtain ⟨h1, ⟨rk, h2⟩, h3, ⟨jr, h4⟩, h5, h6, h7, h8, h9⟩ := h
  have e0 : x_up s 256 0 (s 256 0 + 1) 256 0 = s 256 0 + 1 := x_up_same
  have a1 : x_up s 256 0 (s 256 0 + 1) 179 5 = s 179 5 := f 179 5 (by decide)
  have a3 : x_up s 256 0 (s 256 0 + 1) 256 1 = s 256 1 := f 256 1 (by decide)
  have a5 : x_up s 256 0 (s 256 0 + 1) 256 20 = s 256 20 := f 256 20 (by decide)
  have b1 : x_up s 256 0 (s 256 0 + 1) 260 = s 260 := funext fun i => f 260 i (show 4352 ∉ _ from by decide)
  have b2 : x_up s 256 0 (s 256 0 + 1) 257 = s 257 := funext fun i => f 257 i (show 4160 ∉ _ from by decide)
  have b3 : x_up s 256 0 (s 256 0 + 1) 258 = s 258 := funext fun i => f 258 i (show 4224 ∉ _ from by decide)
  have b4 : x_up s 256 0 (s 256 0 + 1) 259 = s 259 := funext fun i => f 259 i (show 4288 ∉ _ from by decide)
  refine ⟨?_, ⟨rk, h2.fl f (by decide)⟩, ?_, ⟨jr, h4.fl f (by decide)⟩, ?_, ?_, h7.fl f (by decide), h8.fl f (by decide), h9.fl f (by decide)⟩
  · rw [a1]; exact h1.fl f (by decide)
  · unfold JP2
    rw [b1, a3, e0]
    intro m e m0 m1 e1 e2
    refine ⟨(h3 m e m0 m1 e1 e2).1, fun hz => ?_⟩
    rw [(h3 m e m0 m1 e1 e2).2 (by omega), (h3 m (s 256 0 + 1) m0 m1 (by omega) (by omega)).2 (by omega)]
  · unfold JE2
    rw [b2, b3, b4, a3, e0]
    exact ⟨h5.1, h5.2.1, fun m m0 m1 => ⟨by have := (h5.2.2 m m0 m1).1; omega, (h5.2.2 m m0 m1).2⟩⟩
  · rw [a5]; exact h6.fl f (by decide)
/-- a mark ends -/
theorem J.end {s : xS} (h : J s) (hG : GI s) {m n t : Int} (hn : n = s 256 0) (hm : 0 < m ∧ m < s 256 1) (hmt : m ≠ t) (ht : t = -1 ∨ (0 ≤ t ∧ t < s 256 1 ∧ (s 258 t.toNat < 0 ∨ n < s 258 t.toNat))) : J (x_up (x_up s 258 m.toNat n) 259 m.toNat t) := by
  have f : FL [4224, 4288] s (x_up (x_up s 258 m.toNat n) 259 m.toNat t) := (FL.rf.up (show 4224 ∈ [4224, 4288] from by decide)).up (show 4288 ∈ [4224, 4288] from by decide)
  have g1 : (1 : Int) ≤ s 256 1 ∧ s 256 1 ≤ 40 := hG 256 1
  have g0 : (0 : Int) ≤ s 256 0 ∧ s 256 0 ≤ 9 := hG 256 0
  obtain ⟨h1, ⟨rk, h2⟩, h3, ⟨jr, h4⟩, h5, h6, h7, h8, h9⟩ := h
  have c8 : ∀ j, x_up (x_up s 258 m.toNat n) 259 m.toNat t 258 j = if j = m.toNat then n else s 258 j := fun j => by rw [x_up_q (by decide), x_up_at]
  have c9 : ∀ j, x_up (x_up s 258 m.toNat n) 259 m.toNat t 259 j = if j = m.toNat then t else s 259 j := fun j => by rw [x_up_at, x_up_q (by decide)]
  have a1 : x_up (x_up s 258 m.toNat n) 259 m.toNat t 179 5 = s 179 5 := f 179 5 (by decide)
  have a0 : x_up (x_up s 258 m.toNat n) 259 m.toNat t 256 0 = s 256 0 := f 256 0 (by decide)
  have a3 : x_up (x_up s 258 m.toNat n) 259 m.toNat t 256 1 = s 256 1 := f 256 1 (by decide)
  have a5 : x_up (x_up s 258 m.toNat n) 259 m.toNat t 256 20 = s 256 20 := f 256 20 (by decide)
  have a7 : x_up (x_up s 258 m.toNat n) 259 m.toNat t 257 0 = s 257 0 := f 257 0 (by decide)
  refine ⟨?_, ⟨rk, h2.fl f (by decide)⟩, h3.fl f (by decide), ?_, ?_, ?_, h7.fl f (by decide), h8.fl f (by decide), h9.fl f (by decide)⟩
  · rw [a1]; exact h1.fl f (by decide)
  · rcases ht with ht | ⟨t0, t1, t2⟩
    · refine ⟨jr, fun x x0 x1 hx => ?_⟩
      rw [c9] at hx ⊢
      by_cases e : x.toNat = m.toNat
      · rw [if_pos e] at hx; omega
      · rw [if_neg e] at hx ⊢; exact h4 x x0 x1 hx
    · have t3 : s 259 t.toNat < 0 := (h5.2.2 t t0 (by omega)).2 t1 (by have := (h5.2.2 t t0 (by omega)).1; omega)
      refine ⟨fun x => if x = t then 0 else jr x + 1, fun x x0 x1 hx => ?_⟩
      rw [c9] at hx ⊢
      by_cases e : x.toNat = m.toNat
      · rw [if_pos e]
        show (if t = t then 0 else jr t + 1) < (if x = t then 0 else jr x + 1)
        rw [if_pos rfl, if_neg (by omega)]
        omega
      · rw [if_neg e] at hx ⊢
        have hxt : x ≠ t := by rintro rfl; omega
        show (if s 259 x.toNat = t then 0 else jr (s 259 x.toNat) + 1) < (if x = t then 0 else jr x + 1)
        rw [if_neg hxt]
        have := h4 x x0 x1 hx
        split <;> omega
  · refine ⟨by rw [a7]; exact h5.1, by rw [c8, if_neg (by omega)]; exact h5.2.1, fun x x0 x1 => ?_⟩
    rw [c8, c9, a0, a3]
    by_cases e : x.toNat = m.toNat
    · rw [if_pos e, if_pos e]; exact ⟨by omega, fun _ _ => by omega⟩
    · rw [if_neg e, if_neg e]; exact h5.2.2 x x0 x1
  · rw [a5]; exact h6.fl f (by decide)
/-- a picture is told -/
theorem J.pict {s : xS} (h : J s) {p p1 y w c : Int} (hp : p = s 256 6) (h0 : 0 ≤ p ∧ p ≤ 39) (hp1 : p1 = p + 1) (hc : c = -1 ∨ (0 ≤ c ∧ c < p)) : J (x_up (x_up (x_up (x_up s 261 p.toNat y) 262 p.toNat w) 263 p.toNat c) 256 6 p1) := by
  have f : FL [4416, 4480, 4544, 4103] s (x_up (x_up (x_up (x_up s 261 p.toNat y) 262 p.toNat w) 263 p.toNat c) 256 6 p1) := (((FL.rf.up (show 4416 ∈ [4416, 4480, 4544, 4103] from by decide)).up (show 4480 ∈ [4416, 4480, 4544, 4103] from by decide)).up (show 4544 ∈ [4416, 4480, 4544, 4103] from by decide)).up (show 4103 ∈ [4416, 4480, 4544, 4103] from by decide)
  have c3 : ∀ j, x_up (x_up (x_up (x_up s 261 p.toNat y) 262 p.toNat w) 263 p.toNat c) 256 6 p1 263 j = if j = p.toNat then c else s 263 j := fun j => by rw [x_up_q (by decide), x_up_at, x_up_q (by decide), x_up_q (by decide)]
  have c6 : x_up (x_up (x_up (x_up s 261 p.toNat y) 262 p.toNat w) 263 p.toNat c) 256 6 p1 256 6 = p1 := x_up_same
  have a1 : x_up (x_up (x_up (x_up s 261 p.toNat y) 262 p.toNat w) 263 p.toNat c) 256 6 p1 179 5 = s 179 5 := f 179 5 (by decide)
  have a5 : x_up (x_up (x_up (x_up s 261 p.toNat y) 262 p.toNat w) 263 p.toNat c) 256 6 p1 256 20 = s 256 20 := f 256 20 (by decide)
  obtain ⟨h1, ⟨rk, h2⟩, h3, ⟨jr, h4⟩, h5, h6, h7, h8, h9⟩ := h
  refine ⟨?_, ⟨rk, h2.fl f (by decide)⟩, h3.fl f (by decide), ⟨jr, h4.fl f (by decide)⟩, h5.fl f (by decide), ?_, h7.fl f (by decide), ?_, h9.fl f (by decide)⟩
  · rw [a1]; exact h1.fl f (by decide)
  · rw [a5]; exact h6.fl f (by decide)
  · refine ⟨fun q q0 q1 => ?_, fun hz => ?_⟩
    · rw [c3]
      by_cases e : q.toNat = p.toNat
      · rw [if_pos e]; omega
      · rw [if_neg e]; exact h8.1 q q0 q1
    · rw [c3]
      by_cases e : (0 : Nat) = p.toNat
      · rw [if_pos e]; omega
      · rw [if_neg e]; exact h8.2 (by omega)
/-- a mark is told, but not hung yet -/
theorem J.tell {s : xS} (h : J s) (hG : GI s) {m n m1 : Int} (hm : m = s 256 1) (hn : n = s 256 0) (h39 : m ≤ 39) (hm1 : m1 = m + 1) : J (x_up (x_up (x_up (x_up s 257 m.toNat n) 258 m.toNat (-1)) 259 m.toNat (-1)) 256 1 m1) := by
  have f : FL [4160, 4224, 4288, 4098] s (x_up (x_up (x_up (x_up s 257 m.toNat n) 258 m.toNat (-1)) 259 m.toNat (-1)) 256 1 m1) := (((FL.rf.up (show 4160 ∈ [4160, 4224, 4288, 4098] from by decide)).up (show 4224 ∈ [4160, 4224, 4288, 4098] from by decide)).up (show 4288 ∈ [4160, 4224, 4288, 4098] from by decide)).up (show 4098 ∈ [4160, 4224, 4288, 4098] from by decide)
  have g1 : (1 : Int) ≤ s 256 1 ∧ s 256 1 ≤ 40 := hG 256 1
  have g0 : (0 : Int) ≤ s 256 0 ∧ s 256 0 ≤ 9 := hG 256 0
  have c7 : ∀ j, x_up (x_up (x_up (x_up s 257 m.toNat n) 258 m.toNat (-1)) 259 m.toNat (-1)) 256 1 m1 257 j = if j = m.toNat then n else s 257 j := fun j => by rw [x_up_q (by decide), x_up_q (by decide), x_up_q (by decide), x_up_at]
  have c8 : ∀ j, x_up (x_up (x_up (x_up s 257 m.toNat n) 258 m.toNat (-1)) 259 m.toNat (-1)) 256 1 m1 258 j = if j = m.toNat then -1 else s 258 j := fun j => by rw [x_up_q (by decide), x_up_q (by decide), x_up_at, x_up_q (by decide)]
  have c9 : ∀ j, x_up (x_up (x_up (x_up s 257 m.toNat n) 258 m.toNat (-1)) 259 m.toNat (-1)) 256 1 m1 259 j = if j = m.toNat then -1 else s 259 j := fun j => by rw [x_up_q (by decide), x_up_at, x_up_q (by decide), x_up_q (by decide)]
  have c1 : x_up (x_up (x_up (x_up s 257 m.toNat n) 258 m.toNat (-1)) 259 m.toNat (-1)) 256 1 m1 256 1 = m1 := x_up_same
  have a1 : x_up (x_up (x_up (x_up s 257 m.toNat n) 258 m.toNat (-1)) 259 m.toNat (-1)) 256 1 m1 179 5 = s 179 5 := f 179 5 (by decide)
  have a0 : x_up (x_up (x_up (x_up s 257 m.toNat n) 258 m.toNat (-1)) 259 m.toNat (-1)) 256 1 m1 256 0 = s 256 0 := f 256 0 (by decide)
  have a5 : x_up (x_up (x_up (x_up s 257 m.toNat n) 258 m.toNat (-1)) 259 m.toNat (-1)) 256 1 m1 256 20 = s 256 20 := f 256 20 (by decide)
  have b1 : x_up (x_up (x_up (x_up s 257 m.toNat n) 258 m.toNat (-1)) 259 m.toNat (-1)) 256 1 m1 260 = s 260 := funext fun i => f 260 i (show 4352 ∉ _ from by decide)
  obtain ⟨h1, ⟨rk, h2⟩, h3, ⟨jr, h4⟩, h5, h6, h7, h8, h9⟩ := h
  refine ⟨?_, ⟨rk, h2.fl f (by decide)⟩, ?_, ⟨jr, fun x x0 x1 hx => ?_⟩, ?_, ?_, h7.fl f (by decide), h8.fl f (by decide), h9.fl f (by decide)⟩
  · rw [a1]; exact h1.fl f (by decide)
  · unfold JP2
    rw [b1, a0, c1]
    intro x e x0 x1 e1 e2
    exact ⟨by have := (h3 x e x0 x1 e1 e2).1; omega, (h3 x e x0 x1 e1 e2).2⟩
  · rw [c9] at hx ⊢
    by_cases e : x.toNat = m.toNat
    · rw [if_pos e] at hx; omega
    · rw [if_neg e] at hx ⊢; exact h4 x x0 x1 hx
  · refine ⟨by rw [c7, if_neg (by omega)]; exact h5.1, by rw [c8, if_neg (by omega)]; exact h5.2.1, fun x x0 x1 => ?_⟩
    rw [c8, c9, a0, c1]
    by_cases e : x.toNat = m.toNat
    · rw [if_pos e, if_pos e]; exact ⟨by omega, fun _ _ => by omega⟩
    · rw [if_neg e, if_neg e]; exact ⟨(h5.2.2 x x0 x1).1, fun hz => (h5.2.2 x x0 x1).2 (by omega)⟩
  · rw [a5]; exact h6.fl f (by decide)
/-- the way up from a mark -/
def xup (s : xS) (e : Int) : Nat → Int → Int
  | 0, x => x
  | k + 1, x => if x < 0 then x else xup s e k (s 260 (10 * x + e).toNat)
theorem xup_neg {s : xS} {e x : Int} (k : Nat) (h : x < 0) : xup s e k x = x := by
  cases k with
  | zero => rfl
  | succ k => rw [xup, if_pos h]
theorem xup_step {s : xS} {e x b : Int} (h0 : 0 ≤ x) (hb : x ≠ b) (h : ∀ k, xup s e k (s 260 (10 * x + e).toNat) ≠ b) : ∀ k, xup s e k x ≠ b := by
  intro k
  cases k with
  | zero => exact hb
  | succ k => rw [xup, if_neg (by omega)]; exact h k
theorem xup_lt {s : xS} (h : JP2 s) {e : Int} (he : 0 ≤ e ∧ e ≤ 9) : ∀ (k : Nat) (x : Int), x < s 256 1 → x ≤ 39 → s 256 1 ≤ 40 → xup s e k x < s 256 1 := by
  intro k
  induction k with
  | zero => intro x hx _ _; exact hx
  | succ k ih =>
    intro x hx h39 h40
    rw [xup]
    by_cases hz : x < 0
    · rw [if_pos hz]; exact hx
    · rw [if_neg hz]
      have := (h x e (by omega) h39 he.1 he.2).1
      exact ih _ this (by omega) h40
theorem xup_cg {s s' : xS} {e e' : Int} (h : ∀ x : Int, 0 ≤ x → x ≤ 39 → s' 260 (10 * x + e').toNat = s 260 (10 * x + e).toNat) (hl : ∀ x : Int, 0 ≤ x → x ≤ 39 → s 260 (10 * x + e).toNat ≤ 39) : ∀ (k : Nat) (x : Int), x ≤ 39 → xup s' e' k x = xup s e k x := by
  intro k
  induction k with
  | zero => intro x _; rfl
  | succ k ih =>
    intro x hx
    rw [xup, xup]
    by_cases hz : x < 0
    · rw [if_pos hz, if_pos hz]
    · rw [if_neg hz, if_neg hz, h x (by omega) hx]
      exact ih _ (hl x (by omega) hx)
/-- a mark is hung elsewhere -/
theorem J.hang {s s' : xS} (h : J s) (hG : GI s) {m p : Int} (hm : 0 < m ∧ m ≤ 39) (hp : 0 ≤ p ∧ p < s 256 1) (hx : ∀ k, xup s (s 256 0) k p ≠ m) (f : FL [4352] s s')
    (h60 : ∀ i : Nat, s' 260 i = if 10 * m + s 256 0 ≤ (i : Int) ∧ (i : Int) < 10 * m + 10 then p else s 260 i) : J s' := by
  have g1 : (1 : Int) ≤ s 256 1 ∧ s 256 1 ≤ 40 := hG 256 1
  have g0 : (0 : Int) ≤ s 256 0 ∧ s 256 0 ≤ 9 := hG 256 0
  have a1 : s' 179 5 = s 179 5 := f 179 5 (by decide)
  have a0 : s' 256 0 = s 256 0 := f 256 0 (by decide)
  have a3 : s' 256 1 = s 256 1 := f 256 1 (by decide)
  have a5 : s' 256 20 = s 256 20 := f 256 20 (by decide)
  obtain ⟨h1, ⟨rk, h2⟩, h3, ⟨jr, h4⟩, h5, h6, h7, h8, h9⟩ := h
  have c0 : ∀ x e : Int, 0 ≤ x → x ≤ 39 → 0 ≤ e → e ≤ 9 → s' 260 (10 * x + e).toNat = if x = m ∧ s 256 0 ≤ e then p else s 260 (10 * x + e).toNat := by
    intro x e x0 x1 e0 e1
    rw [h60]
    by_cases hz : x = m ∧ s 256 0 ≤ e
    · rw [if_pos hz, if_pos (by omega)]
    · rw [if_neg hz, if_neg (by omega)]
  have hl : ∀ x e : Int, 0 ≤ x → x ≤ 39 → 0 ≤ e → e ≤ 9 → s 260 (10 * x + e).toNat ≤ 39 := fun x e x0 x1 e0 e1 => by have := (h3 x e x0 x1 e0 e1).1; omega
  have hc : ∀ e : Int, s 256 0 ≤ e → e ≤ 9 → ∀ (k : Nat) (x : Int), x ≤ 39 → xup s e k x = xup s (s 256 0) k x := fun e e0 e1 => xup_cg (fun x x0 x1 => (h3 x e x0 x1 (by omega) e1).2 e0) (fun x x0 x1 => hl x (s 256 0) x0 x1 g0.1 g0.2)
  refine ⟨?_, ?_, ?_, ⟨jr, h4.fl f (by decide)⟩, h5.fl f (by decide), ?_, h7.fl f (by decide), h8.fl f (by decide), h9.fl f (by decide)⟩
  · rw [a1]; exact h1.fl f (by decide)
  · have dec : ∀ x, Decidable (∃ k, xup s (s 256 0) k x = m) := fun x => Classical.propDecidable _
    refine ⟨fun e x => if s 256 0 ≤ e then (@ite _ (∃ k, xup s (s 256 0) k x = m) (dec x) (rk e x + rk e p + 1) (rk e x)) else rk e x, fun x e x0 x1 e0 e1 => ?_⟩
    rw [c0 x e x0 x1 e0 e1]
    have h2' := h2 x e x0 x1 e0 e1
    by_cases he : s 256 0 ≤ e
    · by_cases hxm : x = m
      · rw [if_pos ⟨hxm, he⟩]
        refine ⟨fun hz => by omega, fun _ => ⟨hp.1, ?_⟩⟩
        show (if s 256 0 ≤ e then (@ite _ (∃ k, xup s (s 256 0) k p = m) (dec p) (rk e p + rk e p + 1) (rk e p)) else rk e p) < (if s 256 0 ≤ e then (@ite _ (∃ k, xup s (s 256 0) k x = m) (dec x) (rk e x + rk e p + 1) (rk e x)) else rk e x)
        rw [if_pos he, if_pos he, if_neg (fun ⟨k, hk⟩ => hx k hk), if_pos ⟨0, hxm⟩]
        omega
      · rw [if_neg (fun z => hxm z.1)]
        refine ⟨h2'.1, fun hz => ⟨(h2'.2 hz).1, ?_⟩⟩
        have hk := (h2'.2 hz).2
        show (if s 256 0 ≤ e then (@ite _ (∃ k, xup s (s 256 0) k (s 260 (10 * x + e).toNat) = m) (dec _) (rk e (s 260 (10 * x + e).toNat) + rk e p + 1) (rk e (s 260 (10 * x + e).toNat))) else rk e (s 260 (10 * x + e).toNat)) < (if s 256 0 ≤ e then (@ite _ (∃ k, xup s (s 256 0) k x = m) (dec x) (rk e x + rk e p + 1) (rk e x)) else rk e x)
        rw [if_pos he, if_pos he]
        have hq : s 260 (10 * x + e).toNat = s 260 (10 * x + s 256 0).toNat := (h3 x e x0 x1 e0 e1).2 he
        by_cases hb : ∃ k, xup s (s 256 0) k x = m
        · rw [if_pos hb]
          split <;> omega
        · rw [if_neg hb, if_neg ?_]
          · exact hk
          · rintro ⟨k, hk2⟩
            refine hb ⟨k + 1, ?_⟩
            rw [xup, if_neg (by omega), ← hq]
            exact hk2
    · rw [if_neg (fun z => he z.2)]
      refine ⟨h2'.1, fun hz => ⟨(h2'.2 hz).1, ?_⟩⟩
      show (if s 256 0 ≤ e then _ else rk e (s 260 (10 * x + e).toNat)) < (if s 256 0 ≤ e then _ else rk e x)
      rw [if_neg he, if_neg he]
      exact (h2'.2 hz).2
  · unfold JP2
    rw [a0, a3]
    intro x e x0 x1 e0 e1
    rw [c0 x e x0 x1 e0 e1, c0 x (s 256 0) x0 x1 g0.1 g0.2]
    refine ⟨?_, fun he => ?_⟩
    · split
      · exact hp.2
      · exact (h3 x e x0 x1 e0 e1).1
    · by_cases hxm : x = m
      · rw [if_pos ⟨hxm, he⟩, if_pos ⟨hxm, Int.le_refl _⟩]
      · rw [if_neg (fun z => hxm z.1), if_neg (fun z => hxm z.1)]
        exact (h3 x e x0 x1 e0 e1).2 he
  · rw [a5]; exact h6.fl f (by decide)
/-- the row of parents while it is being hung -/
theorem hg_up {s : xS} {g : Nat → Int} {a n x b z : Int} (h : ∀ i : Nat, s 260 i = if 10 * a + n ≤ (i : Int) ∧ (i : Int) < 10 * a + x then b else g i) (hz : z = 10 * a + x) (h0 : 0 ≤ z) (hn : n ≤ x) : ∀ i : Nat, x_up s 260 z.toNat b 260 i = if 10 * a + n ≤ (i : Int) ∧ (i : Int) < 10 * a + (x + 1) then b else g i := by
  intro i
  rw [x_up_at, h]
  by_cases e : i = z.toNat
  · rw [if_pos e, if_pos (by omega)]
  · rw [if_neg e]
    by_cases e2 : 10 * a + n ≤ (i : Int) ∧ (i : Int) < 10 * a + x
    · rw [if_pos e2, if_pos (by omega)]
    · rw [if_neg e2, if_neg (by omega)]
theorem xup_eq {s s' : xS} {e : Int} (h : s' 260 = s 260) (k : Nat) : ∀ x : Int, xup s' e k x = xup s e k x := by
  induction k with
  | zero => intro x; rfl
  | succ k ih =>
    intro x
    rw [xup, xup, h]
    by_cases hz : x < 0
    · rw [if_pos hz, if_pos hz]
    · rw [if_neg hz, if_neg hz]; exact ih _
theorem J.tellx {s : xS} (h : J s) (hG : GI s) {m n m1 a : Int} (hm : m = s 256 1) (ha : a < m) : ∀ k, xup (x_up (x_up (x_up (x_up s 257 m.toNat n) 258 m.toNat (-1)) 259 m.toNat (-1)) 256 1 m1) (x_up (x_up (x_up (x_up s 257 m.toNat n) 258 m.toNat (-1)) 259 m.toNat (-1)) 256 1 m1 256 0) k a ≠ m := by
  have f : FL [4160, 4224, 4288, 4098] s (x_up (x_up (x_up (x_up s 257 m.toNat n) 258 m.toNat (-1)) 259 m.toNat (-1)) 256 1 m1) := (((FL.rf.up (show 4160 ∈ [4160, 4224, 4288, 4098] from by decide)).up (show 4224 ∈ [4160, 4224, 4288, 4098] from by decide)).up (show 4288 ∈ [4160, 4224, 4288, 4098] from by decide)).up (show 4098 ∈ [4160, 4224, 4288, 4098] from by decide)
  intro k
  have g1 : (1 : Int) ≤ s 256 1 ∧ s 256 1 ≤ 40 := hG 256 1
  have g0 : (0 : Int) ≤ s 256 0 ∧ s 256 0 ≤ 9 := hG 256 0
  rw [f 256 0 (by decide), xup_eq (funext fun i => f 260 i (show 4352 ∉ _ from by decide)) k a]
  have := xup_lt h.2.2.1 g0 k a (by omega) (by omega) (by omega)
  omega
theorem L_D_X11_hang_256_5 (s0 : xS) (a : Int) (b_a : 0 ≤ a ∧ a ≤ 39) (b : Int) (b_b : (-1) ≤ b ∧ b ≤ 39)  : ∀ (n : Nat) (s : xS) (x1 : Int) (x2 : Int) (x3 : Int) (hG : GI s) (f : FL [4352] s0 s) (b_x1 : 0 ≤ x1 ∧ x1 ≤ 39) (b_x2 : (-1) ≤ x2 ∧ x2 ≤ 39) (b_x3 : 0 ≤ x3 ∧ x3 ≤ 10) (w_0 : x1 = a) (w_1 : x2 = b) (w_2 : s0 256 0 ≤ x3) (w_3 : ∀ i : Nat, s 260 i = if 10 * a + s0 256 0 ≤ (i : Int) ∧ (i : Int) < 10 * a + x3 then b else s0 260 i)  (hm : (10 - x3) < (n : Int)), xe none 140 5 [(0, .ref 256), (1, vi x1), (2, vi x2), (3, vi x3)] [] s 0 0 (fun s' v => GI s' ∧ FL [4352] s0 s' ∧ v = none ∧ (∀ i : Nat, s' 260 i = if 10 * a + s0 256 0 ≤ (i : Int) ∧ (i : Int) < 10 * a + 10 then b else s0 260 i)) := by
  intro n
  induction n with
  | zero => intro s x1 x2 x3 hG f b_x1 b_x2 b_x3 w_0 w_1 w_2 w_3  hm; exfalso; omega
  | succ n ih =>
    intro s x1 x2 x3 hG f b_x1 b_x2 b_x3 w_0 w_1 w_2 w_3  hm
    refine x_A k140_5 (fun _ => rfl) ?_
    refine x_bipush k140_6 (by decide +kernel) ?_
    refine x_ic_ge k140_8 (t := 29) rfl (by first | exact x_rb b_x3 rfl rfl | exact ⟨by omega, by omega⟩) ⟨by decide, by decide⟩ (fun c18 => ?_) (fun c18 => ?_)
    · skip
      exact x_vret k140_29 rfl ⟨hG, f, rfl, (by rw [show x3 = 10 by omega] at w_3; exact w_3)⟩
    · skip
      refine x_A k140_11 (fun _ => rfl) ?_
      refine x_getR k140_12 (f := 5) rfl (q := 256) (n := 62) (kd := 15) ⟨by decide, rfl⟩ (q2 := 260) (by decide) rfl ?_
      refine x_bipush k140_15 (by decide +kernel) ?_
      refine x_A k140_17 (fun _ => rfl) ?_
      refine x_imul k140_18 ?_
      refine x_top (fun z19 e_z19 => ?_)
      refine x_A k140_19 (fun _ => rfl) ?_
      refine x_iadd k140_20 ?_
      refine x_top (fun z20 e_z20 => ?_)
      refine x_A k140_21 (fun _ => rfl) ?_
      refine x_iast k140_22 (q := 260) (n := 400) ⟨by decide, rfl⟩ (by decide) (by first | exact x_rbel e_z20 g_z20 rfl rfl | exact x_rbl g_z20 rfl rfl | exact ⟨by omega, by omega⟩) ?_
      refine x_nh (fun s21 e_s21 => ?_)
      have hG_s21 : GI s21 := by rw [e_s21]; exact hG.up (show (-1) ≤ x2 ∧ x2 ≤ 39 from (by first | exact x_rb b_x2 rfl rfl | exact ⟨by omega, by omega⟩))
      have f_s21 : FL [4352] s0 s21 := by rw [e_s21]; exact f.up (show 4352 ∈ [4352] from by decide +kernel)
      have q22 : s21 260 z20.toNat = x2 := by rw [e_s21]; exact x_up_same
      refine x_iinc k140_23 (ls' := [(3, vi (x3 + 1)), (0, .ref 256), (1, vi x1), (2, vi x2)]) rfl (by decide) rfl ?_
      refine x_goto k140_26 (t := 5) rfl ?_
      refine x_ls (l := [(0, .ref 256), (1, vi x1), (2, vi x2), (3, vi (x3 + 1))]) (show ([0, 1, 2, 3] : List Nat).Nodup from by decide +kernel) ⟨rfl, rfl, rfl, rfl, trivial⟩ ?_
      exact ih s21 x1 x2 (x3 + 1) hG_s21 f_s21 (by first | exact x_rb b_x1 rfl rfl | exact ⟨by omega, by omega⟩) (by first | exact x_rb b_x2 rfl rfl | exact ⟨by omega, by omega⟩) ⟨by omega, by omega⟩ (by omega) (by omega) (by omega) (by rw [e_s21, show x2 = b by omega]; exact hg_up w_3 (by omega) (by omega) (by omega))  (by omega)
theorem D_X11_hang_256 (s0 : xS) (hG0 : GI s0) (a : Int) (b_a : 0 ≤ a ∧ a ≤ 39) (b : Int) (b_b : (-1) ≤ b ∧ b ≤ 39) : xe none 140 0 (lv_args 0 [.ref 256, vi a, vi b]) [] s0 0 0 (fun s' v => GI s' ∧ FL [4352] s0 s' ∧ v = none ∧ (∀ i : Nat, s' 260 i = if 10 * a + s0 256 0 ≤ (i : Int) ∧ (i : Int) < 10 * a + 10 then b else s0 260 i)) := by
  have f0 : FL [4352] s0 s0 := FL.rf
  show xe none 140 0 [(0, .ref 256), (1, vi a), (2, vi b)] [] s0 0 0 _
  refine x_A k140_0 (fun _ => rfl) ?_
  refine x_getI k140_1 (f := 0) rfl (q := 256) (n := 62) (kd := 15) ⟨by decide, rfl⟩ (by decide) rfl ?_
  refine x_top (fun z23 e_z23 => ?_)
  have g_z23 : (0 : Int) ≤ s0 256 0 ∧ s0 256 0 ≤ 9 := hG0 256 0
  refine x_istore_n k140_4 (ls' := [(3, vi z23), (0, .ref 256), (1, vi a), (2, vi b)]) (by decide) rfl ?_
  refine x_ls (l := [(0, .ref 256), (1, vi a), (2, vi b), (3, vi z23)]) (show ([0, 1, 2, 3] : List Nat).Nodup from by decide +kernel) ⟨rfl, rfl, rfl, rfl, trivial⟩ ?_
  exact L_D_X11_hang_256_5 s0 a b_a b b_b  (((10 - z23) + 1 : Int)).toNat s0 a b z23 hG0 f0 (by first | exact x_rb b_a rfl rfl | exact ⟨by omega, by omega⟩) (by first | exact x_rb b_b rfl rfl | exact ⟨by omega, by omega⟩) (by first | exact x_rbe e_z23 g_z23 rfl rfl | exact x_rb g_z23 rfl rfl | exact ⟨by omega, by omega⟩) (by omega) (by omega) (by omega) (fun i => by rw [if_neg (by omega)])  (by omega)
theorem L_D_X11_isBelow_256_25 (s0 : xS) (hJ0 : J s0) (a : Int) (b_a : (-2147483648) ≤ a ∧ a ≤ 2147483647) (b : Int) (b_b : 0 ≤ b ∧ b ≤ 39) (d : Int) (b_d : 0 ≤ d ∧ d ≤ 9) (rk : Int → Int → Nat) (hrk : JP1 s0 rk)  : ∀ (n : Nat) (s : xS) (x1 : Int) (x2 : Int) (x3 : Int) (x4 : Int) (hG : GI s) (f : FL [] s0 s) (b_x1 : (-2147483648) ≤ x1 ∧ x1 ≤ 2147483647) (b_x2 : 0 ≤ x2 ∧ x2 ≤ 39) (b_x3 : 0 ≤ x3 ∧ x3 ≤ 9) (b_x4 : (-1) ≤ x4 ∧ x4 ≤ 39) (w_0 : x2 = b) (w_1 : x3 = d) (w_2 : (0 ≤ a ∧ a < s0 256 1 ∧ s0 257 a.toNat ≤ d) → (b < s0 256 1 ∧ s0 257 b.toNat ≤ d) → (∀ k, xup s0 d k x4 ≠ b) → ∀ k, xup s0 d k a ≠ b)  (hm : ((rkm (rk x3) x4 : Nat) : Int) < (n : Int)), xe none 143 25 [(0, .ref 256), (1, vi x1), (2, vi x2), (3, vi x3), (4, vi x4)] [] s 0 0 (fun s' v => GI s' ∧ FL [] s0 s' ∧ ∃ z, v = some (vi z) ∧ (0 ≤ z ∧ z ≤ 1) ∧ (z = 0 → (0 ≤ a ∧ a < s0 256 1 ∧ s0 257 a.toNat ≤ d) → (b < s0 256 1 ∧ s0 257 b.toNat ≤ d) → ∀ k, xup s0 d k a ≠ b)) := by
  intro n
  induction n with
  | zero => intro s x1 x2 x3 x4 hG f b_x1 b_x2 b_x3 b_x4 w_0 w_1 w_2  hm; exfalso; omega
  | succ n ih =>
    intro s x1 x2 x3 x4 hG f b_x1 b_x2 b_x3 b_x4 w_0 w_1 w_2  hm
    refine x_A k143_25 (fun _ => rfl) ?_
    refine x_if_lt k143_27 (t := 53) rfl (by first | exact x_rb b_x4 rfl rfl | exact ⟨by omega, by omega⟩) (fun c40 => ?_) (fun c40 => ?_)
    · skip
      refine x_A k143_53 (fun _ => rfl) ?_
      refine x_if_lt k143_55 (t := 62) rfl (by first | exact x_rb b_x4 rfl rfl | exact ⟨by omega, by omega⟩) (fun c41 => ?_) (fun c41 => by exfalso; omega)
      refine x_A k143_62 (fun _ => rfl) ?_
      exact x_zret k143_63 rfl ⟨by omega, by omega⟩ ⟨hG, f, 0, rfl, ⟨by decide, by decide⟩, (fun hz h1 h2 => w_2 h1 h2 (fun k => by rw [xup_neg k (by omega)]; omega))⟩
    · skip
      refine x_A k143_30 (fun _ => rfl) ?_
      refine x_A k143_32 (fun _ => rfl) ?_
      refine x_ic_eq k143_33 (t := 53) rfl (by first | exact x_rb b_x4 rfl rfl | exact ⟨by omega, by omega⟩) (by first | exact x_rb b_x2 rfl rfl | exact ⟨by omega, by omega⟩) (fun c42 => ?_) (fun c42 => ?_)
      · skip
        refine x_A k143_53 (fun _ => rfl) ?_
        refine x_if_lt k143_55 (t := 62) rfl (by first | exact x_rb b_x4 rfl rfl | exact ⟨by omega, by omega⟩) (fun c43 => by exfalso; omega) (fun c43 => ?_)
        refine x_A k143_58 (fun _ => rfl) ?_
        refine x_goto k143_59 (t := 63) rfl ?_
        exact x_zret k143_63 rfl ⟨by omega, by omega⟩ ⟨hG, f, 1, rfl, ⟨by decide, by decide⟩, (fun hz => absurd hz (by decide))⟩
      · skip
        refine x_A k143_36 (fun _ => rfl) ?_
        refine x_getR k143_37 (f := 5) rfl (q := 256) (n := 62) (kd := 15) ⟨by decide, rfl⟩ (q2 := 260) (by decide) rfl ?_
        refine x_bipush k143_40 (by decide +kernel) ?_
        refine x_A k143_42 (fun _ => rfl) ?_
        refine x_imul k143_44 ?_
        refine x_top (fun z44 e_z44 => ?_)
        refine x_A k143_45 (fun _ => rfl) ?_
        refine x_iadd k143_46 ?_
        refine x_top (fun z45 e_z45 => ?_)
        refine x_iald k143_47 (q := 260) (n := 400) ⟨by decide, rfl⟩ (by decide) (by first | exact x_rbel e_z45 g_z45 rfl rfl | exact x_rbl g_z45 rfl rfl | exact ⟨by omega, by omega⟩) ?_
        refine x_top (fun z46 e_z46 => ?_)
        have g_z46 : (-1) ≤ s 260 z45.toNat ∧ s 260 z45.toNat ≤ 39 := hG 260 z45.toNat
        have d_z46 := (hrk.fl f (by decide +kernel)).dn x4 x3 ⟨by omega, by omega⟩ ⟨by omega, by omega⟩
        rw [show 10 * x4 + x3 = z45 by omega, e_z46.symm] at d_z46
        have pe_z46 : s0 260 (10 * x4 + d).toNat = z46 := by rw [← f 260 _ (show 4352 ∉ _ from by decide), show 10 * x4 + d = z45 by omega]; exact e_z46.symm
        refine x_istore k143_48 (ls' := [(4, vi z46), (0, .ref 256), (1, vi x1), (2, vi x2), (3, vi x3)]) (by decide) rfl ?_
        refine x_goto k143_50 (t := 25) rfl ?_
        refine x_ls (l := [(0, .ref 256), (1, vi x1), (2, vi x2), (3, vi x3), (4, vi z46)]) (show ([0, 1, 2, 3, 4] : List Nat).Nodup from by decide +kernel) ⟨rfl, rfl, rfl, rfl, rfl, trivial⟩ ?_
        exact ih s x1 x2 x3 z46 hG f (by first | exact x_rb b_x1 rfl rfl | exact ⟨by omega, by omega⟩) (by first | exact x_rb b_x2 rfl rfl | exact ⟨by omega, by omega⟩) (by first | exact x_rb b_x3 rfl rfl | exact ⟨by omega, by omega⟩) (by first | exact x_rbe e_z46 g_z46 rfl rfl | exact x_rb g_z46 rfl rfl | exact ⟨by omega, by omega⟩) (by omega) (by omega) (fun h1 h2 h => w_2 h1 h2 (xup_step (by omega) (by omega) (by rw [pe_z46]; exact h)))  (by omega)
theorem D_X11_isBelow_256 (s0 : xS) (hG0 : GI s0) (hJ0 : J s0) (a : Int) (b_a : (-2147483648) ≤ a ∧ a ≤ 2147483647) (b : Int) (b_b : 0 ≤ b ∧ b ≤ 39) (d : Int) (b_d : 0 ≤ d ∧ d ≤ 9) : xe none 143 0 (lv_args 0 [.ref 256, vi a, vi b, vi d]) [] s0 0 0 (fun s' v => GI s' ∧ FL [] s0 s' ∧ ∃ z, v = some (vi z) ∧ (0 ≤ z ∧ z ≤ 1) ∧ (z = 0 → (0 ≤ a ∧ a < s0 256 1 ∧ s0 257 a.toNat ≤ d) → (b < s0 256 1 ∧ s0 257 b.toNat ≤ d) → ∀ k, xup s0 d k a ≠ b)) := by
  have f0 : FL [] s0 s0 := FL.rf
  show xe none 143 0 [(0, .ref 256), (1, vi a), (2, vi b), (3, vi d)] [] s0 0 0 _
  obtain ⟨rk, hrk⟩ := hJ0.2.1
  refine x_A k143_0 (fun _ => rfl) ?_
  refine x_A k143_1 (fun _ => rfl) ?_
  refine x_A k143_2 (fun _ => rfl) ?_
  obtain ⟨z47, e_z47⟩ : ∃ z, z = s0 256 1 := ⟨_, rfl⟩
  have g_z47 : (1 : Int) ≤ s0 256 1 ∧ s0 256 1 ≤ 40 := hG0 256 1
  refine x_callV k143_3 (y := 141) (n := 2) (w0 := 0) (w1 := 2) (as := [vi a, vi d]) (rest := []) (by decide +kernel) (q := 256) (nq := 62) (kq := 15) ⟨by decide, rfl⟩ rfl rfl rfl rfl (xe_mono (C_X11_isTold_256 s0 hG0 a (by first | exact x_rb b_a rfl rfl | exact ⟨by omega, by omega⟩) d (by first | exact x_rb b_d rfl rfl | exact ⟨by omega, by omega⟩)) ?_)
  rintro s49 v ⟨h_s49, z48, rfl, hz_z48⟩
  rw [h_s49]
  rcases hz_z48 with ⟨c_z48, e_z48, m_z48⟩ | ⟨e_z48, m_z48⟩
  · rw [e_z48]
    show xe none 143 6 [(0, .ref 256), (1, vi a), (2, vi b), (3, vi d)] [vi 1] s0 0 0 _
    refine x_if_eq k143_6 (t := 22) rfl ⟨by decide, by decide⟩ (fun c50 => by exfalso; omega) (fun c50 => ?_)
    refine x_A k143_9 (fun _ => rfl) ?_
    refine x_A k143_10 (fun _ => rfl) ?_
    refine x_A k143_11 (fun _ => rfl) ?_
    refine x_callV k143_12 (y := 141) (n := 2) (w0 := 0) (w1 := 2) (as := [vi b, vi d]) (rest := []) (by decide +kernel) (q := 256) (nq := 62) (kq := 15) ⟨by decide, rfl⟩ rfl rfl rfl rfl (xe_mono (C_X11_isTold_256 s0 hG0 b (by first | exact x_rb b_b rfl rfl | exact ⟨by omega, by omega⟩) d (by first | exact x_rb b_d rfl rfl | exact ⟨by omega, by omega⟩)) ?_)
    rintro s52 v ⟨h_s52, z51, rfl, hz_z51⟩
    rw [h_s52]
    rcases hz_z51 with ⟨c_z51, e_z51, m_z51⟩ | ⟨e_z51, m_z51⟩
    · rw [e_z51]
      show xe none 143 15 [(0, .ref 256), (1, vi a), (2, vi b), (3, vi d)] [vi 1] s0 0 0 _
      refine x_if_eq k143_15 (t := 22) rfl ⟨by decide, by decide⟩ (fun c53 => by exfalso; omega) (fun c53 => ?_)
      refine x_A k143_18 (fun _ => rfl) ?_
      refine x_goto k143_19 (t := 23) rfl ?_
      refine x_istore k143_23 (ls' := [(4, vi a), (0, .ref 256), (1, vi a), (2, vi b), (3, vi d)]) (by decide) rfl ?_
      refine x_ls (l := [(0, .ref 256), (1, vi a), (2, vi b), (3, vi d), (4, vi a)]) (show ([0, 1, 2, 3, 4] : List Nat).Nodup from by decide +kernel) ⟨rfl, rfl, rfl, rfl, rfl, trivial⟩ ?_
      exact L_D_X11_isBelow_256_25 s0 hJ0 a b_a b b_b d b_d rk hrk  ((((rkm (rk d) a : Nat) : Int) + 1 : Int)).toNat s0 a b d a hG0 f0 (by first | exact x_rb b_a rfl rfl | exact ⟨by omega, by omega⟩) (by first | exact x_rb b_b rfl rfl | exact ⟨by omega, by omega⟩) (by first | exact x_rb b_d rfl rfl | exact ⟨by omega, by omega⟩) (by first | exact x_rb b_a rfl rfl | exact ⟨by omega, by omega⟩) (by omega) (by omega) (fun _ _ h => h)  (by omega)
    · rw [e_z51]
      show xe none 143 15 [(0, .ref 256), (1, vi a), (2, vi b), (3, vi d)] [vi 0] s0 0 0 _
      refine x_if_eq k143_15 (t := 22) rfl ⟨by decide, by decide⟩ (fun c54 => ?_) (fun c54 => by exfalso; omega)
      refine x_A k143_22 (fun _ => rfl) ?_
      refine x_istore k143_23 (ls' := [(4, vi (-1)), (0, .ref 256), (1, vi a), (2, vi b), (3, vi d)]) (by decide) rfl ?_
      refine x_ls (l := [(0, .ref 256), (1, vi a), (2, vi b), (3, vi d), (4, vi (-1))]) (show ([0, 1, 2, 3, 4] : List Nat).Nodup from by decide +kernel) ⟨rfl, rfl, rfl, rfl, rfl, trivial⟩ ?_
      exact L_D_X11_isBelow_256_25 s0 hJ0 a b_a b b_b d b_d rk hrk  ((((rkm (rk d) (-1) : Nat) : Int) + 1 : Int)).toNat s0 a b d (-1) hG0 f0 (by first | exact x_rb b_a rfl rfl | exact ⟨by omega, by omega⟩) (by first | exact x_rb b_b rfl rfl | exact ⟨by omega, by omega⟩) (by first | exact x_rb b_d rfl rfl | exact ⟨by omega, by omega⟩) ⟨by decide, by decide⟩ (by omega) (by omega) (fun h1 h2 h3 => by exfalso; omega)  (by omega)
  · rw [e_z48]
    show xe none 143 6 [(0, .ref 256), (1, vi a), (2, vi b), (3, vi d)] [vi 0] s0 0 0 _
    refine x_if_eq k143_6 (t := 22) rfl ⟨by decide, by decide⟩ (fun c55 => ?_) (fun c55 => by exfalso; omega)
    refine x_A k143_22 (fun _ => rfl) ?_
    refine x_istore k143_23 (ls' := [(4, vi (-1)), (0, .ref 256), (1, vi a), (2, vi b), (3, vi d)]) (by decide) rfl ?_
    refine x_ls (l := [(0, .ref 256), (1, vi a), (2, vi b), (3, vi d), (4, vi (-1))]) (show ([0, 1, 2, 3, 4] : List Nat).Nodup from by decide +kernel) ⟨rfl, rfl, rfl, rfl, rfl, trivial⟩ ?_
    exact L_D_X11_isBelow_256_25 s0 hJ0 a b_a b b_b d b_d rk hrk  ((((rkm (rk d) (-1) : Nat) : Int) + 1 : Int)).toNat s0 a b d (-1) hG0 f0 (by first | exact x_rb b_a rfl rfl | exact ⟨by omega, by omega⟩) (by first | exact x_rb b_b rfl rfl | exact ⟨by omega, by omega⟩) (by first | exact x_rb b_d rfl rfl | exact ⟨by omega, by omega⟩) ⟨by decide, by decide⟩ (by omega) (by omega) (fun h1 h2 h3 => by exfalso; omega)  (by omega)
theorem D_X11_move_256 (s0 : xS) (hG0 : GI s0) (a : Int) (b_a : (-2147483648) ≤ a ∧ a ≤ 2147483647) (b : Int) (b_b : (-2147483648) ≤ b ∧ b ≤ 2147483647) (i0_J : J s0) : xe none 147 0 (lv_args 0 [.ref 256, vi a, vi b]) [] s0 0 0 (fun s' v => GI s' ∧ FL [4352] s0 s' ∧ ∃ z, v = some (vi z) ∧ ((-1004) ≤ z ∧ z ≤ 39) ∧ J s') := by
  have f0 : FL [4352] s0 s0 := FL.rf
  show xe none 147 0 [(0, .ref 256), (1, vi a), (2, vi b)] [] s0 0 0 _
  refine x_A k147_0 (fun _ => rfl) ?_
  refine x_A k147_1 (fun _ => rfl) ?_
  obtain ⟨z1, e_z1⟩ : ∃ z, z = s0 256 1 := ⟨_, rfl⟩
  have g_z1 : (1 : Int) ≤ s0 256 1 ∧ s0 256 1 ≤ 40 := hG0 256 1
  refine x_callV k147_2 (y := 137) (n := 1) (w0 := 0) (w1 := 1) (as := [vi a]) (rest := []) (by decide +kernel) (q := 256) (nq := 62) (kq := 15) ⟨by decide, rfl⟩ rfl rfl rfl rfl (xe_mono (C_X11_isMark_256 s0 hG0 a (by first | exact x_rb b_a rfl rfl | exact ⟨by omega, by omega⟩)) ?_)
  rintro s3 v ⟨h_s3, z2, rfl, hz_z2⟩
  rw [h_s3]
  rcases hz_z2 with ⟨c_z2, e_z2⟩ | ⟨c_z2, e_z2⟩
  · rw [e_z2]
    show xe none 147 5 [(0, .ref 256), (1, vi a), (2, vi b)] [vi 1] s0 0 0 _
    refine x_if_eq k147_5 (t := 16) rfl ⟨by decide, by decide⟩ (fun c4 => by exfalso; omega) (fun c4 => ?_)
    refine x_A k147_8 (fun _ => rfl) ?_
    refine x_A k147_9 (fun _ => rfl) ?_
    refine x_callV k147_10 (y := 137) (n := 1) (w0 := 0) (w1 := 1) (as := [vi b]) (rest := []) (by decide +kernel) (q := 256) (nq := 62) (kq := 15) ⟨by decide, rfl⟩ rfl rfl rfl rfl (xe_mono (C_X11_isMark_256 s0 hG0 b (by first | exact x_rb b_b rfl rfl | exact ⟨by omega, by omega⟩)) ?_)
    rintro s6 v ⟨h_s6, z5, rfl, hz_z5⟩
    rw [h_s6]
    rcases hz_z5 with ⟨c_z5, e_z5⟩ | ⟨c_z5, e_z5⟩
    · rw [e_z5]
      show xe none 147 13 [(0, .ref 256), (1, vi a), (2, vi b)] [vi 1] s0 0 0 _
      refine x_if_ne k147_13 (t := 20) rfl ⟨by decide, by decide⟩ (fun c7 => ?_) (fun c7 => by exfalso; omega)
      refine x_A k147_20 (fun _ => rfl) ?_
      refine x_if_eq k147_21 (t := 61) rfl (by first | exact x_rb b_a rfl rfl | exact ⟨by omega, by omega⟩) (fun c8 => ?_) (fun c8 => ?_)
      · skip
        refine x_sipush k147_61 (by decide +kernel) ?_
        exact x_iret k147_64 rfl ⟨hG0, f0, (-1003), rfl, ⟨by decide, by decide⟩, i0_J⟩
      · skip
        refine x_A k147_24 (fun _ => rfl) ?_
        refine x_A k147_25 (fun _ => rfl) ?_
        refine x_A k147_26 (fun _ => rfl) ?_
        refine x_getI k147_27 (f := 0) rfl (q := 256) (n := 62) (kd := 15) ⟨by decide, rfl⟩ (by decide) rfl ?_
        refine x_top (fun z9 e_z9 => ?_)
        have g_z9 : (0 : Int) ≤ s0 256 0 ∧ s0 256 0 ≤ 9 := hG0 256 0
        refine x_callV k147_30 (y := 142) (n := 2) (w0 := 0) (w1 := 2) (as := [vi a, vi z9]) (rest := []) (by decide +kernel) (q := 256) (nq := 62) (kq := 15) ⟨by decide, rfl⟩ rfl rfl rfl rfl (xe_mono (C_X11_isThere_256 s0 hG0 a (by first | exact x_rb b_a rfl rfl | exact ⟨by omega, by omega⟩) z9 (by first | exact x_rbe e_z9 g_z9 rfl rfl | exact x_rb g_z9 rfl rfl | exact ⟨by omega, by omega⟩)) ?_)
        rintro s11 v ⟨h_s11, z10, rfl, hz_z10⟩
        rw [h_s11]
        rcases hz_z10 with ⟨c_z10, e_z10, m_z10⟩ | ⟨e_z10, m_z10⟩
        · rw [e_z10]
          show xe none 147 33 [(0, .ref 256), (1, vi a), (2, vi b)] [vi 1] s0 0 0 _
          refine x_if_eq k147_33 (t := 61) rfl ⟨by decide, by decide⟩ (fun c12 => by exfalso; omega) (fun c12 => ?_)
          refine x_A k147_36 (fun _ => rfl) ?_
          refine x_A k147_37 (fun _ => rfl) ?_
          refine x_A k147_38 (fun _ => rfl) ?_
          refine x_getI k147_39 (f := 0) rfl (q := 256) (n := 62) (kd := 15) ⟨by decide, rfl⟩ (by decide) rfl ?_
          rw [e_z9.symm]
          refine x_callV k147_42 (y := 142) (n := 2) (w0 := 0) (w1 := 2) (as := [vi b, vi z9]) (rest := []) (by decide +kernel) (q := 256) (nq := 62) (kq := 15) ⟨by decide, rfl⟩ rfl rfl rfl rfl (xe_mono (C_X11_isThere_256 s0 hG0 b (by first | exact x_rb b_b rfl rfl | exact ⟨by omega, by omega⟩) z9 (by first | exact x_rbe e_z9 g_z9 rfl rfl | exact x_rb g_z9 rfl rfl | exact ⟨by omega, by omega⟩)) ?_)
          rintro s14 v ⟨h_s14, z13, rfl, hz_z13⟩
          rw [h_s14]
          rcases hz_z13 with ⟨c_z13, e_z13, m_z13⟩ | ⟨e_z13, m_z13⟩
          · rw [e_z13]
            show xe none 147 45 [(0, .ref 256), (1, vi a), (2, vi b)] [vi 1] s0 0 0 _
            refine x_if_eq k147_45 (t := 61) rfl ⟨by decide, by decide⟩ (fun c15 => by exfalso; omega) (fun c15 => ?_)
            refine x_A k147_48 (fun _ => rfl) ?_
            refine x_A k147_49 (fun _ => rfl) ?_
            refine x_A k147_50 (fun _ => rfl) ?_
            refine x_A k147_51 (fun _ => rfl) ?_
            refine x_getI k147_52 (f := 0) rfl (q := 256) (n := 62) (kd := 15) ⟨by decide, rfl⟩ (by decide) rfl ?_
            rw [e_z9.symm]
            refine x_callV k147_55 (y := 143) (n := 3) (w0 := 0) (w1 := 3) (as := [vi b, vi a, vi z9]) (rest := []) (by decide +kernel) (q := 256) (nq := 62) (kq := 15) ⟨by decide, rfl⟩ rfl rfl rfl rfl (xe_mono (D_X11_isBelow_256 s0 hG0 i0_J b (by first | exact x_rb b_b rfl rfl | exact ⟨by omega, by omega⟩) a (by first | exact x_rb b_a rfl rfl | exact ⟨by omega, by omega⟩) z9 (by first | exact x_rbe e_z9 g_z9 rfl rfl | exact x_rb g_z9 rfl rfl | exact ⟨by omega, by omega⟩)) ?_)
            rintro s17 v ⟨-, t_s17, z16, rfl, g_z16, xp_z16⟩
            rw [t_s17.nil]
            try rw [t_s17.nil] at xp_z16
            show xe none 147 58 [(0, .ref 256), (1, vi a), (2, vi b)] [vi z16] s0 0 0 _
            refine x_if_eq k147_58 (t := 65) rfl (by first | exact x_rbe e_z16 g_z16 rfl rfl | exact x_rb g_z16 rfl rfl | exact ⟨by omega, by omega⟩) (fun c18 => ?_) (fun c18 => ?_)
            · skip
              refine x_A k147_65 (fun _ => rfl) ?_
              refine x_getR k147_66 (f := 5) rfl (q := 256) (n := 62) (kd := 15) ⟨by decide, rfl⟩ (q2 := 260) (by decide) rfl ?_
              refine x_bipush k147_69 (by decide +kernel) ?_
              refine x_A k147_71 (fun _ => rfl) ?_
              refine x_imul k147_72 ?_
              refine x_top (fun z19 e_z19 => ?_)
              refine x_A k147_73 (fun _ => rfl) ?_
              refine x_getI k147_74 (f := 0) rfl (q := 256) (n := 62) (kd := 15) ⟨by decide, rfl⟩ (by decide) rfl ?_
              rw [e_z9.symm]
              refine x_iadd k147_77 ?_
              refine x_top (fun z20 e_z20 => ?_)
              refine x_iald k147_78 (q := 260) (n := 400) ⟨by decide, rfl⟩ (by decide) (by first | exact x_rbel e_z20 g_z20 rfl rfl | exact x_rbl g_z20 rfl rfl | exact ⟨by omega, by omega⟩) ?_
              refine x_top (fun z21 e_z21 => ?_)
              have g_z21 : (-1) ≤ s0 260 z20.toNat ∧ s0 260 z20.toNat ≤ 39 := hG0 260 z20.toNat
              refine x_istore_n k147_79 (ls' := [(3, vi z21), (0, .ref 256), (1, vi a), (2, vi b)]) (by decide) rfl ?_
              refine x_A k147_80 (fun _ => rfl) ?_
              refine x_A k147_81 (fun _ => rfl) ?_
              refine x_A k147_82 (fun _ => rfl) ?_
              refine x_callV k147_83 (y := 140) (n := 2) (w0 := 0) (w1 := 2) (as := [vi a, vi b]) (rest := []) (by decide +kernel) (q := 256) (nq := 62) (kq := 15) ⟨by decide, rfl⟩ rfl rfl rfl rfl (xe_mono (D_X11_hang_256 s0 hG0 a (by first | exact x_rb b_a rfl rfl | exact ⟨by omega, by omega⟩) b (by first | exact x_rb b_b rfl rfl | exact ⟨by omega, by omega⟩)) ?_)
              rintro s23 v ⟨hG_s23, t_s23, rfl, xp_z22⟩
              have f_s23 : FL [4352] s0 s23 := f0.tr t_s23 (by decide +kernel)
              have q24 : s23 256 1 = z1 := (t_s23 256 1 (show 4098 ∉ [4352] from by decide +kernel)).trans e_z1.symm
              have q25 : s23 256 0 = z9 := (t_s23 256 0 (show 4097 ∉ [4352] from by decide +kernel)).trans e_z9.symm
              show xe none 147 86 [(3, vi z21), (0, .ref 256), (1, vi a), (2, vi b)] [] s23 0 0 _
              have J_h : J s23 := J.hang i0_J hG0 (m := a) (p := b) ⟨by omega, by omega⟩ ⟨by omega, by omega⟩ (by rw [← e_z9]; exact xp_z16 (by omega) (by omega) (by omega)) t_s23 xp_z22
              refine x_A k147_86 (fun _ => rfl) ?_
              exact x_iret k147_87 rfl ⟨hG_s23, f_s23, z21, rfl, (by first | exact x_rbe e_z21 g_z21 rfl rfl | exact x_rb g_z21 rfl rfl | exact ⟨by omega, by omega⟩), J_h⟩
            · skip
              refine x_sipush k147_61 (by decide +kernel) ?_
              exact x_iret k147_64 rfl ⟨hG0, f0, (-1003), rfl, ⟨by decide, by decide⟩, i0_J⟩
          · rw [e_z13]
            show xe none 147 45 [(0, .ref 256), (1, vi a), (2, vi b)] [vi 0] s0 0 0 _
            refine x_if_eq k147_45 (t := 61) rfl ⟨by decide, by decide⟩ (fun c26 => ?_) (fun c26 => by exfalso; omega)
            refine x_sipush k147_61 (by decide +kernel) ?_
            exact x_iret k147_64 rfl ⟨hG0, f0, (-1003), rfl, ⟨by decide, by decide⟩, i0_J⟩
        · rw [e_z10]
          show xe none 147 33 [(0, .ref 256), (1, vi a), (2, vi b)] [vi 0] s0 0 0 _
          refine x_if_eq k147_33 (t := 61) rfl ⟨by decide, by decide⟩ (fun c27 => ?_) (fun c27 => by exfalso; omega)
          refine x_sipush k147_61 (by decide +kernel) ?_
          exact x_iret k147_64 rfl ⟨hG0, f0, (-1003), rfl, ⟨by decide, by decide⟩, i0_J⟩
    · rw [e_z5]
      show xe none 147 13 [(0, .ref 256), (1, vi a), (2, vi b)] [vi 0] s0 0 0 _
      refine x_if_ne k147_13 (t := 20) rfl ⟨by decide, by decide⟩ (fun c28 => by exfalso; omega) (fun c28 => ?_)
      refine x_sipush k147_16 (by decide +kernel) ?_
      exact x_iret k147_19 rfl ⟨hG0, f0, (-1001), rfl, ⟨by decide, by decide⟩, i0_J⟩
  · rw [e_z2]
    show xe none 147 5 [(0, .ref 256), (1, vi a), (2, vi b)] [vi 0] s0 0 0 _
    refine x_if_eq k147_5 (t := 16) rfl ⟨by decide, by decide⟩ (fun c29 => ?_) (fun c29 => by exfalso; omega)
    refine x_sipush k147_16 (by decide +kernel) ?_
    exact x_iret k147_19 rfl ⟨hG0, f0, (-1001), rfl, ⟨by decide, by decide⟩, i0_J⟩
theorem D_X11_tell_256 (s0 : xS) (hG0 : GI s0) (a : Int) (b_a : (-1) ≤ a ∧ a ≤ 39) (p_256_1 : 1 ≤ s0 256 1 ∧ s0 256 1 ≤ 39) (pa : 0 ≤ a ∧ a < s0 256 1) (i0_J : J s0) : xe none 139 0 (lv_args 0 [.ref 256, vi a]) [] s0 0 0 (fun s' v => GI s' ∧ FL [4098, 4160, 4224, 4288, 4352] s0 s' ∧ v = none ∧ J s') := by
  have f0 : FL [4098, 4160, 4224, 4288, 4352] s0 s0 := FL.rf
  show xe none 139 0 [(0, .ref 256), (1, vi a)] [] s0 0 0 _
  obtain ⟨z1, e_z1⟩ : ∃ z, z = s0 256 1 := ⟨_, rfl⟩
  have g_z1 : (1 : Int) ≤ s0 256 1 ∧ s0 256 1 ≤ 40 := hG0 256 1
  refine x_A k139_0 (fun _ => rfl) ?_
  refine x_getR k139_1 (f := 2) rfl (q := 256) (n := 62) (kd := 15) ⟨by decide, rfl⟩ (q2 := 257) (by decide) rfl ?_
  refine x_A k139_4 (fun _ => rfl) ?_
  refine x_getI k139_5 (f := 1) rfl (q := 256) (n := 62) (kd := 15) ⟨by decide, rfl⟩ (by decide) rfl ?_
  rw [e_z1.symm]
  refine x_A k139_8 (fun _ => rfl) ?_
  refine x_getI k139_9 (f := 0) rfl (q := 256) (n := 62) (kd := 15) ⟨by decide, rfl⟩ (by decide) rfl ?_
  refine x_top (fun z2 e_z2 => ?_)
  have g_z2 : (0 : Int) ≤ s0 256 0 ∧ s0 256 0 ≤ 9 := hG0 256 0
  refine x_iast k139_12 (q := 257) (n := 40) ⟨by decide, rfl⟩ (by decide) (by first | exact x_rbel e_z1 g_z1 rfl rfl | exact x_rbl g_z1 rfl rfl | exact ⟨by omega, by omega⟩) ?_
  refine x_nh (fun s3 e_s3 => ?_)
  have hG_s3 : GI s3 := by rw [e_s3]; exact hG0.up (show 0 ≤ z2 ∧ z2 ≤ 9 from (by first | exact x_rbe e_z2 g_z2 rfl rfl | exact x_rb g_z2 rfl rfl | exact ⟨by omega, by omega⟩))
  have f_s3 : FL [4098, 4160, 4224, 4288, 4352] s0 s3 := by rw [e_s3]; exact f0.up (show 4160 ∈ [4098, 4160, 4224, 4288, 4352] from by decide +kernel)
  have q4 : s3 256 1 = z1 := by rw [e_s3, x_up_q (by decide)]; exact e_z1.symm
  have q5 : s3 256 0 = z2 := by rw [e_s3, x_up_q (by decide)]; exact e_z2.symm
  have q6 : s3 257 z1.toNat = z2 := by rw [e_s3]; exact x_up_same
  refine x_A k139_13 (fun _ => rfl) ?_
  refine x_getR k139_14 (f := 3) rfl (q := 256) (n := 62) (kd := 15) ⟨by decide, rfl⟩ (q2 := 258) (by decide) rfl ?_
  refine x_A k139_17 (fun _ => rfl) ?_
  refine x_getI k139_18 (f := 1) rfl (q := 256) (n := 62) (kd := 15) ⟨by decide, rfl⟩ (by decide) rfl ?_
  rw [q4]
  refine x_A k139_21 (fun _ => rfl) ?_
  refine x_iast k139_22 (q := 258) (n := 40) ⟨by decide, rfl⟩ (by decide) (by first | exact x_rbel e_z1 g_z1 rfl rfl | exact x_rbl g_z1 rfl rfl | exact ⟨by omega, by omega⟩) ?_
  refine x_nh (fun s7 e_s7 => ?_)
  have hG_s7 : GI s7 := by rw [e_s7]; exact hG_s3.up (show (-1) ≤ (-1) ∧ (-1) ≤ 9 from ⟨by decide, by decide⟩)
  have f_s7 : FL [4098, 4160, 4224, 4288, 4352] s0 s7 := by rw [e_s7]; exact f_s3.up (show 4224 ∈ [4098, 4160, 4224, 4288, 4352] from by decide +kernel)
  have q8 : s7 256 1 = z1 := by rw [e_s7, x_up_q (by decide)]; exact q4
  have q9 : s7 256 0 = z2 := by rw [e_s7, x_up_q (by decide)]; exact q5
  have q10 : s7 257 z1.toNat = z2 := by rw [e_s7, x_up_q (by first | decide | omega)]; exact q6
  have q11 : s7 258 z1.toNat = (-1) := by rw [e_s7]; exact x_up_same
  refine x_A k139_23 (fun _ => rfl) ?_
  refine x_getR k139_24 (f := 4) rfl (q := 256) (n := 62) (kd := 15) ⟨by decide, rfl⟩ (q2 := 259) (by decide) rfl ?_
  refine x_A k139_27 (fun _ => rfl) ?_
  refine x_getI k139_28 (f := 1) rfl (q := 256) (n := 62) (kd := 15) ⟨by decide, rfl⟩ (by decide) rfl ?_
  rw [q8]
  refine x_A k139_31 (fun _ => rfl) ?_
  refine x_iast k139_32 (q := 259) (n := 40) ⟨by decide, rfl⟩ (by decide) (by first | exact x_rbel e_z1 g_z1 rfl rfl | exact x_rbl g_z1 rfl rfl | exact ⟨by omega, by omega⟩) ?_
  refine x_nh (fun s12 e_s12 => ?_)
  have hG_s12 : GI s12 := by rw [e_s12]; exact hG_s7.up (show (-1) ≤ (-1) ∧ (-1) ≤ 39 from ⟨by decide, by decide⟩)
  have f_s12 : FL [4098, 4160, 4224, 4288, 4352] s0 s12 := by rw [e_s12]; exact f_s7.up (show 4288 ∈ [4098, 4160, 4224, 4288, 4352] from by decide +kernel)
  have q13 : s12 256 1 = z1 := by rw [e_s12, x_up_q (by decide)]; exact q8
  have q14 : s12 256 0 = z2 := by rw [e_s12, x_up_q (by decide)]; exact q9
  have q15 : s12 257 z1.toNat = z2 := by rw [e_s12, x_up_q (by first | decide | omega)]; exact q10
  have q16 : s12 258 z1.toNat = (-1) := by rw [e_s12, x_up_q (by first | decide | omega)]; exact q11
  have q17 : s12 259 z1.toNat = (-1) := by rw [e_s12]; exact x_up_same
  refine x_A k139_33 (fun _ => rfl) ?_
  refine x_A k139_34 (fun _ => rfl) ?_
  refine x_getI k139_35 (f := 1) rfl (q := 256) (n := 62) (kd := 15) ⟨by decide, rfl⟩ (by decide) rfl ?_
  rw [q13]
  refine x_A k139_38 (fun _ => rfl) ?_
  refine x_iadd k139_39 ?_
  refine x_top (fun z18 e_z18 => ?_)
  refine x_putI k139_40 (f := 1) rfl (q := 256) (n := 62) (kd := 15) ⟨by decide, rfl⟩ rfl rfl rfl ?_
  refine x_nh (fun s19 e_s19 => ?_)
  have hG_s19 : GI s19 := by rw [e_s19]; exact hG_s12.up (show 1 ≤ z18 ∧ z18 ≤ 40 from (by first | exact x_rbe e_z18 g_z18 rfl rfl | exact x_rb g_z18 rfl rfl | exact ⟨by omega, by omega⟩))
  have f_s19 : FL [4098, 4160, 4224, 4288, 4352] s0 s19 := by rw [e_s19]; exact f_s12.up (show 4098 ∈ [4098, 4160, 4224, 4288, 4352] from by decide +kernel)
  have q20 : s19 256 0 = z2 := by rw [e_s19, x_up_i (by decide)]; exact q14
  have q21 : s19 256 1 = z18 := by rw [e_s19]; exact x_up_same
  have q22 : s19 257 z1.toNat = z2 := by rw [e_s19, x_up_q (by first | decide | omega)]; exact q15
  have q23 : s19 258 z1.toNat = (-1) := by rw [e_s19, x_up_q (by first | decide | omega)]; exact q16
  have q24 : s19 259 z1.toNat = (-1) := by rw [e_s19, x_up_q (by first | decide | omega)]; exact q17
  refine x_A k139_43 (fun _ => rfl) ?_
  refine x_A k139_44 (fun _ => rfl) ?_
  refine x_getI k139_45 (f := 1) rfl (q := 256) (n := 62) (kd := 15) ⟨by decide, rfl⟩ (by decide) rfl ?_
  rw [q21]
  refine x_A k139_48 (fun _ => rfl) ?_
  refine x_isub k139_49 ?_
  refine x_top (fun z25 e_z25 => ?_)
  refine x_A k139_50 (fun _ => rfl) ?_
  have J_t : J s19 := by rw [e_s19, e_s12, e_s7, e_s3]; exact J.tell i0_J hG0 e_z1 e_z2 (by omega) (by omega)
  have x_t : ∀ k, xup s19 (s19 256 0) k a ≠ z1 := by rw [e_s19, e_s12, e_s7, e_s3]; exact J.tellx i0_J hG0 e_z1 (by omega)
  refine x_callV k139_51 (y := 140) (n := 2) (w0 := 0) (w1 := 2) (as := [vi z25, vi a]) (rest := []) (by decide +kernel) (q := 256) (nq := 62) (kq := 15) ⟨by decide, rfl⟩ rfl rfl rfl rfl (xe_mono (D_X11_hang_256 s19 hG_s19 z25 (by first | exact x_rbe e_z25 g_z25 rfl rfl | exact x_rb g_z25 rfl rfl | exact ⟨by omega, by omega⟩) a (by first | exact x_rb b_a rfl rfl | exact ⟨by omega, by omega⟩)) ?_)
  rintro s27 v ⟨hG_s27, t_s27, rfl, xp_z26⟩
  have f_s27 : FL [4098, 4160, 4224, 4288, 4352] s0 s27 := f_s19.tr t_s27 (by decide +kernel)
  have q28 : s27 256 0 = z2 := (t_s27 256 0 (show 4097 ∉ [4352] from by decide +kernel)).trans q20
  have q29 : s27 256 1 = z18 := (t_s27 256 1 (show 4098 ∉ [4352] from by decide +kernel)).trans q21
  have q30 : s27 257 z1.toNat = z2 := (t_s27 257 z1.toNat (show 4160 ∉ [4352] from by decide +kernel)).trans q22
  have q31 : s27 258 z1.toNat = (-1) := (t_s27 258 z1.toNat (show 4224 ∉ [4352] from by decide +kernel)).trans q23
  have q32 : s27 259 z1.toNat = (-1) := (t_s27 259 z1.toNat (show 4288 ∉ [4352] from by decide +kernel)).trans q24
  show xe none 139 54 [(0, .ref 256), (1, vi a)] [] s27 0 0 _
  have J_h : J s27 := J.hang J_t hG_s19 (m := z25) (p := a) ⟨by omega, by omega⟩ ⟨by omega, by rw [q21]; omega⟩ (by rw [show z25 = z1 by omega]; exact x_t) t_s27 xp_z26
  exact x_vret k139_54 rfl ⟨hG_s27, f_s27, rfl, J_h⟩
theorem D_X11_mark_256 (s0 : xS) (hG0 : GI s0) (a : Int) (b_a : (-2147483648) ≤ a ∧ a ≤ 2147483647) (i0_J : J s0) : xe none 146 0 (lv_args 0 [.ref 256, vi a]) [] s0 0 0 (fun s' v => GI s' ∧ FL [4098, 4160, 4224, 4288, 4352] s0 s' ∧ ∃ z, v = some (vi z) ∧ ((-1004) ≤ z ∧ z ≤ 39) ∧ J s') := by
  have f0 : FL [4098, 4160, 4224, 4288, 4352] s0 s0 := FL.rf
  show xe none 146 0 [(0, .ref 256), (1, vi a)] [] s0 0 0 _
  refine x_A k146_0 (fun _ => rfl) ?_
  refine x_A k146_1 (fun _ => rfl) ?_
  obtain ⟨z1, e_z1⟩ : ∃ z, z = s0 256 1 := ⟨_, rfl⟩
  have g_z1 : (1 : Int) ≤ s0 256 1 ∧ s0 256 1 ≤ 40 := hG0 256 1
  refine x_callV k146_2 (y := 137) (n := 1) (w0 := 0) (w1 := 1) (as := [vi a]) (rest := []) (by decide +kernel) (q := 256) (nq := 62) (kq := 15) ⟨by decide, rfl⟩ rfl rfl rfl rfl (xe_mono (C_X11_isMark_256 s0 hG0 a (by first | exact x_rb b_a rfl rfl | exact ⟨by omega, by omega⟩)) ?_)
  rintro s3 v ⟨h_s3, z2, rfl, hz_z2⟩
  rw [h_s3]
  rcases hz_z2 with ⟨c_z2, e_z2⟩ | ⟨c_z2, e_z2⟩
  · rw [e_z2]
    show xe none 146 5 [(0, .ref 256), (1, vi a)] [vi 1] s0 0 0 _
    refine x_if_ne k146_5 (t := 12) rfl ⟨by decide, by decide⟩ (fun c4 => ?_) (fun c4 => by exfalso; omega)
    refine x_A k146_12 (fun _ => rfl) ?_
    refine x_A k146_13 (fun _ => rfl) ?_
    refine x_A k146_14 (fun _ => rfl) ?_
    refine x_getI k146_15 (f := 0) rfl (q := 256) (n := 62) (kd := 15) ⟨by decide, rfl⟩ (by decide) rfl ?_
    refine x_top (fun z5 e_z5 => ?_)
    have g_z5 : (0 : Int) ≤ s0 256 0 ∧ s0 256 0 ≤ 9 := hG0 256 0
    refine x_callV k146_18 (y := 142) (n := 2) (w0 := 0) (w1 := 2) (as := [vi a, vi z5]) (rest := []) (by decide +kernel) (q := 256) (nq := 62) (kq := 15) ⟨by decide, rfl⟩ rfl rfl rfl rfl (xe_mono (C_X11_isThere_256 s0 hG0 a (by first | exact x_rb b_a rfl rfl | exact ⟨by omega, by omega⟩) z5 (by first | exact x_rbe e_z5 g_z5 rfl rfl | exact x_rb g_z5 rfl rfl | exact ⟨by omega, by omega⟩)) ?_)
    rintro s7 v ⟨h_s7, z6, rfl, hz_z6⟩
    rw [h_s7]
    rcases hz_z6 with ⟨c_z6, e_z6, m_z6⟩ | ⟨e_z6, m_z6⟩
    · rw [e_z6]
      show xe none 146 21 [(0, .ref 256), (1, vi a)] [vi 1] s0 0 0 _
      refine x_if_ne k146_21 (t := 28) rfl ⟨by decide, by decide⟩ (fun c8 => ?_) (fun c8 => by exfalso; omega)
      refine x_A k146_28 (fun _ => rfl) ?_
      refine x_getI k146_29 (f := 1) rfl (q := 256) (n := 62) (kd := 15) ⟨by decide, rfl⟩ (by decide) rfl ?_
      rw [e_z1.symm]
      refine x_bipush k146_32 (by decide +kernel) ?_
      refine x_ic_ne k146_34 (t := 41) rfl (by first | exact x_rbe e_z1 g_z1 rfl rfl | exact x_rb g_z1 rfl rfl | exact ⟨by omega, by omega⟩) ⟨by decide, by decide⟩ (fun c9 => ?_) (fun c9 => ?_)
      · skip
        refine x_A k146_41 (fun _ => rfl) ?_
        refine x_A k146_42 (fun _ => rfl) ?_
        refine x_callV k146_43 (y := 139) (n := 1) (w0 := 0) (w1 := 1) (as := [vi a]) (rest := []) (by decide +kernel) (q := 256) (nq := 62) (kq := 15) ⟨by decide, rfl⟩ rfl rfl rfl rfl (xe_mono (D_X11_tell_256 s0 hG0 a (by first | exact x_rb b_a rfl rfl | exact ⟨by omega, by omega⟩) ⟨by omega, by omega⟩ (by omega) i0_J) ?_)
        rintro s11 v ⟨hG_s11, t_s11, rfl, J_s11⟩
        have f_s11 : FL [4098, 4160, 4224, 4288, 4352] s0 s11 := f0.tr t_s11 (by decide +kernel)
        have q12 : s11 256 0 = z5 := (t_s11 256 0 (show 4097 ∉ [4098, 4160, 4224, 4288, 4352] from by decide +kernel)).trans e_z5.symm
        show xe none 146 46 [(0, .ref 256), (1, vi a)] [] s11 0 0 _
        refine x_A k146_46 (fun _ => rfl) ?_
        refine x_getI k146_47 (f := 1) rfl (q := 256) (n := 62) (kd := 15) ⟨by decide, rfl⟩ (by decide) rfl ?_
        refine x_top (fun z13 e_z13 => ?_)
        have g_z13 : (1 : Int) ≤ s11 256 1 ∧ s11 256 1 ≤ 40 := hG_s11 256 1
        refine x_A k146_50 (fun _ => rfl) ?_
        refine x_isub k146_51 ?_
        refine x_top (fun z14 e_z14 => ?_)
        exact x_iret k146_52 rfl ⟨hG_s11, f_s11, z14, rfl, (by first | exact x_rbe e_z14 g_z14 rfl rfl | exact x_rb g_z14 rfl rfl | exact ⟨by omega, by omega⟩), J_s11⟩
      · skip
        refine x_sipush k146_37 (by decide +kernel) ?_
        exact x_iret k146_40 rfl ⟨hG0, f0, (-1004), rfl, ⟨by decide, by decide⟩, i0_J⟩
    · rw [e_z6]
      show xe none 146 21 [(0, .ref 256), (1, vi a)] [vi 0] s0 0 0 _
      refine x_if_ne k146_21 (t := 28) rfl ⟨by decide, by decide⟩ (fun c15 => by exfalso; omega) (fun c15 => ?_)
      refine x_sipush k146_24 (by decide +kernel) ?_
      exact x_iret k146_27 rfl ⟨hG0, f0, (-1003), rfl, ⟨by decide, by decide⟩, i0_J⟩
  · rw [e_z2]
    show xe none 146 5 [(0, .ref 256), (1, vi a)] [vi 0] s0 0 0 _
    refine x_if_ne k146_5 (t := 12) rfl ⟨by decide, by decide⟩ (fun c16 => by exfalso; omega) (fun c16 => ?_)
    refine x_sipush k146_8 (by decide +kernel) ?_
    exact x_iret k146_11 rfl ⟨hG0, f0, (-1001), rfl, ⟨by decide, by decide⟩, i0_J⟩
theorem D_X11_end_256 (s0 : xS) (hG0 : GI s0) (a : Int) (b_a : (-2147483648) ≤ a ∧ a ≤ 2147483647) (b : Int) (b_b : (-2147483648) ≤ b ∧ b ≤ 2147483647) (i0_J : J s0) : xe none 148 0 (lv_args 0 [.ref 256, vi a, vi b]) [] s0 0 0 (fun s' v => GI s' ∧ FL [4224, 4288] s0 s' ∧ ∃ z, v = some (vi z) ∧ ((-1004) ≤ z ∧ z ≤ 39) ∧ J s') := by
  have f0 : FL [4224, 4288] s0 s0 := FL.rf
  show xe none 148 0 [(0, .ref 256), (1, vi a), (2, vi b)] [] s0 0 0 _
  refine x_A k148_0 (fun _ => rfl) ?_
  refine x_A k148_1 (fun _ => rfl) ?_
  obtain ⟨z1, e_z1⟩ : ∃ z, z = s0 256 1 := ⟨_, rfl⟩
  have g_z1 : (1 : Int) ≤ s0 256 1 ∧ s0 256 1 ≤ 40 := hG0 256 1
  refine x_callV k148_2 (y := 137) (n := 1) (w0 := 0) (w1 := 1) (as := [vi a]) (rest := []) (by decide +kernel) (q := 256) (nq := 62) (kq := 15) ⟨by decide, rfl⟩ rfl rfl rfl rfl (xe_mono (C_X11_isMark_256 s0 hG0 a (by first | exact x_rb b_a rfl rfl | exact ⟨by omega, by omega⟩)) ?_)
  rintro s3 v ⟨h_s3, z2, rfl, hz_z2⟩
  rw [h_s3]
  rcases hz_z2 with ⟨c_z2, e_z2⟩ | ⟨c_z2, e_z2⟩
  · rw [e_z2]
    show xe none 148 5 [(0, .ref 256), (1, vi a), (2, vi b)] [vi 1] s0 0 0 _
    refine x_if_eq k148_5 (t := 21) rfl ⟨by decide, by decide⟩ (fun c4 => by exfalso; omega) (fun c4 => ?_)
    refine x_A k148_8 (fun _ => rfl) ?_
    refine x_A k148_9 (fun _ => rfl) ?_
    refine x_ic_eq k148_10 (t := 25) rfl (by first | exact x_rb b_b rfl rfl | exact ⟨by omega, by omega⟩) ⟨by decide, by decide⟩ (fun c5 => ?_) (fun c5 => ?_)
    · skip
      refine x_A k148_25 (fun _ => rfl) ?_
      refine x_if_eq k148_26 (t := 63) rfl (by first | exact x_rb b_a rfl rfl | exact ⟨by omega, by omega⟩) (fun c6 => ?_) (fun c6 => ?_)
      · skip
        refine x_sipush k148_63 (by decide +kernel) ?_
        exact x_iret k148_66 rfl ⟨hG0, f0, (-1003), rfl, ⟨by decide, by decide⟩, i0_J⟩
      · skip
        refine x_A k148_29 (fun _ => rfl) ?_
        refine x_A k148_30 (fun _ => rfl) ?_
        refine x_ic_eq k148_31 (t := 63) rfl (by first | exact x_rb b_a rfl rfl | exact ⟨by omega, by omega⟩) (by first | exact x_rb b_b rfl rfl | exact ⟨by omega, by omega⟩) (fun c7 => by exfalso; omega) (fun c7 => ?_)
        refine x_A k148_34 (fun _ => rfl) ?_
        refine x_A k148_35 (fun _ => rfl) ?_
        refine x_A k148_36 (fun _ => rfl) ?_
        refine x_getI k148_37 (f := 0) rfl (q := 256) (n := 62) (kd := 15) ⟨by decide, rfl⟩ (by decide) rfl ?_
        refine x_top (fun z8 e_z8 => ?_)
        have g_z8 : (0 : Int) ≤ s0 256 0 ∧ s0 256 0 ≤ 9 := hG0 256 0
        refine x_callV k148_40 (y := 142) (n := 2) (w0 := 0) (w1 := 2) (as := [vi a, vi z8]) (rest := []) (by decide +kernel) (q := 256) (nq := 62) (kq := 15) ⟨by decide, rfl⟩ rfl rfl rfl rfl (xe_mono (C_X11_isThere_256 s0 hG0 a (by first | exact x_rb b_a rfl rfl | exact ⟨by omega, by omega⟩) z8 (by first | exact x_rbe e_z8 g_z8 rfl rfl | exact x_rb g_z8 rfl rfl | exact ⟨by omega, by omega⟩)) ?_)
        rintro s10 v ⟨h_s10, z9, rfl, hz_z9⟩
        rw [h_s10]
        rcases hz_z9 with ⟨c_z9, e_z9, m_z9⟩ | ⟨e_z9, m_z9⟩
        · rw [e_z9]
          show xe none 148 43 [(0, .ref 256), (1, vi a), (2, vi b)] [vi 1] s0 0 0 _
          refine x_if_eq k148_43 (t := 63) rfl ⟨by decide, by decide⟩ (fun c11 => by exfalso; omega) (fun c11 => ?_)
          refine x_A k148_46 (fun _ => rfl) ?_
          refine x_A k148_47 (fun _ => rfl) ?_
          refine x_ic_eq k148_48 (t := 67) rfl (by first | exact x_rb b_b rfl rfl | exact ⟨by omega, by omega⟩) ⟨by decide, by decide⟩ (fun c12 => ?_) (fun c12 => by exfalso; omega)
          refine x_A k148_67 (fun _ => rfl) ?_
          refine x_getR k148_68 (f := 3) rfl (q := 256) (n := 62) (kd := 15) ⟨by decide, rfl⟩ (q2 := 258) (by decide) rfl ?_
          refine x_A k148_71 (fun _ => rfl) ?_
          refine x_A k148_72 (fun _ => rfl) ?_
          refine x_getI k148_73 (f := 0) rfl (q := 256) (n := 62) (kd := 15) ⟨by decide, rfl⟩ (by decide) rfl ?_
          rw [e_z8.symm]
          refine x_iast k148_76 (q := 258) (n := 40) ⟨by decide, rfl⟩ (by decide) (by first | exact x_rbl b_a rfl rfl | exact ⟨by omega, by omega⟩) ?_
          refine x_nh (fun s13 e_s13 => ?_)
          have hG_s13 : GI s13 := by rw [e_s13]; exact hG0.up (show (-1) ≤ z8 ∧ z8 ≤ 9 from (by first | exact x_rbe e_z8 g_z8 rfl rfl | exact x_rb g_z8 rfl rfl | exact ⟨by omega, by omega⟩))
          have f_s13 : FL [4224, 4288] s0 s13 := by rw [e_s13]; exact f0.up (show 4224 ∈ [4224, 4288] from by decide +kernel)
          have q14 : s13 256 1 = z1 := by rw [e_s13, x_up_q (by decide)]; exact e_z1.symm
          have q15 : s13 256 0 = z8 := by rw [e_s13, x_up_q (by decide)]; exact e_z8.symm
          have q16 : s13 258 a.toNat = z8 := by rw [e_s13]; exact x_up_same
          refine x_A k148_77 (fun _ => rfl) ?_
          refine x_getR k148_78 (f := 4) rfl (q := 256) (n := 62) (kd := 15) ⟨by decide, rfl⟩ (q2 := 259) (by decide) rfl ?_
          refine x_A k148_81 (fun _ => rfl) ?_
          refine x_A k148_82 (fun _ => rfl) ?_
          refine x_iast k148_83 (q := 259) (n := 40) ⟨by decide, rfl⟩ (by decide) (by first | exact x_rbl b_a rfl rfl | exact ⟨by omega, by omega⟩) ?_
          refine x_nh (fun s17 e_s17 => ?_)
          have hG_s17 : GI s17 := by rw [e_s17]; exact hG_s13.up (show (-1) ≤ b ∧ b ≤ 39 from (by first | exact x_rb b_b rfl rfl | exact ⟨by omega, by omega⟩))
          have f_s17 : FL [4224, 4288] s0 s17 := by rw [e_s17]; exact f_s13.up (show 4288 ∈ [4224, 4288] from by decide +kernel)
          have q18 : s17 256 1 = z1 := by rw [e_s17, x_up_q (by decide)]; exact q14
          have q19 : s17 256 0 = z8 := by rw [e_s17, x_up_q (by decide)]; exact q15
          have q20 : s17 258 a.toNat = z8 := by rw [e_s17, x_up_q (by first | decide | omega)]; exact q16
          have q21 : s17 259 a.toNat = b := by rw [e_s17]; exact x_up_same
          have J_e : J s17 := by rw [e_s17, e_s13]; exact J.end i0_J hG0 e_z8 ⟨by omega, by omega⟩ (by omega) (by omega)
          refine x_A k148_84 (fun _ => rfl) ?_
          refine x_A k148_85 (fun _ => rfl) ?_
          refine x_A k148_86 (fun _ => rfl) ?_
          refine x_getI k148_87 (f := 0) rfl (q := 256) (n := 62) (kd := 15) ⟨by decide, rfl⟩ (by decide) rfl ?_
          rw [q19]
          refine x_callV k148_90 (y := 144) (n := 2) (w0 := 0) (w1 := 2) (as := [vi a, vi z8]) (rest := []) (by decide +kernel) (q := 256) (nq := 62) (kq := 15) ⟨by decide, rfl⟩ rfl rfl rfl rfl (xe_mono (C_X11_belowMany_256 s17 hG_s17 J_e a (by first | exact x_rb b_a rfl rfl | exact ⟨by omega, by omega⟩) z8 (by first | exact x_rbe e_z8 g_z8 rfl rfl | exact x_rb g_z8 rfl rfl | exact ⟨by omega, by omega⟩)) ?_)
          rintro s23 v ⟨-, t_s23, z22, rfl, g_z22⟩
          rw [t_s23.nil]
          show xe none 148 93 [(0, .ref 256), (1, vi a), (2, vi b)] [vi z22] s17 0 0 _
          refine x_A k148_93 (fun _ => rfl) ?_
          refine x_isub k148_94 ?_
          refine x_top (fun z24 e_z24 => ?_)
          exact x_iret k148_95 rfl ⟨hG_s17, f_s17, z24, rfl, (by first | exact x_rbe e_z24 g_z24 rfl rfl | exact x_rb g_z24 rfl rfl | exact ⟨by omega, by omega⟩), J_e⟩
        · rw [e_z9]
          show xe none 148 43 [(0, .ref 256), (1, vi a), (2, vi b)] [vi 0] s0 0 0 _
          refine x_if_eq k148_43 (t := 63) rfl ⟨by decide, by decide⟩ (fun c25 => ?_) (fun c25 => by exfalso; omega)
          refine x_sipush k148_63 (by decide +kernel) ?_
          exact x_iret k148_66 rfl ⟨hG0, f0, (-1003), rfl, ⟨by decide, by decide⟩, i0_J⟩
    · skip
      refine x_A k148_13 (fun _ => rfl) ?_
      refine x_A k148_14 (fun _ => rfl) ?_
      refine x_callV k148_15 (y := 137) (n := 1) (w0 := 0) (w1 := 1) (as := [vi b]) (rest := []) (by decide +kernel) (q := 256) (nq := 62) (kq := 15) ⟨by decide, rfl⟩ rfl rfl rfl rfl (xe_mono (C_X11_isMark_256 s0 hG0 b (by first | exact x_rb b_b rfl rfl | exact ⟨by omega, by omega⟩)) ?_)
      rintro s27 v ⟨h_s27, z26, rfl, hz_z26⟩
      rw [h_s27]
      rcases hz_z26 with ⟨c_z26, e_z26⟩ | ⟨c_z26, e_z26⟩
      · rw [e_z26]
        show xe none 148 18 [(0, .ref 256), (1, vi a), (2, vi b)] [vi 1] s0 0 0 _
        refine x_if_ne k148_18 (t := 25) rfl ⟨by decide, by decide⟩ (fun c28 => ?_) (fun c28 => by exfalso; omega)
        refine x_A k148_25 (fun _ => rfl) ?_
        refine x_if_eq k148_26 (t := 63) rfl (by first | exact x_rb b_a rfl rfl | exact ⟨by omega, by omega⟩) (fun c29 => ?_) (fun c29 => ?_)
        · skip
          refine x_sipush k148_63 (by decide +kernel) ?_
          exact x_iret k148_66 rfl ⟨hG0, f0, (-1003), rfl, ⟨by decide, by decide⟩, i0_J⟩
        · skip
          refine x_A k148_29 (fun _ => rfl) ?_
          refine x_A k148_30 (fun _ => rfl) ?_
          refine x_ic_eq k148_31 (t := 63) rfl (by first | exact x_rb b_a rfl rfl | exact ⟨by omega, by omega⟩) (by first | exact x_rb b_b rfl rfl | exact ⟨by omega, by omega⟩) (fun c30 => ?_) (fun c30 => ?_)
          · skip
            refine x_sipush k148_63 (by decide +kernel) ?_
            exact x_iret k148_66 rfl ⟨hG0, f0, (-1003), rfl, ⟨by decide, by decide⟩, i0_J⟩
          · skip
            refine x_A k148_34 (fun _ => rfl) ?_
            refine x_A k148_35 (fun _ => rfl) ?_
            refine x_A k148_36 (fun _ => rfl) ?_
            refine x_getI k148_37 (f := 0) rfl (q := 256) (n := 62) (kd := 15) ⟨by decide, rfl⟩ (by decide) rfl ?_
            refine x_top (fun z31 e_z31 => ?_)
            have g_z31 : (0 : Int) ≤ s0 256 0 ∧ s0 256 0 ≤ 9 := hG0 256 0
            refine x_callV k148_40 (y := 142) (n := 2) (w0 := 0) (w1 := 2) (as := [vi a, vi z31]) (rest := []) (by decide +kernel) (q := 256) (nq := 62) (kq := 15) ⟨by decide, rfl⟩ rfl rfl rfl rfl (xe_mono (C_X11_isThere_256 s0 hG0 a (by first | exact x_rb b_a rfl rfl | exact ⟨by omega, by omega⟩) z31 (by first | exact x_rbe e_z31 g_z31 rfl rfl | exact x_rb g_z31 rfl rfl | exact ⟨by omega, by omega⟩)) ?_)
            rintro s33 v ⟨h_s33, z32, rfl, hz_z32⟩
            rw [h_s33]
            rcases hz_z32 with ⟨c_z32, e_z32, m_z32⟩ | ⟨e_z32, m_z32⟩
            · rw [e_z32]
              show xe none 148 43 [(0, .ref 256), (1, vi a), (2, vi b)] [vi 1] s0 0 0 _
              refine x_if_eq k148_43 (t := 63) rfl ⟨by decide, by decide⟩ (fun c34 => by exfalso; omega) (fun c34 => ?_)
              refine x_A k148_46 (fun _ => rfl) ?_
              refine x_A k148_47 (fun _ => rfl) ?_
              refine x_ic_eq k148_48 (t := 67) rfl (by first | exact x_rb b_b rfl rfl | exact ⟨by omega, by omega⟩) ⟨by decide, by decide⟩ (fun c35 => by exfalso; omega) (fun c35 => ?_)
              refine x_A k148_51 (fun _ => rfl) ?_
              refine x_A k148_52 (fun _ => rfl) ?_
              refine x_A k148_53 (fun _ => rfl) ?_
              refine x_getI k148_54 (f := 0) rfl (q := 256) (n := 62) (kd := 15) ⟨by decide, rfl⟩ (by decide) rfl ?_
              rw [e_z31.symm]
              refine x_callV k148_57 (y := 142) (n := 2) (w0 := 0) (w1 := 2) (as := [vi b, vi z31]) (rest := []) (by decide +kernel) (q := 256) (nq := 62) (kq := 15) ⟨by decide, rfl⟩ rfl rfl rfl rfl (xe_mono (C_X11_isThere_256 s0 hG0 b (by first | exact x_rb b_b rfl rfl | exact ⟨by omega, by omega⟩) z31 (by first | exact x_rbe e_z31 g_z31 rfl rfl | exact x_rb g_z31 rfl rfl | exact ⟨by omega, by omega⟩)) ?_)
              rintro s37 v ⟨h_s37, z36, rfl, hz_z36⟩
              rw [h_s37]
              rcases hz_z36 with ⟨c_z36, e_z36, m_z36⟩ | ⟨e_z36, m_z36⟩
              · rw [e_z36]
                show xe none 148 60 [(0, .ref 256), (1, vi a), (2, vi b)] [vi 1] s0 0 0 _
                refine x_if_ne k148_60 (t := 67) rfl ⟨by decide, by decide⟩ (fun c38 => ?_) (fun c38 => by exfalso; omega)
                refine x_A k148_67 (fun _ => rfl) ?_
                refine x_getR k148_68 (f := 3) rfl (q := 256) (n := 62) (kd := 15) ⟨by decide, rfl⟩ (q2 := 258) (by decide) rfl ?_
                refine x_A k148_71 (fun _ => rfl) ?_
                refine x_A k148_72 (fun _ => rfl) ?_
                refine x_getI k148_73 (f := 0) rfl (q := 256) (n := 62) (kd := 15) ⟨by decide, rfl⟩ (by decide) rfl ?_
                rw [e_z31.symm]
                refine x_iast k148_76 (q := 258) (n := 40) ⟨by decide, rfl⟩ (by decide) (by first | exact x_rbl b_a rfl rfl | exact ⟨by omega, by omega⟩) ?_
                refine x_nh (fun s39 e_s39 => ?_)
                have hG_s39 : GI s39 := by rw [e_s39]; exact hG0.up (show (-1) ≤ z31 ∧ z31 ≤ 9 from (by first | exact x_rbe e_z31 g_z31 rfl rfl | exact x_rb g_z31 rfl rfl | exact ⟨by omega, by omega⟩))
                have f_s39 : FL [4224, 4288] s0 s39 := by rw [e_s39]; exact f0.up (show 4224 ∈ [4224, 4288] from by decide +kernel)
                have q40 : s39 256 1 = z1 := by rw [e_s39, x_up_q (by decide)]; exact e_z1.symm
                have q41 : s39 256 0 = z31 := by rw [e_s39, x_up_q (by decide)]; exact e_z31.symm
                have q42 : s39 258 a.toNat = z31 := by rw [e_s39]; exact x_up_same
                refine x_A k148_77 (fun _ => rfl) ?_
                refine x_getR k148_78 (f := 4) rfl (q := 256) (n := 62) (kd := 15) ⟨by decide, rfl⟩ (q2 := 259) (by decide) rfl ?_
                refine x_A k148_81 (fun _ => rfl) ?_
                refine x_A k148_82 (fun _ => rfl) ?_
                refine x_iast k148_83 (q := 259) (n := 40) ⟨by decide, rfl⟩ (by decide) (by first | exact x_rbl b_a rfl rfl | exact ⟨by omega, by omega⟩) ?_
                refine x_nh (fun s43 e_s43 => ?_)
                have hG_s43 : GI s43 := by rw [e_s43]; exact hG_s39.up (show (-1) ≤ b ∧ b ≤ 39 from (by first | exact x_rb b_b rfl rfl | exact ⟨by omega, by omega⟩))
                have f_s43 : FL [4224, 4288] s0 s43 := by rw [e_s43]; exact f_s39.up (show 4288 ∈ [4224, 4288] from by decide +kernel)
                have q44 : s43 256 1 = z1 := by rw [e_s43, x_up_q (by decide)]; exact q40
                have q45 : s43 256 0 = z31 := by rw [e_s43, x_up_q (by decide)]; exact q41
                have q46 : s43 258 a.toNat = z31 := by rw [e_s43, x_up_q (by first | decide | omega)]; exact q42
                have q47 : s43 259 a.toNat = b := by rw [e_s43]; exact x_up_same
                have J_e : J s43 := by rw [e_s43, e_s39]; exact J.end i0_J hG0 e_z31 ⟨by omega, by omega⟩ (by omega) (by omega)
                refine x_A k148_84 (fun _ => rfl) ?_
                refine x_A k148_85 (fun _ => rfl) ?_
                refine x_A k148_86 (fun _ => rfl) ?_
                refine x_getI k148_87 (f := 0) rfl (q := 256) (n := 62) (kd := 15) ⟨by decide, rfl⟩ (by decide) rfl ?_
                rw [q45]
                refine x_callV k148_90 (y := 144) (n := 2) (w0 := 0) (w1 := 2) (as := [vi a, vi z31]) (rest := []) (by decide +kernel) (q := 256) (nq := 62) (kq := 15) ⟨by decide, rfl⟩ rfl rfl rfl rfl (xe_mono (C_X11_belowMany_256 s43 hG_s43 J_e a (by first | exact x_rb b_a rfl rfl | exact ⟨by omega, by omega⟩) z31 (by first | exact x_rbe e_z31 g_z31 rfl rfl | exact x_rb g_z31 rfl rfl | exact ⟨by omega, by omega⟩)) ?_)
                rintro s49 v ⟨-, t_s49, z48, rfl, g_z48⟩
                rw [t_s49.nil]
                show xe none 148 93 [(0, .ref 256), (1, vi a), (2, vi b)] [vi z48] s43 0 0 _
                refine x_A k148_93 (fun _ => rfl) ?_
                refine x_isub k148_94 ?_
                refine x_top (fun z50 e_z50 => ?_)
                exact x_iret k148_95 rfl ⟨hG_s43, f_s43, z50, rfl, (by first | exact x_rbe e_z50 g_z50 rfl rfl | exact x_rb g_z50 rfl rfl | exact ⟨by omega, by omega⟩), J_e⟩
              · rw [e_z36]
                show xe none 148 60 [(0, .ref 256), (1, vi a), (2, vi b)] [vi 0] s0 0 0 _
                refine x_if_ne k148_60 (t := 67) rfl ⟨by decide, by decide⟩ (fun c51 => by exfalso; omega) (fun c51 => ?_)
                refine x_sipush k148_63 (by decide +kernel) ?_
                exact x_iret k148_66 rfl ⟨hG0, f0, (-1003), rfl, ⟨by decide, by decide⟩, i0_J⟩
            · rw [e_z32]
              show xe none 148 43 [(0, .ref 256), (1, vi a), (2, vi b)] [vi 0] s0 0 0 _
              refine x_if_eq k148_43 (t := 63) rfl ⟨by decide, by decide⟩ (fun c52 => ?_) (fun c52 => by exfalso; omega)
              refine x_sipush k148_63 (by decide +kernel) ?_
              exact x_iret k148_66 rfl ⟨hG0, f0, (-1003), rfl, ⟨by decide, by decide⟩, i0_J⟩
      · rw [e_z26]
        show xe none 148 18 [(0, .ref 256), (1, vi a), (2, vi b)] [vi 0] s0 0 0 _
        refine x_if_ne k148_18 (t := 25) rfl ⟨by decide, by decide⟩ (fun c53 => by exfalso; omega) (fun c53 => ?_)
        refine x_sipush k148_21 (by decide +kernel) ?_
        exact x_iret k148_24 rfl ⟨hG0, f0, (-1001), rfl, ⟨by decide, by decide⟩, i0_J⟩
  · rw [e_z2]
    show xe none 148 5 [(0, .ref 256), (1, vi a), (2, vi b)] [vi 0] s0 0 0 _
    refine x_if_eq k148_5 (t := 21) rfl ⟨by decide, by decide⟩ (fun c54 => ?_) (fun c54 => by exfalso; omega)
    refine x_sipush k148_21 (by decide +kernel) ?_
    exact x_iret k148_24 rfl ⟨hG0, f0, (-1001), rfl, ⟨by decide, by decide⟩, i0_J⟩
theorem D_X11_picture_256 (s0 : xS) (hG0 : GI s0) (a : Int) (b_a : (-2147483648) ≤ a ∧ a ≤ 2147483647) (b : Int) (b_b : (-2147483648) ≤ b ∧ b ≤ 2147483647) (d : Int) (b_d : (-2147483648) ≤ d ∧ d ≤ 2147483647) (i0_J : J s0) : xe none 154 0 (lv_args 0 [.ref 256, vi a, vi b, vi d]) [] s0 0 0 (fun s' v => GI s' ∧ FL [4103, 4416, 4480, 4544] s0 s' ∧ ∃ z, v = some (vi z) ∧ ((-1004) ≤ z ∧ z ≤ 39) ∧ J s') := by
  have f0 : FL [4103, 4416, 4480, 4544] s0 s0 := FL.rf
  show xe none 154 0 [(0, .ref 256), (1, vi a), (2, vi b), (3, vi d)] [] s0 0 0 _
  refine x_A k154_0 (fun _ => rfl) ?_
  refine x_A k154_1 (fun _ => rfl) ?_
  refine x_ic_eq k154_2 (t := 17) rfl (by first | exact x_rb b_d rfl rfl | exact ⟨by omega, by omega⟩) ⟨by decide, by decide⟩ (fun c1 => ?_) (fun c1 => ?_)
  · skip
    refine x_A k154_17 (fun _ => rfl) ?_
    refine x_i2l k154_18 (by first | exact x_rb b_a rfl rfl | exact ⟨by omega, by omega⟩) ?_
    refine x_lconst k154_19 (z := 0) (by decide +kernel) ?_
    refine x_ldc2 k154_20 (z := 999) rfl (by decide +kernel) ?_
    refine x_callS k154_23 (y := 136) (n := 3) (w0 := 0) (w1 := 6) (as := [vj a, vj 0, vj 999]) (rest := []) (by decide +kernel) rfl rfl rfl rfl (xe_mono (C_X11_in s0 hG0 a ⟨by omega, by omega⟩ 0 ⟨by omega, by omega⟩ 999 ⟨by omega, by omega⟩) ?_)
    rintro s3 v ⟨h_s3, z2, rfl, hz_z2⟩
    rw [h_s3]
    rcases hz_z2 with ⟨c_z2, e_z2⟩ | ⟨c_z2, e_z2⟩
    · rw [e_z2]
      show xe none 154 26 [(0, .ref 256), (1, vi a), (2, vi b), (3, vi d)] [vi 1] s0 0 0 _
      refine x_if_eq k154_26 (t := 41) rfl ⟨by decide, by decide⟩ (fun c4 => by exfalso; omega) (fun c4 => ?_)
      refine x_A k154_29 (fun _ => rfl) ?_
      refine x_i2l k154_30 (by first | exact x_rb b_b rfl rfl | exact ⟨by omega, by omega⟩) ?_
      refine x_lconst k154_31 (z := 0) (by decide +kernel) ?_
      refine x_ldc2 k154_32 (z := 9) rfl (by decide +kernel) ?_
      refine x_callS k154_35 (y := 136) (n := 3) (w0 := 0) (w1 := 6) (as := [vj b, vj 0, vj 9]) (rest := []) (by decide +kernel) rfl rfl rfl rfl (xe_mono (C_X11_in s0 hG0 b ⟨by omega, by omega⟩ 0 ⟨by omega, by omega⟩ 9 ⟨by omega, by omega⟩) ?_)
      rintro s6 v ⟨h_s6, z5, rfl, hz_z5⟩
      rw [h_s6]
      rcases hz_z5 with ⟨c_z5, e_z5⟩ | ⟨c_z5, e_z5⟩
      · rw [e_z5]
        show xe none 154 38 [(0, .ref 256), (1, vi a), (2, vi b), (3, vi d)] [vi 1] s0 0 0 _
        refine x_if_ne k154_38 (t := 45) rfl ⟨by decide, by decide⟩ (fun c7 => ?_) (fun c7 => by exfalso; omega)
        refine x_A k154_45 (fun _ => rfl) ?_
        refine x_getI k154_46 (f := 6) rfl (q := 256) (n := 62) (kd := 15) ⟨by decide, rfl⟩ (by decide) rfl ?_
        refine x_top (fun z8 e_z8 => ?_)
        have g_z8 : (0 : Int) ≤ s0 256 6 ∧ s0 256 6 ≤ 40 := hG0 256 6
        refine x_bipush k154_49 (by decide +kernel) ?_
        refine x_ic_ne k154_51 (t := 58) rfl (by first | exact x_rbe e_z8 g_z8 rfl rfl | exact x_rb g_z8 rfl rfl | exact ⟨by omega, by omega⟩) ⟨by decide, by decide⟩ (fun c9 => ?_) (fun c9 => ?_)
        · skip
          refine x_A k154_58 (fun _ => rfl) ?_
          refine x_getR k154_59 (f := 7) rfl (q := 256) (n := 62) (kd := 15) ⟨by decide, rfl⟩ (q2 := 261) (by decide) rfl ?_
          refine x_A k154_62 (fun _ => rfl) ?_
          refine x_getI k154_63 (f := 6) rfl (q := 256) (n := 62) (kd := 15) ⟨by decide, rfl⟩ (by decide) rfl ?_
          rw [e_z8.symm]
          refine x_A k154_66 (fun _ => rfl) ?_
          refine x_iast k154_67 (q := 261) (n := 40) ⟨by decide, rfl⟩ (by decide) (by first | exact x_rbel e_z8 g_z8 rfl rfl | exact x_rbl g_z8 rfl rfl | exact ⟨by omega, by omega⟩) ?_
          refine x_nh (fun s10 e_s10 => ?_)
          have hG_s10 : GI s10 := by rw [e_s10]; exact hG0.up (show 0 ≤ a ∧ a ≤ 999 from (by first | exact x_rb b_a rfl rfl | exact ⟨by omega, by omega⟩))
          have f_s10 : FL [4103, 4416, 4480, 4544] s0 s10 := by rw [e_s10]; exact f0.up (show 4416 ∈ [4103, 4416, 4480, 4544] from by decide +kernel)
          have q11 : s10 256 6 = z8 := by rw [e_s10, x_up_q (by decide)]; exact e_z8.symm
          have q12 : s10 261 z8.toNat = a := by rw [e_s10]; exact x_up_same
          have J_s10 : J s10 := by rw [e_s10]; exact J.up i0_J (show 4416 ∉ LJ from by decide)
          refine x_A k154_68 (fun _ => rfl) ?_
          refine x_getR k154_69 (f := 8) rfl (q := 256) (n := 62) (kd := 15) ⟨by decide, rfl⟩ (q2 := 262) (by decide) rfl ?_
          refine x_A k154_72 (fun _ => rfl) ?_
          refine x_getI k154_73 (f := 6) rfl (q := 256) (n := 62) (kd := 15) ⟨by decide, rfl⟩ (by decide) rfl ?_
          rw [q11]
          refine x_A k154_76 (fun _ => rfl) ?_
          refine x_iast k154_77 (q := 262) (n := 40) ⟨by decide, rfl⟩ (by decide) (by first | exact x_rbel e_z8 g_z8 rfl rfl | exact x_rbl g_z8 rfl rfl | exact ⟨by omega, by omega⟩) ?_
          refine x_nh (fun s13 e_s13 => ?_)
          have hG_s13 : GI s13 := by rw [e_s13]; exact hG_s10.up (show 0 ≤ b ∧ b ≤ 9 from (by first | exact x_rb b_b rfl rfl | exact ⟨by omega, by omega⟩))
          have f_s13 : FL [4103, 4416, 4480, 4544] s0 s13 := by rw [e_s13]; exact f_s10.up (show 4480 ∈ [4103, 4416, 4480, 4544] from by decide +kernel)
          have q14 : s13 256 6 = z8 := by rw [e_s13, x_up_q (by decide)]; exact q11
          have q15 : s13 261 z8.toNat = a := by rw [e_s13, x_up_q (by first | decide | omega)]; exact q12
          have q16 : s13 262 z8.toNat = b := by rw [e_s13]; exact x_up_same
          have J_s13 : J s13 := by rw [e_s13]; exact J.up J_s10 (show 4480 ∉ LJ from by decide)
          refine x_A k154_78 (fun _ => rfl) ?_
          refine x_getR k154_79 (f := 9) rfl (q := 256) (n := 62) (kd := 15) ⟨by decide, rfl⟩ (q2 := 263) (by decide) rfl ?_
          refine x_A k154_82 (fun _ => rfl) ?_
          refine x_getI k154_83 (f := 6) rfl (q := 256) (n := 62) (kd := 15) ⟨by decide, rfl⟩ (by decide) rfl ?_
          rw [q14]
          refine x_A k154_86 (fun _ => rfl) ?_
          refine x_iast k154_87 (q := 263) (n := 40) ⟨by decide, rfl⟩ (by decide) (by first | exact x_rbel e_z8 g_z8 rfl rfl | exact x_rbl g_z8 rfl rfl | exact ⟨by omega, by omega⟩) ?_
          refine x_nh (fun s17 e_s17 => ?_)
          have hG_s17 : GI s17 := by rw [e_s17]; exact hG_s13.up (show (-1) ≤ d ∧ d ≤ 39 from (by first | exact x_rb b_d rfl rfl | exact ⟨by omega, by omega⟩))
          have f_s17 : FL [4103, 4416, 4480, 4544] s0 s17 := by rw [e_s17]; exact f_s13.up (show 4544 ∈ [4103, 4416, 4480, 4544] from by decide +kernel)
          have q18 : s17 256 6 = z8 := by rw [e_s17, x_up_q (by decide)]; exact q14
          have q19 : s17 261 z8.toNat = a := by rw [e_s17, x_up_q (by first | decide | omega)]; exact q15
          have q20 : s17 262 z8.toNat = b := by rw [e_s17, x_up_q (by first | decide | omega)]; exact q16
          have q21 : s17 263 z8.toNat = d := by rw [e_s17]; exact x_up_same
          refine x_A k154_88 (fun _ => rfl) ?_
          refine x_A k154_89 (fun _ => rfl) ?_
          refine x_getI k154_90 (f := 6) rfl (q := 256) (n := 62) (kd := 15) ⟨by decide, rfl⟩ (by decide) rfl ?_
          rw [q18]
          refine x_A k154_93 (fun _ => rfl) ?_
          refine x_iadd k154_94 ?_
          refine x_top (fun z22 e_z22 => ?_)
          refine x_putI k154_95 (f := 6) rfl (q := 256) (n := 62) (kd := 15) ⟨by decide, rfl⟩ rfl rfl rfl ?_
          refine x_nh (fun s23 e_s23 => ?_)
          have hG_s23 : GI s23 := by rw [e_s23]; exact hG_s17.up (show 0 ≤ z22 ∧ z22 ≤ 40 from (by first | exact x_rbe e_z22 g_z22 rfl rfl | exact x_rb g_z22 rfl rfl | exact ⟨by omega, by omega⟩))
          have f_s23 : FL [4103, 4416, 4480, 4544] s0 s23 := by rw [e_s23]; exact f_s17.up (show 4103 ∈ [4103, 4416, 4480, 4544] from by decide +kernel)
          have q24 : s23 256 6 = z22 := by rw [e_s23]; exact x_up_same
          have q25 : s23 261 z8.toNat = a := by rw [e_s23, x_up_q (by first | decide | omega)]; exact q19
          have q26 : s23 262 z8.toNat = b := by rw [e_s23, x_up_q (by first | decide | omega)]; exact q20
          have q27 : s23 263 z8.toNat = d := by rw [e_s23, x_up_q (by first | decide | omega)]; exact q21
          have J_p : J s23 := by rw [e_s23, e_s17, e_s13, e_s10]; exact J.pict i0_J e_z8 ⟨by omega, by omega⟩ (by omega) (by omega)
          refine x_A k154_98 (fun _ => rfl) ?_
          refine x_getI k154_99 (f := 6) rfl (q := 256) (n := 62) (kd := 15) ⟨by decide, rfl⟩ (by decide) rfl ?_
          rw [q24]
          refine x_A k154_102 (fun _ => rfl) ?_
          refine x_isub k154_103 ?_
          refine x_top (fun z28 e_z28 => ?_)
          exact x_iret k154_104 rfl ⟨hG_s23, f_s23, z28, rfl, (by first | exact x_rbe e_z28 g_z28 rfl rfl | exact x_rb g_z28 rfl rfl | exact ⟨by omega, by omega⟩), J_p⟩
        · skip
          refine x_sipush k154_54 (by decide +kernel) ?_
          exact x_iret k154_57 rfl ⟨hG0, f0, (-1004), rfl, ⟨by decide, by decide⟩, i0_J⟩
      · rw [e_z5]
        show xe none 154 38 [(0, .ref 256), (1, vi a), (2, vi b), (3, vi d)] [vi 0] s0 0 0 _
        refine x_if_ne k154_38 (t := 45) rfl ⟨by decide, by decide⟩ (fun c29 => by exfalso; omega) (fun c29 => ?_)
        refine x_sipush k154_41 (by decide +kernel) ?_
        exact x_iret k154_44 rfl ⟨hG0, f0, (-1002), rfl, ⟨by decide, by decide⟩, i0_J⟩
    · rw [e_z2]
      show xe none 154 26 [(0, .ref 256), (1, vi a), (2, vi b), (3, vi d)] [vi 0] s0 0 0 _
      refine x_if_eq k154_26 (t := 41) rfl ⟨by decide, by decide⟩ (fun c30 => ?_) (fun c30 => by exfalso; omega)
      refine x_sipush k154_41 (by decide +kernel) ?_
      exact x_iret k154_44 rfl ⟨hG0, f0, (-1002), rfl, ⟨by decide, by decide⟩, i0_J⟩
  · skip
    refine x_A k154_5 (fun _ => rfl) ?_
    refine x_A k154_6 (fun _ => rfl) ?_
    obtain ⟨z31, e_z31⟩ : ∃ z, z = s0 256 6 := ⟨_, rfl⟩
    have g_z31 : (0 : Int) ≤ s0 256 6 ∧ s0 256 6 ≤ 40 := hG0 256 6
    refine x_callV k154_7 (y := 151) (n := 1) (w0 := 0) (w1 := 1) (as := [vi d]) (rest := []) (by decide +kernel) (q := 256) (nq := 62) (kq := 15) ⟨by decide, rfl⟩ rfl rfl rfl rfl (xe_mono (C_X11_isPicture_256 s0 hG0 d (by first | exact x_rb b_d rfl rfl | exact ⟨by omega, by omega⟩)) ?_)
    rintro s33 v ⟨h_s33, z32, rfl, hz_z32⟩
    rw [h_s33]
    rcases hz_z32 with ⟨c_z32, e_z32⟩ | ⟨c_z32, e_z32⟩
    · rw [e_z32]
      show xe none 154 10 [(0, .ref 256), (1, vi a), (2, vi b), (3, vi d)] [vi 1] s0 0 0 _
      refine x_if_ne k154_10 (t := 17) rfl ⟨by decide, by decide⟩ (fun c34 => ?_) (fun c34 => by exfalso; omega)
      refine x_A k154_17 (fun _ => rfl) ?_
      refine x_i2l k154_18 (by first | exact x_rb b_a rfl rfl | exact ⟨by omega, by omega⟩) ?_
      refine x_lconst k154_19 (z := 0) (by decide +kernel) ?_
      refine x_ldc2 k154_20 (z := 999) rfl (by decide +kernel) ?_
      refine x_callS k154_23 (y := 136) (n := 3) (w0 := 0) (w1 := 6) (as := [vj a, vj 0, vj 999]) (rest := []) (by decide +kernel) rfl rfl rfl rfl (xe_mono (C_X11_in s0 hG0 a ⟨by omega, by omega⟩ 0 ⟨by omega, by omega⟩ 999 ⟨by omega, by omega⟩) ?_)
      rintro s36 v ⟨h_s36, z35, rfl, hz_z35⟩
      rw [h_s36]
      rcases hz_z35 with ⟨c_z35, e_z35⟩ | ⟨c_z35, e_z35⟩
      · rw [e_z35]
        show xe none 154 26 [(0, .ref 256), (1, vi a), (2, vi b), (3, vi d)] [vi 1] s0 0 0 _
        refine x_if_eq k154_26 (t := 41) rfl ⟨by decide, by decide⟩ (fun c37 => by exfalso; omega) (fun c37 => ?_)
        refine x_A k154_29 (fun _ => rfl) ?_
        refine x_i2l k154_30 (by first | exact x_rb b_b rfl rfl | exact ⟨by omega, by omega⟩) ?_
        refine x_lconst k154_31 (z := 0) (by decide +kernel) ?_
        refine x_ldc2 k154_32 (z := 9) rfl (by decide +kernel) ?_
        refine x_callS k154_35 (y := 136) (n := 3) (w0 := 0) (w1 := 6) (as := [vj b, vj 0, vj 9]) (rest := []) (by decide +kernel) rfl rfl rfl rfl (xe_mono (C_X11_in s0 hG0 b ⟨by omega, by omega⟩ 0 ⟨by omega, by omega⟩ 9 ⟨by omega, by omega⟩) ?_)
        rintro s39 v ⟨h_s39, z38, rfl, hz_z38⟩
        rw [h_s39]
        rcases hz_z38 with ⟨c_z38, e_z38⟩ | ⟨c_z38, e_z38⟩
        · rw [e_z38]
          show xe none 154 38 [(0, .ref 256), (1, vi a), (2, vi b), (3, vi d)] [vi 1] s0 0 0 _
          refine x_if_ne k154_38 (t := 45) rfl ⟨by decide, by decide⟩ (fun c40 => ?_) (fun c40 => by exfalso; omega)
          refine x_A k154_45 (fun _ => rfl) ?_
          refine x_getI k154_46 (f := 6) rfl (q := 256) (n := 62) (kd := 15) ⟨by decide, rfl⟩ (by decide) rfl ?_
          rw [e_z31.symm]
          refine x_bipush k154_49 (by decide +kernel) ?_
          refine x_ic_ne k154_51 (t := 58) rfl (by first | exact x_rbe e_z31 g_z31 rfl rfl | exact x_rb g_z31 rfl rfl | exact ⟨by omega, by omega⟩) ⟨by decide, by decide⟩ (fun c41 => ?_) (fun c41 => ?_)
          · skip
            refine x_A k154_58 (fun _ => rfl) ?_
            refine x_getR k154_59 (f := 7) rfl (q := 256) (n := 62) (kd := 15) ⟨by decide, rfl⟩ (q2 := 261) (by decide) rfl ?_
            refine x_A k154_62 (fun _ => rfl) ?_
            refine x_getI k154_63 (f := 6) rfl (q := 256) (n := 62) (kd := 15) ⟨by decide, rfl⟩ (by decide) rfl ?_
            rw [e_z31.symm]
            refine x_A k154_66 (fun _ => rfl) ?_
            refine x_iast k154_67 (q := 261) (n := 40) ⟨by decide, rfl⟩ (by decide) (by first | exact x_rbel e_z31 g_z31 rfl rfl | exact x_rbl g_z31 rfl rfl | exact ⟨by omega, by omega⟩) ?_
            refine x_nh (fun s42 e_s42 => ?_)
            have hG_s42 : GI s42 := by rw [e_s42]; exact hG0.up (show 0 ≤ a ∧ a ≤ 999 from (by first | exact x_rb b_a rfl rfl | exact ⟨by omega, by omega⟩))
            have f_s42 : FL [4103, 4416, 4480, 4544] s0 s42 := by rw [e_s42]; exact f0.up (show 4416 ∈ [4103, 4416, 4480, 4544] from by decide +kernel)
            have q43 : s42 256 6 = z31 := by rw [e_s42, x_up_q (by decide)]; exact e_z31.symm
            have q44 : s42 261 z31.toNat = a := by rw [e_s42]; exact x_up_same
            have J_s42 : J s42 := by rw [e_s42]; exact J.up i0_J (show 4416 ∉ LJ from by decide)
            refine x_A k154_68 (fun _ => rfl) ?_
            refine x_getR k154_69 (f := 8) rfl (q := 256) (n := 62) (kd := 15) ⟨by decide, rfl⟩ (q2 := 262) (by decide) rfl ?_
            refine x_A k154_72 (fun _ => rfl) ?_
            refine x_getI k154_73 (f := 6) rfl (q := 256) (n := 62) (kd := 15) ⟨by decide, rfl⟩ (by decide) rfl ?_
            rw [q43]
            refine x_A k154_76 (fun _ => rfl) ?_
            refine x_iast k154_77 (q := 262) (n := 40) ⟨by decide, rfl⟩ (by decide) (by first | exact x_rbel e_z31 g_z31 rfl rfl | exact x_rbl g_z31 rfl rfl | exact ⟨by omega, by omega⟩) ?_
            refine x_nh (fun s45 e_s45 => ?_)
            have hG_s45 : GI s45 := by rw [e_s45]; exact hG_s42.up (show 0 ≤ b ∧ b ≤ 9 from (by first | exact x_rb b_b rfl rfl | exact ⟨by omega, by omega⟩))
            have f_s45 : FL [4103, 4416, 4480, 4544] s0 s45 := by rw [e_s45]; exact f_s42.up (show 4480 ∈ [4103, 4416, 4480, 4544] from by decide +kernel)
            have q46 : s45 256 6 = z31 := by rw [e_s45, x_up_q (by decide)]; exact q43
            have q47 : s45 261 z31.toNat = a := by rw [e_s45, x_up_q (by first | decide | omega)]; exact q44
            have q48 : s45 262 z31.toNat = b := by rw [e_s45]; exact x_up_same
            have J_s45 : J s45 := by rw [e_s45]; exact J.up J_s42 (show 4480 ∉ LJ from by decide)
            refine x_A k154_78 (fun _ => rfl) ?_
            refine x_getR k154_79 (f := 9) rfl (q := 256) (n := 62) (kd := 15) ⟨by decide, rfl⟩ (q2 := 263) (by decide) rfl ?_
            refine x_A k154_82 (fun _ => rfl) ?_
            refine x_getI k154_83 (f := 6) rfl (q := 256) (n := 62) (kd := 15) ⟨by decide, rfl⟩ (by decide) rfl ?_
            rw [q46]
            refine x_A k154_86 (fun _ => rfl) ?_
            refine x_iast k154_87 (q := 263) (n := 40) ⟨by decide, rfl⟩ (by decide) (by first | exact x_rbel e_z31 g_z31 rfl rfl | exact x_rbl g_z31 rfl rfl | exact ⟨by omega, by omega⟩) ?_
            refine x_nh (fun s49 e_s49 => ?_)
            have hG_s49 : GI s49 := by rw [e_s49]; exact hG_s45.up (show (-1) ≤ d ∧ d ≤ 39 from (by first | exact x_rb b_d rfl rfl | exact ⟨by omega, by omega⟩))
            have f_s49 : FL [4103, 4416, 4480, 4544] s0 s49 := by rw [e_s49]; exact f_s45.up (show 4544 ∈ [4103, 4416, 4480, 4544] from by decide +kernel)
            have q50 : s49 256 6 = z31 := by rw [e_s49, x_up_q (by decide)]; exact q46
            have q51 : s49 261 z31.toNat = a := by rw [e_s49, x_up_q (by first | decide | omega)]; exact q47
            have q52 : s49 262 z31.toNat = b := by rw [e_s49, x_up_q (by first | decide | omega)]; exact q48
            have q53 : s49 263 z31.toNat = d := by rw [e_s49]; exact x_up_same
            refine x_A k154_88 (fun _ => rfl) ?_
            refine x_A k154_89 (fun _ => rfl) ?_
            refine x_getI k154_90 (f := 6) rfl (q := 256) (n := 62) (kd := 15) ⟨by decide, rfl⟩ (by decide) rfl ?_
            rw [q50]
            refine x_A k154_93 (fun _ => rfl) ?_
            refine x_iadd k154_94 ?_
            refine x_top (fun z54 e_z54 => ?_)
            refine x_putI k154_95 (f := 6) rfl (q := 256) (n := 62) (kd := 15) ⟨by decide, rfl⟩ rfl rfl rfl ?_
            refine x_nh (fun s55 e_s55 => ?_)
            have hG_s55 : GI s55 := by rw [e_s55]; exact hG_s49.up (show 0 ≤ z54 ∧ z54 ≤ 40 from (by first | exact x_rbe e_z54 g_z54 rfl rfl | exact x_rb g_z54 rfl rfl | exact ⟨by omega, by omega⟩))
            have f_s55 : FL [4103, 4416, 4480, 4544] s0 s55 := by rw [e_s55]; exact f_s49.up (show 4103 ∈ [4103, 4416, 4480, 4544] from by decide +kernel)
            have q56 : s55 256 6 = z54 := by rw [e_s55]; exact x_up_same
            have q57 : s55 261 z31.toNat = a := by rw [e_s55, x_up_q (by first | decide | omega)]; exact q51
            have q58 : s55 262 z31.toNat = b := by rw [e_s55, x_up_q (by first | decide | omega)]; exact q52
            have q59 : s55 263 z31.toNat = d := by rw [e_s55, x_up_q (by first | decide | omega)]; exact q53
            have J_p : J s55 := by rw [e_s55, e_s49, e_s45, e_s42]; exact J.pict i0_J e_z31 ⟨by omega, by omega⟩ (by omega) (by omega)
            refine x_A k154_98 (fun _ => rfl) ?_
            refine x_getI k154_99 (f := 6) rfl (q := 256) (n := 62) (kd := 15) ⟨by decide, rfl⟩ (by decide) rfl ?_
            rw [q56]
            refine x_A k154_102 (fun _ => rfl) ?_
            refine x_isub k154_103 ?_
            refine x_top (fun z60 e_z60 => ?_)
            exact x_iret k154_104 rfl ⟨hG_s55, f_s55, z60, rfl, (by first | exact x_rbe e_z60 g_z60 rfl rfl | exact x_rb g_z60 rfl rfl | exact ⟨by omega, by omega⟩), J_p⟩
          · skip
            refine x_sipush k154_54 (by decide +kernel) ?_
            exact x_iret k154_57 rfl ⟨hG0, f0, (-1004), rfl, ⟨by decide, by decide⟩, i0_J⟩
        · rw [e_z38]
          show xe none 154 38 [(0, .ref 256), (1, vi a), (2, vi b), (3, vi d)] [vi 0] s0 0 0 _
          refine x_if_ne k154_38 (t := 45) rfl ⟨by decide, by decide⟩ (fun c61 => by exfalso; omega) (fun c61 => ?_)
          refine x_sipush k154_41 (by decide +kernel) ?_
          exact x_iret k154_44 rfl ⟨hG0, f0, (-1002), rfl, ⟨by decide, by decide⟩, i0_J⟩
      · rw [e_z35]
        show xe none 154 26 [(0, .ref 256), (1, vi a), (2, vi b), (3, vi d)] [vi 0] s0 0 0 _
        refine x_if_eq k154_26 (t := 41) rfl ⟨by decide, by decide⟩ (fun c62 => ?_) (fun c62 => by exfalso; omega)
        refine x_sipush k154_41 (by decide +kernel) ?_
        exact x_iret k154_44 rfl ⟨hG0, f0, (-1002), rfl, ⟨by decide, by decide⟩, i0_J⟩
    · rw [e_z32]
      show xe none 154 10 [(0, .ref 256), (1, vi a), (2, vi b), (3, vi d)] [vi 0] s0 0 0 _
      refine x_if_ne k154_10 (t := 17) rfl ⟨by decide, by decide⟩ (fun c63 => by exfalso; omega) (fun c63 => ?_)
      refine x_sipush k154_13 (by decide +kernel) ?_
      exact x_iret k154_16 rfl ⟨hG0, f0, (-1001), rfl, ⟨by decide, by decide⟩, i0_J⟩
theorem D_X11_edition_256 (s0 : xS) (hG0 : GI s0) (i0_J : J s0) : xe none 145 0 (lv_args 0 [.ref 256]) [] s0 0 0 (fun s' v => GI s' ∧ FL [4097] s0 s' ∧ ∃ z, v = some (vi z) ∧ ((-1003) ≤ z ∧ z ≤ 9) ∧ ((s0 256 0 = 9 ∧ z = -1003 ∧ s' 256 0 = 9) ∨ (s0 256 0 < 9 ∧ z = s0 256 0 + 1 ∧ s' 256 0 = z)) ∧ J s') := by
  have f0 : FL [4097] s0 s0 := FL.rf
  show xe none 145 0 [(0, .ref 256)] [] s0 0 0 _
  refine x_A k145_0 (fun _ => rfl) ?_
  refine x_getI k145_1 (f := 0) rfl (q := 256) (n := 62) (kd := 15) ⟨by decide, rfl⟩ (by decide) rfl ?_
  refine x_top (fun z1 e_z1 => ?_)
  have g_z1 : (0 : Int) ≤ s0 256 0 ∧ s0 256 0 ≤ 9 := hG0 256 0
  refine x_bipush k145_4 (by decide +kernel) ?_
  refine x_ic_ne k145_6 (t := 13) rfl (by first | exact x_rbe e_z1 g_z1 rfl rfl | exact x_rb g_z1 rfl rfl | exact ⟨by omega, by omega⟩) ⟨by decide, by decide⟩ (fun c2 => ?_) (fun c2 => ?_)
  · skip
    refine x_A k145_13 (fun _ => rfl) ?_
    refine x_A k145_14 (fun _ => rfl) ?_
    refine x_getI k145_15 (f := 0) rfl (q := 256) (n := 62) (kd := 15) ⟨by decide, rfl⟩ (by decide) rfl ?_
    rw [e_z1.symm]
    refine x_A k145_18 (fun _ => rfl) ?_
    refine x_iadd k145_19 ?_
    refine x_top (fun z3 e_z3 => ?_)
    refine x_putI k145_20 (f := 0) rfl (q := 256) (n := 62) (kd := 15) ⟨by decide, rfl⟩ rfl rfl rfl ?_
    refine x_nh (fun s4 e_s4 => ?_)
    have hG_s4 : GI s4 := by rw [e_s4]; exact hG0.up (show 0 ≤ z3 ∧ z3 ≤ 9 from (by first | exact x_rbe e_z3 g_z3 rfl rfl | exact x_rb g_z3 rfl rfl | exact ⟨by omega, by omega⟩))
    have f_s4 : FL [4097] s0 s4 := by rw [e_s4]; exact f0.up (show 4097 ∈ [4097] from by decide +kernel)
    have q5 : s4 256 0 = z3 := by rw [e_s4]; exact x_up_same
    have J_e : J s4 := by rw [e_s4, show z3 = s0 256 0 + 1 by omega]; exact J.ed i0_J ⟨by omega, by omega⟩
    refine x_A k145_23 (fun _ => rfl) ?_
    refine x_getI k145_24 (f := 0) rfl (q := 256) (n := 62) (kd := 15) ⟨by decide, rfl⟩ (by decide) rfl ?_
    rw [q5]
    exact x_iret k145_27 rfl ⟨hG_s4, f_s4, z3, rfl, (by first | exact x_rbe e_z3 g_z3 rfl rfl | exact x_rb g_z3 rfl rfl | exact ⟨by omega, by omega⟩), by omega, J_e⟩
  · skip
    refine x_sipush k145_9 (by decide +kernel) ?_
    exact x_iret k145_12 rfl ⟨hG0, f0, (-1003), rfl, ⟨by decide, by decide⟩, by omega, i0_J⟩
/-! J IS KEPT: rules -/
/-- the first n clauses of the class's row r -/
def NRr (s : xS) (r n : Int) : Prop := 0 ≤ r ∧ r ≤ 7 ∧ ∀ j : Int, 0 ≤ j → j < n → j < 8 ∧ okC (s (182 + 1 + r.toNat) j.toNat) (s (191 + 1 + r.toNat) j.toNat) (s (200 + 1 + r.toNat) j.toNat)
theorem NRr.fl {L : List Nat} {s s' : xS} {r n : Int} (h : NRr s r n) (f : FL L s s') (hL : ∀ x ∈ [1600, 1728, 1856], x ∉ L) : NRr s' r n := by
  obtain ⟨r0, r1, h⟩ := h
  refine ⟨r0, r1, fun j j0 j1 => ?_⟩
  rw [f (182 + 1 + r.toNat) j.toNat (by rw [(gr_183 j.toNat (by omega) (by omega)).2.2]; exact hL 1600 (by decide)), f (191 + 1 + r.toNat) j.toNat (by rw [(gr_192 j.toNat (by omega) (by omega)).2.2]; exact hL 1728 (by decide)), f (200 + 1 + r.toNat) j.toNat (by rw [(gr_201 j.toNat (by omega) (by omega)).2.2]; exact hL 1856 (by decide))]
  exact h j j0 j1
theorem FL.one {s : xS} {q i : Nat} {v : Int} : FL [x_pl q i] s (x_up s q i v) := FL.rf.up (List.mem_singleton.mpr rfl)
theorem NRr.up {s : xS} {r n : Int} {q i : Nat} {v : Int} (h : NRr s r n) (hL : x_pl q i ∉ [1600, 1728, 1856]) : NRr (x_up s q i v) r n := h.fl FL.one (fun x hx hm => hL (by rw [← List.mem_singleton.mp hm]; exact hx))
theorem NRr.st {s : xS} {r n : Int} {q : Nat} {v : Int} (h : NRr s r n) (hn : 0 ≤ n) : NRr (x_up s q n.toNat v) r n := by
  obtain ⟨r0, r1, h⟩ := h
  refine ⟨r0, r1, fun j j0 j1 => ?_⟩
  rw [x_up_i (by omega), x_up_i (by omega), x_up_i (by omega)]
  exact h j j0 j1
theorem NRr.add {s : xS} {r n k a b : Int} (h : NRr s r n) (h0 : 0 ≤ n ∧ n < 8) (e1 : s (182 + 1 + r.toNat) n.toNat = k) (e2 : s (191 + 1 + r.toNat) n.toNat = a) (e3 : s (200 + 1 + r.toNat) n.toNat = b) (hk : ((k = 1 ∨ k = 2 ∨ k = 3) → 0 ≤ a ∧ a ≤ 5) ∧ (k = 3 → 0 ≤ b ∧ b ≤ 5) ∧ (k = 4 → 0 ≤ a ∧ a ≤ 39)) : NRr s r (n + 1) := by
  obtain ⟨r0, r1, h⟩ := h
  refine ⟨r0, r1, fun j j0 j1 => ?_⟩
  by_cases e : j = n
  · subst e
    rw [e1, e2, e3]
    exact ⟨h0.2, hk⟩
  · exact h j j0 (by omega)
theorem J.st {s : xS} (h : J s) {r : Int} (hr : r = s 179 5) (h0 : 0 ≤ r ∧ r ≤ 7) {q i : Nat} {v : Int} (hq : q = 182 + 1 + r.toNat ∨ q = 191 + 1 + r.toNat ∨ q = 200 + 1 + r.toNat) : J (x_up s q i v) := by
  have hp : x_pl q i ∈ [1600, 1728, 1856] := by
    rcases hq with hq | hq | hq
    · rw [(gr_183 i (by omega) (by omega)).2.2]; decide
    · rw [(gr_192 i (by omega) (by omega)).2.2]; decide
    · rw [(gr_201 i (by omega) (by omega)).2.2]; decide
  have f : FL [1600, 1728, 1856] s (x_up s q i v) := FL.rf.up hp
  obtain ⟨h1, ⟨rk, h2⟩, h3, ⟨jr, h4⟩, h5, h6, h7, h8, h9⟩ := h
  refine ⟨?_, ⟨rk, h2.fl f (by decide)⟩, h3.fl f (by decide), ⟨jr, h4.fl f (by decide)⟩, h5.fl f (by decide), ?_, h7.fl f (by decide), h8.fl f (by decide), h9.fl f (by decide)⟩
  · rw [f 179 5 (by decide)]
    intro r' n r0 r1 r2 n0 n1
    rw [f 181 _ (show 1472 ∉ [1600, 1728, 1856] from by decide)] at n1
    rw [x_up_q (by omega), x_up_q (by omega), x_up_q (by omega)]
    exact h1 r' n r0 r1 r2 n0 n1
  · rw [f 256 20 (by decide)]; exact h6.fl f (by decide)
theorem J.crule {s : xS} (h : J s) {r r1 e n : Int} (hr : r = s 179 5) (h0 : 0 ≤ r ∧ r ≤ 7) (h1 : r1 = r + 1) (hN : NRr s r n) : J (x_up (x_up (x_up s 180 r.toNat e) 181 r.toNat n) 179 5 r1) := by
  have f : FL [1408, 1472, 1350] s (x_up (x_up (x_up s 180 r.toNat e) 181 r.toNat n) 179 5 r1) := ((FL.rf.up (show 1408 ∈ [1408, 1472, 1350] from by decide)).up (show 1472 ∈ [1408, 1472, 1350] from by decide)).up (show 1350 ∈ [1408, 1472, 1350] from by decide)
  have c1 : ∀ j, x_up (x_up (x_up s 180 r.toNat e) 181 r.toNat n) 179 5 r1 181 j = if j = r.toNat then n else s 181 j := fun j => by rw [x_up_q (by decide), x_up_at, x_up_q (by decide)]
  have c5 : x_up (x_up (x_up s 180 r.toNat e) 181 r.toNat n) 179 5 r1 179 5 = r1 := x_up_same
  obtain ⟨g1, ⟨rk, h2⟩, h3, ⟨jr, h4⟩, h5, h6, h7, h8, h9⟩ := h
  refine ⟨?_, ⟨rk, h2.fl f (by decide)⟩, h3.fl f (by decide), ⟨jr, h4.fl f (by decide)⟩, h5.fl f (by decide), ?_, h7.fl f (by decide), h8.fl f (by decide), h9.fl f (by decide)⟩
  · rw [c5]
    intro r' j r0 r7 r2 j0 j1
    rw [c1] at j1
    rw [f (182 + 1 + r'.toNat) j.toNat (by rw [(gr_183 j.toNat (by omega) (by omega)).2.2]; decide), f (191 + 1 + r'.toNat) j.toNat (by rw [(gr_192 j.toNat (by omega) (by omega)).2.2]; decide), f (200 + 1 + r'.toNat) j.toNat (by rw [(gr_201 j.toNat (by omega) (by omega)).2.2]; decide)]
    by_cases e : r' = r
    · subst e
      rw [if_pos rfl] at j1
      exact hN.2.2 j j0 j1
    · rw [if_neg (by omega)] at j1
      exact g1 r' j r0 r7 (by omega) j0 j1
  · rw [f 256 20 (by decide)]; exact h6.fl f (by decide)
/-! the reference's -/
theorem JRc.up {s : xS} {N : Int} {q i : Nat} {v : Int} (h : JRc s N) (hL : x_pl q i ∉ [5120, 5184]) : JRc (x_up s q i v) N := h.fl FL.one (fun x hx hm => hL (by rw [← List.mem_singleton.mp hm]; exact hx))
theorem JRc.st {s : xS} {N : Int} {q : Nat} {v : Int} (h : JRc s N) (hN : 0 ≤ N) : JRc (x_up s q N.toNat v) N := by
  intro c c0 c1 hc
  rw [x_up_i (by omega)] at hc
  rw [x_up_i (by omega)]
  exact h c c0 c1 hc
theorem JRc.add {s : xS} {N : Int} (h : JRc s N) (hN : 0 ≤ N) (hk : s 272 N.toNat = 0 → 0 ≤ s 273 N.toNat ∧ s 273 N.toNat ≤ 5) : JRc s (N + 1) := by
  intro c c0 c1 hc
  by_cases e : c = N
  · subst e; exact hk hc
  · exact h c c0 (by omega) hc
theorem JRc.mono {s : xS} {N M : Int} (h : JRc s N) (hM : M ≤ N) : JRc s M := fun c c0 c1 hc => h c c0 (by omega) hc
theorem J.rc {L : List Nat} {s s' : xS} {N : Int} (h : J s) (f : FL L s s') (hL : ∀ x ∈ [1350, 1472, 1600, 1728, 1856, 4352, 4097, 4098, 4160, 4224, 4288, 5056, 4114, 4117, 4544, 4103, 4140, 6016, 6080], x ∉ L) (hN : JRc s' N) (hc : s 256 20 ≤ N) : J s' := by
  obtain ⟨h1, ⟨rk, h2⟩, h3, ⟨jr, h4⟩, h5, h6, h7, h8, h9⟩ := h
  refine ⟨?_, ⟨rk, h2.fl f (hL _ (by decide))⟩, h3.fl f (fun x hx => hL x (by revert x; decide)), ⟨jr, h4.fl f (hL _ (by decide))⟩, h5.fl f (fun x hx => hL x (by revert x; decide)), ?_, h7.fl f (fun x hx => hL x (by revert x; decide)), h8.fl f (fun x hx => hL x (by revert x; decide)), h9.fl f (fun x hx => hL x (by revert x; decide))⟩
  · rw [f 179 5 (hL 1350 (by decide))]; exact h1.fl f (fun x hx => hL x (by revert x; decide))
  · rw [f 256 20 (hL 4117 (by decide))]; exact hN.mono hc
theorem J.rule {s : xS} (h : J s) {r r1 e c c1 n : Int} (hr : r = s 256 17) (h0 : 0 ≤ r ∧ r ≤ 7) (hr1 : r1 = r + 1) (hc : c = s 256 20) (hn : 0 ≤ n ∧ n ≤ 8) (hc1 : c1 = c + n) (hN : JRc s c1) : J (x_up (x_up (x_up (x_up (x_up s 270 r.toNat e) 271 r.toNat c) 256 20 c1) 256 17 r1) 271 r1.toNat c1) := by
  have f : FL [4992, 5056, 4117, 4114] s (x_up (x_up (x_up (x_up (x_up s 270 r.toNat e) 271 r.toNat c) 256 20 c1) 256 17 r1) 271 r1.toNat c1) := ((((FL.rf.up (show 4992 ∈ [4992, 5056, 4117, 4114] from by decide)).up (show 5056 ∈ [4992, 5056, 4117, 4114] from by decide)).up (show 4117 ∈ [4992, 5056, 4117, 4114] from by decide)).up (show 4114 ∈ [4992, 5056, 4117, 4114] from by decide)).up (show 5056 ∈ [4992, 5056, 4117, 4114] from by decide)
  have e1 : ∀ j, x_up (x_up (x_up (x_up (x_up s 270 r.toNat e) 271 r.toNat c) 256 20 c1) 256 17 r1) 271 r1.toNat c1 271 j = if j = r1.toNat then c1 else if j = r.toNat then c else s 271 j := fun j => by rw [x_up_at, x_up_q (by decide), x_up_q (by decide), x_up_at, x_up_q (by decide)]
  have e2 : x_up (x_up (x_up (x_up (x_up s 270 r.toNat e) 271 r.toNat c) 256 20 c1) 256 17 r1) 271 r1.toNat c1 256 20 = c1 := by rw [x_up_q (by decide), x_up_i (by decide), x_up_same]
  have e3 : x_up (x_up (x_up (x_up (x_up s 270 r.toNat e) 271 r.toNat c) 256 20 c1) 256 17 r1) 271 r1.toNat c1 256 17 = r1 := by rw [x_up_q (by decide), x_up_same]
  obtain ⟨h1, ⟨rk, h2⟩, h3, ⟨jr, h4⟩, h5, h6, h7, h8, h9⟩ := h
  refine ⟨?_, ⟨rk, h2.fl f (by decide)⟩, h3.fl f (by decide), ⟨jr, h4.fl f (by decide)⟩, h5.fl f (by decide), ?_, ?_, h8.fl f (by decide), h9.fl f (by decide)⟩
  · rw [f 179 5 (by decide)]; exact h1.fl f (by decide)
  · rw [e2]; exact hN.fl f (by decide)
  · unfold JR2
    rw [e2, e3]
    refine ⟨by rw [e1, if_pos rfl], by have := h7.2.1; omega, fun k k0 k1 => ?_⟩
    rw [e1]
    have := h7.2.2 k k0 k1
    split
    · omega
    · split <;> omega
