/-! J IS KEPT: by what changes its places -/
theorem x_up_at {s : xS} {q i j : Nat} {v : Int} : x_up s q i v q j = if j = i then v else s q j := by
  by_cases h : j = i
  · rw [if_pos h, h, x_up_same]
  · rw [if_neg h, x_up_i h]
theorem JP2.fl {L : List Nat} {s s' : xS} (h : JP2 s) (f : FL L s s') (hL : ∀ x ∈ [4352, 4097, 4098], x ∉ L) : JP2 s' := by
  have b1 : s' 260 = s 260 := funext fun i => f 260 i (hL 4352 (by decide))
  have a2 : s' 256 0 = s 256 0 := f 256 0 (hL 4097 (by decide))
  have a3 : s' 256 1 = s 256 1 := f 256 1 (hL 4098 (by decide))
  unfold JP2; rw [b1, a2, a3]; exact h
theorem JE2.fl {L : List Nat} {s s' : xS} (h : JE2 s) (f : FL L s s') (hL : ∀ x ∈ [4160, 4224, 4288, 4097, 4098], x ∉ L) : JE2 s' := by
  have a2 : s' 256 0 = s 256 0 := f 256 0 (hL 4097 (by decide))
  have a3 : s' 256 1 = s 256 1 := f 256 1 (hL 4098 (by decide))
  have b2 : s' 257 = s 257 := funext fun i => f 257 i (hL 4160 (by decide))
  have b3 : s' 258 = s 258 := funext fun i => f 258 i (hL 4224 (by decide))
  have b4 : s' 259 = s 259 := funext fun i => f 259 i (hL 4288 (by decide))
  unfold JE2; rw [b2, b3, b4, a2, a3]; exact h
theorem JR2.fl {L : List Nat} {s s' : xS} (h : JR2 s) (f : FL L s s') (hL : ∀ x ∈ [5056, 4114, 4117], x ∉ L) : JR2 s' := by
  have a4 : s' 256 17 = s 256 17 := f 256 17 (hL 4114 (by decide))
  have a5 : s' 256 20 = s 256 20 := f 256 20 (hL 4117 (by decide))
  have b5 : s' 271 = s 271 := funext fun i => f 271 i (hL 5056 (by decide))
  unfold JR2; rw [b5, a4, a5]; exact h
theorem JK.fl {L : List Nat} {s s' : xS} (h : JK s) (f : FL L s s') (hL : ∀ x ∈ [4544, 4103], x ∉ L) : JK s' := by
  have a6 : s' 256 6 = s 256 6 := f 256 6 (hL 4103 (by decide))
  have b6 : s' 263 = s 263 := funext fun i => f 263 i (hL 4544 (by decide))
  unfold JK; rw [b6, a6]; exact h
theorem JA.fl {L : List Nat} {s s' : xS} (h : JA s) (f : FL L s s') (hL : ∀ x ∈ [4140, 6016, 6080], x ∉ L) : JA s' := by
  have a7 : s' 256 43 = s 256 43 := f 256 43 (hL 4140 (by decide))
  have b7 : s' 286 = s 286 := funext fun i => f 286 i (hL 6016 (by decide))
  have b8 : s' 287 = s 287 := funext fun i => f 287 i (hL 6080 (by decide))
  unfold JA; rw [b7, b8, a7]; exact h
/-- one edition on -/
theorem J.ed {s : xS} (h : J s) (hn : 0 ≤ s 256 0 ∧ s 256 0 < 9) : J (x_up s 256 0 (s 256 0 + 1)) := by
  have f : FL [4097] s (x_up s 256 0 (s 256 0 + 1)) := FL.rf.up (by decide)
  obtain ⟨h1, ⟨rk, h2⟩, h3, ⟨jr, h4⟩, h5, h6, h7, h8, h9⟩ := h
  have e0 : x_up s 256 0 (s 256 0 + 1) 256 0 = s 256 0 + 1 := x_up_same
  have a1 : x_up s 256 0 (s 256 0 + 1) 179 5 = s 179 5 := f 179 5 (by decide)
  have a3 : x_up s 256 0 (s 256 0 + 1) 256 1 = s 256 1 := f 256 1 (by decide)
  have a5 : x_up s 256 0 (s 256 0 + 1) 256 20 = s 256 20 := f 256 20 (by decide)
  have b1 : x_up s 256 0 (s 256 0 + 1) 260 = s 260 := funext fun i => f 260 i (show 4352 ∉ _ from by decide)
  have b2 : x_up s 256 0 (s 256 0 + 1) 257 = s 257 := funext fun i => f 257 i (show 4160 ∉ _ from by decide)
  have b3 : x_up s 256 0 (s 256 0 + 1) 258 = s 258 := funext fun i => f 258 i (show 4224 ∉ _ from by decide)
  have b4 : x_up s 256 0 (s 256 0 + 1) 259 = s 259 := funext fun i => f 259 i (show 4288 ∉ _ from by decide)
  refine ⟨?_, ⟨rk, h2.fl f (by decide)⟩, ?_, ⟨jr, h4.fl f (by decide)⟩, ?_, ?_, h7.fl f (by decide), h8.fl f (by decide), h9.fl f (by decide)⟩
  · rw [a1]; exact h1.fl f (by decide)
  · unfold JP2
    rw [b1, a3, e0]
    intro m e m0 m1 e1 e2
    refine ⟨(h3 m e m0 m1 e1 e2).1, fun hz => ?_⟩
    rw [(h3 m e m0 m1 e1 e2).2 (by omega), (h3 m (s 256 0 + 1) m0 m1 (by omega) (by omega)).2 (by omega)]
  · unfold JE2
    rw [b2, b3, b4, a3, e0]
    exact ⟨h5.1, h5.2.1, fun m m0 m1 => ⟨by have := (h5.2.2 m m0 m1).1; omega, (h5.2.2 m m0 m1).2⟩⟩
  · rw [a5]; exact h6.fl f (by decide)
/-- a mark ends -/
theorem J.end {s : xS} (h : J s) (hG : GI s) {m n t : Int} (hn : n = s 256 0) (hm : 0 < m ∧ m < s 256 1) (hmt : m ≠ t) (ht : t = -1 ∨ (0 ≤ t ∧ t < s 256 1 ∧ (s 258 t.toNat < 0 ∨ n < s 258 t.toNat))) : J (x_up (x_up s 258 m.toNat n) 259 m.toNat t) := by
  have f : FL [4224, 4288] s (x_up (x_up s 258 m.toNat n) 259 m.toNat t) := (FL.rf.up (show 4224 ∈ [4224, 4288] from by decide)).up (show 4288 ∈ [4224, 4288] from by decide)
  have g1 : (1 : Int) ≤ s 256 1 ∧ s 256 1 ≤ 40 := hG 256 1
  have g0 : (0 : Int) ≤ s 256 0 ∧ s 256 0 ≤ 9 := hG 256 0
  obtain ⟨h1, ⟨rk, h2⟩, h3, ⟨jr, h4⟩, h5, h6, h7, h8, h9⟩ := h
  have c8 : ∀ j, x_up (x_up s 258 m.toNat n) 259 m.toNat t 258 j = if j = m.toNat then n else s 258 j := fun j => by rw [x_up_q (by decide), x_up_at]
  have c9 : ∀ j, x_up (x_up s 258 m.toNat n) 259 m.toNat t 259 j = if j = m.toNat then t else s 259 j := fun j => by rw [x_up_at, x_up_q (by decide)]
  have a1 : x_up (x_up s 258 m.toNat n) 259 m.toNat t 179 5 = s 179 5 := f 179 5 (by decide)
  have a0 : x_up (x_up s 258 m.toNat n) 259 m.toNat t 256 0 = s 256 0 := f 256 0 (by decide)
  have a3 : x_up (x_up s 258 m.toNat n) 259 m.toNat t 256 1 = s 256 1 := f 256 1 (by decide)
  have a5 : x_up (x_up s 258 m.toNat n) 259 m.toNat t 256 20 = s 256 20 := f 256 20 (by decide)
  have a7 : x_up (x_up s 258 m.toNat n) 259 m.toNat t 257 0 = s 257 0 := f 257 0 (by decide)
  refine ⟨?_, ⟨rk, h2.fl f (by decide)⟩, h3.fl f (by decide), ?_, ?_, ?_, h7.fl f (by decide), h8.fl f (by decide), h9.fl f (by decide)⟩
  · rw [a1]; exact h1.fl f (by decide)
  · rcases ht with ht | ⟨t0, t1, t2⟩
    · refine ⟨jr, fun x x0 x1 hx => ?_⟩
      rw [c9] at hx ⊢
      by_cases e : x.toNat = m.toNat
      · rw [if_pos e] at hx; omega
      · rw [if_neg e] at hx ⊢; exact h4 x x0 x1 hx
    · have t3 : s 259 t.toNat < 0 := (h5.2.2 t t0 (by omega)).2 t1 (by have := (h5.2.2 t t0 (by omega)).1; omega)
      refine ⟨fun x => if x = t then 0 else jr x + 1, fun x x0 x1 hx => ?_⟩
      rw [c9] at hx ⊢
      by_cases e : x.toNat = m.toNat
      · rw [if_pos e]
        show (if t = t then 0 else jr t + 1) < (if x = t then 0 else jr x + 1)
        rw [if_pos rfl, if_neg (by omega)]
        omega
      · rw [if_neg e] at hx ⊢
        have hxt : x ≠ t := by rintro rfl; omega
        show (if s 259 x.toNat = t then 0 else jr (s 259 x.toNat) + 1) < (if x = t then 0 else jr x + 1)
        rw [if_neg hxt]
        have := h4 x x0 x1 hx
        split <;> omega
  · refine ⟨by rw [a7]; exact h5.1, by rw [c8, if_neg (by omega)]; exact h5.2.1, fun x x0 x1 => ?_⟩
    rw [c8, c9, a0, a3]
    by_cases e : x.toNat = m.toNat
    · rw [if_pos e, if_pos e]; exact ⟨by omega, fun _ _ => by omega⟩
    · rw [if_neg e, if_neg e]; exact h5.2.2 x x0 x1
  · rw [a5]; exact h6.fl f (by decide)
/-- a picture is told -/
theorem J.pict {s : xS} (h : J s) {p p1 y w c : Int} (hp : p = s 256 6) (h0 : 0 ≤ p ∧ p ≤ 39) (hp1 : p1 = p + 1) (hc : c = -1 ∨ (0 ≤ c ∧ c < p)) : J (x_up (x_up (x_up (x_up s 261 p.toNat y) 262 p.toNat w) 263 p.toNat c) 256 6 p1) := by
  have f : FL [4416, 4480, 4544, 4103] s (x_up (x_up (x_up (x_up s 261 p.toNat y) 262 p.toNat w) 263 p.toNat c) 256 6 p1) := (((FL.rf.up (show 4416 ∈ [4416, 4480, 4544, 4103] from by decide)).up (show 4480 ∈ [4416, 4480, 4544, 4103] from by decide)).up (show 4544 ∈ [4416, 4480, 4544, 4103] from by decide)).up (show 4103 ∈ [4416, 4480, 4544, 4103] from by decide)
  have c3 : ∀ j, x_up (x_up (x_up (x_up s 261 p.toNat y) 262 p.toNat w) 263 p.toNat c) 256 6 p1 263 j = if j = p.toNat then c else s 263 j := fun j => by rw [x_up_q (by decide), x_up_at, x_up_q (by decide), x_up_q (by decide)]
  have c6 : x_up (x_up (x_up (x_up s 261 p.toNat y) 262 p.toNat w) 263 p.toNat c) 256 6 p1 256 6 = p1 := x_up_same
  have a1 : x_up (x_up (x_up (x_up s 261 p.toNat y) 262 p.toNat w) 263 p.toNat c) 256 6 p1 179 5 = s 179 5 := f 179 5 (by decide)
  have a5 : x_up (x_up (x_up (x_up s 261 p.toNat y) 262 p.toNat w) 263 p.toNat c) 256 6 p1 256 20 = s 256 20 := f 256 20 (by decide)
  obtain ⟨h1, ⟨rk, h2⟩, h3, ⟨jr, h4⟩, h5, h6, h7, h8, h9⟩ := h
  refine ⟨?_, ⟨rk, h2.fl f (by decide)⟩, h3.fl f (by decide), ⟨jr, h4.fl f (by decide)⟩, h5.fl f (by decide), ?_, h7.fl f (by decide), ?_, h9.fl f (by decide)⟩
  · rw [a1]; exact h1.fl f (by decide)
  · rw [a5]; exact h6.fl f (by decide)
  · refine ⟨fun q q0 q1 => ?_, fun hz => ?_⟩
    · rw [c3]
      by_cases e : q.toNat = p.toNat
      · rw [if_pos e]; omega
      · rw [if_neg e]; exact h8.1 q q0 q1
    · rw [c3]
      by_cases e : (0 : Nat) = p.toNat
      · rw [if_pos e]; omega
      · rw [if_neg e]; exact h8.2 (by omega)
/-- a mark is told, but not hung yet -/
theorem J.tell {s : xS} (h : J s) (hG : GI s) {m n m1 : Int} (hm : m = s 256 1) (hn : n = s 256 0) (h39 : m ≤ 39) (hm1 : m1 = m + 1) : J (x_up (x_up (x_up (x_up s 257 m.toNat n) 258 m.toNat (-1)) 259 m.toNat (-1)) 256 1 m1) := by
  have f : FL [4160, 4224, 4288, 4098] s (x_up (x_up (x_up (x_up s 257 m.toNat n) 258 m.toNat (-1)) 259 m.toNat (-1)) 256 1 m1) := (((FL.rf.up (show 4160 ∈ [4160, 4224, 4288, 4098] from by decide)).up (show 4224 ∈ [4160, 4224, 4288, 4098] from by decide)).up (show 4288 ∈ [4160, 4224, 4288, 4098] from by decide)).up (show 4098 ∈ [4160, 4224, 4288, 4098] from by decide)
  have g1 : (1 : Int) ≤ s 256 1 ∧ s 256 1 ≤ 40 := hG 256 1
  have g0 : (0 : Int) ≤ s 256 0 ∧ s 256 0 ≤ 9 := hG 256 0
  have c7 : ∀ j, x_up (x_up (x_up (x_up s 257 m.toNat n) 258 m.toNat (-1)) 259 m.toNat (-1)) 256 1 m1 257 j = if j = m.toNat then n else s 257 j := fun j => by rw [x_up_q (by decide), x_up_q (by decide), x_up_q (by decide), x_up_at]
  have c8 : ∀ j, x_up (x_up (x_up (x_up s 257 m.toNat n) 258 m.toNat (-1)) 259 m.toNat (-1)) 256 1 m1 258 j = if j = m.toNat then -1 else s 258 j := fun j => by rw [x_up_q (by decide), x_up_q (by decide), x_up_at, x_up_q (by decide)]
  have c9 : ∀ j, x_up (x_up (x_up (x_up s 257 m.toNat n) 258 m.toNat (-1)) 259 m.toNat (-1)) 256 1 m1 259 j = if j = m.toNat then -1 else s 259 j := fun j => by rw [x_up_q (by decide), x_up_at, x_up_q (by decide), x_up_q (by decide)]
  have c1 : x_up (x_up (x_up (x_up s 257 m.toNat n) 258 m.toNat (-1)) 259 m.toNat (-1)) 256 1 m1 256 1 = m1 := x_up_same
  have a1 : x_up (x_up (x_up (x_up s 257 m.toNat n) 258 m.toNat (-1)) 259 m.toNat (-1)) 256 1 m1 179 5 = s 179 5 := f 179 5 (by decide)
  have a0 : x_up (x_up (x_up (x_up s 257 m.toNat n) 258 m.toNat (-1)) 259 m.toNat (-1)) 256 1 m1 256 0 = s 256 0 := f 256 0 (by decide)
  have a5 : x_up (x_up (x_up (x_up s 257 m.toNat n) 258 m.toNat (-1)) 259 m.toNat (-1)) 256 1 m1 256 20 = s 256 20 := f 256 20 (by decide)
  have b1 : x_up (x_up (x_up (x_up s 257 m.toNat n) 258 m.toNat (-1)) 259 m.toNat (-1)) 256 1 m1 260 = s 260 := funext fun i => f 260 i (show 4352 ∉ _ from by decide)
  obtain ⟨h1, ⟨rk, h2⟩, h3, ⟨jr, h4⟩, h5, h6, h7, h8, h9⟩ := h
  refine ⟨?_, ⟨rk, h2.fl f (by decide)⟩, ?_, ⟨jr, fun x x0 x1 hx => ?_⟩, ?_, ?_, h7.fl f (by decide), h8.fl f (by decide), h9.fl f (by decide)⟩
  · rw [a1]; exact h1.fl f (by decide)
  · unfold JP2
    rw [b1, a0, c1]
    intro x e x0 x1 e1 e2
    exact ⟨by have := (h3 x e x0 x1 e1 e2).1; omega, (h3 x e x0 x1 e1 e2).2⟩
  · rw [c9] at hx ⊢
    by_cases e : x.toNat = m.toNat
    · rw [if_pos e] at hx; omega
    · rw [if_neg e] at hx ⊢; exact h4 x x0 x1 hx
  · refine ⟨by rw [c7, if_neg (by omega)]; exact h5.1, by rw [c8, if_neg (by omega)]; exact h5.2.1, fun x x0 x1 => ?_⟩
    rw [c8, c9, a0, c1]
    by_cases e : x.toNat = m.toNat
    · rw [if_pos e, if_pos e]; exact ⟨by omega, fun _ _ => by omega⟩
    · rw [if_neg e, if_neg e]; exact ⟨(h5.2.2 x x0 x1).1, fun hz => (h5.2.2 x x0 x1).2 (by omega)⟩
  · rw [a5]; exact h6.fl f (by decide)
/-- the way up from a mark -/
def xup (s : xS) (e : Int) : Nat → Int → Int
  | 0, x => x
  | k + 1, x => if x < 0 then x else xup s e k (s 260 (10 * x + e).toNat)
theorem xup_neg {s : xS} {e x : Int} (k : Nat) (h : x < 0) : xup s e k x = x := by
  cases k with
  | zero => rfl
  | succ k => rw [xup, if_pos h]
theorem xup_step {s : xS} {e x b : Int} (h0 : 0 ≤ x) (hb : x ≠ b) (h : ∀ k, xup s e k (s 260 (10 * x + e).toNat) ≠ b) : ∀ k, xup s e k x ≠ b := by
  intro k
  cases k with
  | zero => exact hb
  | succ k => rw [xup, if_neg (by omega)]; exact h k
theorem xup_lt {s : xS} (h : JP2 s) {e : Int} (he : 0 ≤ e ∧ e ≤ 9) : ∀ (k : Nat) (x : Int), x < s 256 1 → x ≤ 39 → s 256 1 ≤ 40 → xup s e k x < s 256 1 := by
  intro k
  induction k with
  | zero => intro x hx _ _; exact hx
  | succ k ih =>
    intro x hx h39 h40
    rw [xup]
    by_cases hz : x < 0
    · rw [if_pos hz]; exact hx
    · rw [if_neg hz]
      have := (h x e (by omega) h39 he.1 he.2).1
      exact ih _ this (by omega) h40
theorem xup_cg {s s' : xS} {e e' : Int} (h : ∀ x : Int, 0 ≤ x → x ≤ 39 → s' 260 (10 * x + e').toNat = s 260 (10 * x + e).toNat) (hl : ∀ x : Int, 0 ≤ x → x ≤ 39 → s 260 (10 * x + e).toNat ≤ 39) : ∀ (k : Nat) (x : Int), x ≤ 39 → xup s' e' k x = xup s e k x := by
  intro k
  induction k with
  | zero => intro x _; rfl
  | succ k ih =>
    intro x hx
    rw [xup, xup]
    by_cases hz : x < 0
    · rw [if_pos hz, if_pos hz]
    · rw [if_neg hz, if_neg hz, h x (by omega) hx]
      exact ih _ (hl x (by omega) hx)
/-- a mark is hung elsewhere -/
theorem J.hang {s s' : xS} (h : J s) (hG : GI s) {m p : Int} (hm : 0 < m ∧ m ≤ 39) (hp : 0 ≤ p ∧ p < s 256 1) (hx : ∀ k, xup s (s 256 0) k p ≠ m) (f : FL [4352] s s')
    (h60 : ∀ i : Nat, s' 260 i = if 10 * m + s 256 0 ≤ (i : Int) ∧ (i : Int) < 10 * m + 10 then p else s 260 i) : J s' := by
  have g1 : (1 : Int) ≤ s 256 1 ∧ s 256 1 ≤ 40 := hG 256 1
  have g0 : (0 : Int) ≤ s 256 0 ∧ s 256 0 ≤ 9 := hG 256 0
  have a1 : s' 179 5 = s 179 5 := f 179 5 (by decide)
  have a0 : s' 256 0 = s 256 0 := f 256 0 (by decide)
  have a3 : s' 256 1 = s 256 1 := f 256 1 (by decide)
  have a5 : s' 256 20 = s 256 20 := f 256 20 (by decide)
  obtain ⟨h1, ⟨rk, h2⟩, h3, ⟨jr, h4⟩, h5, h6, h7, h8, h9⟩ := h
  have c0 : ∀ x e : Int, 0 ≤ x → x ≤ 39 → 0 ≤ e → e ≤ 9 → s' 260 (10 * x + e).toNat = if x = m ∧ s 256 0 ≤ e then p else s 260 (10 * x + e).toNat := by
    intro x e x0 x1 e0 e1
    rw [h60]
    by_cases hz : x = m ∧ s 256 0 ≤ e
    · rw [if_pos hz, if_pos (by omega)]
    · rw [if_neg hz, if_neg (by omega)]
  have hl : ∀ x e : Int, 0 ≤ x → x ≤ 39 → 0 ≤ e → e ≤ 9 → s 260 (10 * x + e).toNat ≤ 39 := fun x e x0 x1 e0 e1 => by have := (h3 x e x0 x1 e0 e1).1; omega
  have hc : ∀ e : Int, s 256 0 ≤ e → e ≤ 9 → ∀ (k : Nat) (x : Int), x ≤ 39 → xup s e k x = xup s (s 256 0) k x := fun e e0 e1 => xup_cg (fun x x0 x1 => (h3 x e x0 x1 (by omega) e1).2 e0) (fun x x0 x1 => hl x (s 256 0) x0 x1 g0.1 g0.2)
  refine ⟨?_, ?_, ?_, ⟨jr, h4.fl f (by decide)⟩, h5.fl f (by decide), ?_, h7.fl f (by decide), h8.fl f (by decide), h9.fl f (by decide)⟩
  · rw [a1]; exact h1.fl f (by decide)
  · have dec : ∀ x, Decidable (∃ k, xup s (s 256 0) k x = m) := fun x => Classical.propDecidable _
    refine ⟨fun e x => if s 256 0 ≤ e then (@ite _ (∃ k, xup s (s 256 0) k x = m) (dec x) (rk e x + rk e p + 1) (rk e x)) else rk e x, fun x e x0 x1 e0 e1 => ?_⟩
    rw [c0 x e x0 x1 e0 e1]
    have h2' := h2 x e x0 x1 e0 e1
    by_cases he : s 256 0 ≤ e
    · by_cases hxm : x = m
      · rw [if_pos ⟨hxm, he⟩]
        refine ⟨fun hz => by omega, fun _ => ⟨hp.1, ?_⟩⟩
        show (if s 256 0 ≤ e then (@ite _ (∃ k, xup s (s 256 0) k p = m) (dec p) (rk e p + rk e p + 1) (rk e p)) else rk e p) < (if s 256 0 ≤ e then (@ite _ (∃ k, xup s (s 256 0) k x = m) (dec x) (rk e x + rk e p + 1) (rk e x)) else rk e x)
        rw [if_pos he, if_pos he, if_neg (fun ⟨k, hk⟩ => hx k hk), if_pos ⟨0, hxm⟩]
        omega
      · rw [if_neg (fun z => hxm z.1)]
        refine ⟨h2'.1, fun hz => ⟨(h2'.2 hz).1, ?_⟩⟩
        have hk := (h2'.2 hz).2
        show (if s 256 0 ≤ e then (@ite _ (∃ k, xup s (s 256 0) k (s 260 (10 * x + e).toNat) = m) (dec _) (rk e (s 260 (10 * x + e).toNat) + rk e p + 1) (rk e (s 260 (10 * x + e).toNat))) else rk e (s 260 (10 * x + e).toNat)) < (if s 256 0 ≤ e then (@ite _ (∃ k, xup s (s 256 0) k x = m) (dec x) (rk e x + rk e p + 1) (rk e x)) else rk e x)
        rw [if_pos he, if_pos he]
        have hq : s 260 (10 * x + e).toNat = s 260 (10 * x + s 256 0).toNat := (h3 x e x0 x1 e0 e1).2 he
        by_cases hb : ∃ k, xup s (s 256 0) k x = m
        · rw [if_pos hb]
          split <;> omega
        · rw [if_neg hb, if_neg ?_]
          · exact hk
          · rintro ⟨k, hk2⟩
            refine hb ⟨k + 1, ?_⟩
            rw [xup, if_neg (by omega), ← hq]
            exact hk2
    · rw [if_neg (fun z => he z.2)]
      refine ⟨h2'.1, fun hz => ⟨(h2'.2 hz).1, ?_⟩⟩
      show (if s 256 0 ≤ e then _ else rk e (s 260 (10 * x + e).toNat)) < (if s 256 0 ≤ e then _ else rk e x)
      rw [if_neg he, if_neg he]
      exact (h2'.2 hz).2
  · unfold JP2
    rw [a0, a3]
    intro x e x0 x1 e0 e1
    rw [c0 x e x0 x1 e0 e1, c0 x (s 256 0) x0 x1 g0.1 g0.2]
    refine ⟨?_, fun he => ?_⟩
    · split
      · exact hp.2
      · exact (h3 x e x0 x1 e0 e1).1
    · by_cases hxm : x = m
      · rw [if_pos ⟨hxm, he⟩, if_pos ⟨hxm, Int.le_refl _⟩]
      · rw [if_neg (fun z => hxm z.1), if_neg (fun z => hxm z.1)]
        exact (h3 x e x0 x1 e0 e1).2 he
  · rw [a5]; exact h6.fl f (by decide)
/-- the row of parents while it is being hung -/
theorem hg_up {s : xS} {g : Nat → Int} {a n x b z : Int} (h : ∀ i : Nat, s 260 i = if 10 * a + n ≤ (i : Int) ∧ (i : Int) < 10 * a + x then b else g i) (hz : z = 10 * a + x) (h0 : 0 ≤ z) (hn : n ≤ x) : ∀ i : Nat, x_up s 260 z.toNat b 260 i = if 10 * a + n ≤ (i : Int) ∧ (i : Int) < 10 * a + (x + 1) then b else g i := by
  intro i
  rw [x_up_at, h]
  by_cases e : i = z.toNat
  · rw [if_pos e, if_pos (by omega)]
  · rw [if_neg e]
    by_cases e2 : 10 * a + n ≤ (i : Int) ∧ (i : Int) < 10 * a + x
    · rw [if_pos e2, if_pos (by omega)]
    · rw [if_neg e2, if_neg (by omega)]
theorem xup_eq {s s' : xS} {e : Int} (h : s' 260 = s 260) (k : Nat) : ∀ x : Int, xup s' e k x = xup s e k x := by
  induction k with
  | zero => intro x; rfl
  | succ k ih =>
    intro x
    rw [xup, xup, h]
    by_cases hz : x < 0
    · rw [if_pos hz, if_pos hz]
    · rw [if_neg hz, if_neg hz]; exact ih _
theorem J.tellx {s : xS} (h : J s) (hG : GI s) {m n m1 a : Int} (hm : m = s 256 1) (ha : a < m) : ∀ k, xup (x_up (x_up (x_up (x_up s 257 m.toNat n) 258 m.toNat (-1)) 259 m.toNat (-1)) 256 1 m1) (x_up (x_up (x_up (x_up s 257 m.toNat n) 258 m.toNat (-1)) 259 m.toNat (-1)) 256 1 m1 256 0) k a ≠ m := by
  have f : FL [4160, 4224, 4288, 4098] s (x_up (x_up (x_up (x_up s 257 m.toNat n) 258 m.toNat (-1)) 259 m.toNat (-1)) 256 1 m1) := (((FL.rf.up (show 4160 ∈ [4160, 4224, 4288, 4098] from by decide)).up (show 4224 ∈ [4160, 4224, 4288, 4098] from by decide)).up (show 4288 ∈ [4160, 4224, 4288, 4098] from by decide)).up (show 4098 ∈ [4160, 4224, 4288, 4098] from by decide)
  intro k
  have g1 : (1 : Int) ≤ s 256 1 ∧ s 256 1 ≤ 40 := hG 256 1
  have g0 : (0 : Int) ≤ s 256 0 ∧ s 256 0 ≤ 9 := hG 256 0
  rw [f 256 0 (by decide), xup_eq (funext fun i => f 260 i (show 4352 ∉ _ from by decide)) k a]
  have := xup_lt h.2.2.1 g0 k a (by omega) (by omega) (by omega)
  omega
