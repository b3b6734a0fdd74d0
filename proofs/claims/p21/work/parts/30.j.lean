/-! THE INVARIANT J: what is true of both objects between calls beyond bounds -/
/-- a clause that counts has its numbers in their ranges -/
def okC (k a b : Int) : Prop := ((k = 1 ∨ k = 2 ∨ k = 3) → 0 ≤ a ∧ a ≤ 5) ∧ (k = 3 → 0 ≤ b ∧ b ≤ 5) ∧ (k = 4 → 0 ≤ a ∧ a ≤ 39)
/-- the class's rules: the first R of them -/
def JCr (s : xS) (R : Int) : Prop := ∀ r n : Int, 0 ≤ r → r ≤ 7 → r < R → 0 ≤ n → n < s 181 r.toNat → n < 8 ∧ okC (s (182 + 1 + r.toNat) n.toNat) (s (191 + 1 + r.toNat) n.toNat) (s (200 + 1 + r.toNat) n.toNat)
/-- the reference's forest of parents, in each edition, with a rank -/
def JP1 (s : xS) (rk : Int → Int → Nat) : Prop := ∀ m e : Int, 0 ≤ m → m ≤ 39 → 0 ≤ e → e ≤ 9 → (m = 0 → s 260 (10 * m + e).toNat = -1) ∧ (m ≠ 0 → 0 ≤ s 260 (10 * m + e).toNat ∧ rk e (s 260 (10 * m + e).toNat) < rk e m)
def JP2 (s : xS) : Prop := ∀ m e : Int, 0 ≤ m → m ≤ 39 → 0 ≤ e → e ≤ 9 → s 260 (10 * m + e).toNat < s 256 1 ∧ (s 256 0 ≤ e → s 260 (10 * m + e).toNat = s 260 (10 * m + s 256 0).toNat)
/-- ends and joins of the reference -/
def JE1 (s : xS) (jr : Int → Nat) : Prop := ∀ m : Int, 0 ≤ m → m ≤ 39 → 0 ≤ s 259 m.toNat → jr (s 259 m.toNat) < jr m
def JE2 (s : xS) : Prop := s 257 0 = 0 ∧ s 258 0 = -1 ∧ ∀ m : Int, 0 ≤ m → m ≤ 39 → s 258 m.toNat ≤ s 256 0 ∧ (m < s 256 1 → s 258 m.toNat < 0 → s 259 m.toNat < 0)
/-- rules of the reference: the first N clauses -/
def JRc (s : xS) (N : Int) : Prop := ∀ c : Int, 0 ≤ c → c < N → s 272 c.toNat = 0 → 0 ≤ s 273 c.toNat ∧ s 273 c.toNat ≤ 5
def JR2 (s : xS) : Prop := s 271 (s 256 17).toNat = s 256 20 ∧ s 256 20 ≤ 8 * s 256 17 ∧ ∀ k : Int, 0 ≤ k → k ≤ 8 → s 271 k.toNat ≤ s 256 20
/-- copies of the reference -/
def JK (s : xS) : Prop := (∀ p : Int, 1 ≤ p → p ≤ 39 → s 263 p.toNat < p) ∧ (0 < s 256 6 → s 263 0 = -1)
/-- how many lie on the pile behind the first k steps of a row -/
def dp (f : Int → Int) : Nat → Int
  | 0 => 0
  | k + 1 => dp f k + (if f k < 2 then -1 else if f k = 2 then 0 else 1)
/-- no step takes from an empty pile -/
def okrow (f : Int → Int) (n : Int) : Prop := ∀ k : Nat, (k : Int) < n → (f k < 2 → 2 ≤ dp f k) ∧ (f k = 2 → 1 ≤ dp f k)
def JA (s : xS) : Prop := ∀ a : Int, 0 ≤ a → a < s 256 43 → okrow (fun k => s 287 (110 * a + k).toNat) (s 286 a.toNat)
def J (s : xS) : Prop := JCr s (s 179 5) ∧ (∃ rk, JP1 s rk) ∧ JP2 s ∧ (∃ jr, JE1 s jr) ∧ JE2 s ∧ JRc s (s 256 20) ∧ JR2 s ∧ JK s ∧ JA s
/-- J's places -/
def LJ : List Nat := [1350, 1472, 1600, 1728, 1856, 4352, 4097, 4098, 4160, 4224, 4288, 5120, 5184, 5056, 4114, 4117, 4544, 4103, 4140, 6016, 6080]
theorem JCr.fl {L : List Nat} {s s' : xS} {R : Int} (h : JCr s R) (f : FL L s s') (hL : ∀ x ∈ [1472, 1600, 1728, 1856], x ∉ L) : JCr s' R := by
  intro r n r0 r1 r2 n0 n1
  rw [f 181 r.toNat (hL 1472 (by decide))] at n1
  rw [f (182 + 1 + r.toNat) n.toNat (by rw [(gr_183 n.toNat (by omega) (by omega)).2.2]; exact hL 1600 (by decide)), f (191 + 1 + r.toNat) n.toNat (by rw [(gr_192 n.toNat (by omega) (by omega)).2.2]; exact hL 1728 (by decide)), f (200 + 1 + r.toNat) n.toNat (by rw [(gr_201 n.toNat (by omega) (by omega)).2.2]; exact hL 1856 (by decide))]
  exact h r n r0 r1 r2 n0 n1
theorem JP1.fl {L : List Nat} {s s' : xS} {rk : Int → Int → Nat} (h : JP1 s rk) (f : FL L s s') (hL : 4352 ∉ L) : JP1 s' rk := by
  have a : s' 260 = s 260 := funext fun i => f 260 i hL
  unfold JP1
  rw [a]
  exact h
theorem JE1.fl {L : List Nat} {s s' : xS} {jr : Int → Nat} (h : JE1 s jr) (f : FL L s s') (hL : 4288 ∉ L) : JE1 s' jr := by
  have a : s' 259 = s 259 := funext fun i => f 259 i hL
  unfold JE1
  rw [a]
  exact h
theorem JRc.fl {L : List Nat} {s s' : xS} {N : Int} (h : JRc s N) (f : FL L s s') (hL : ∀ x ∈ [5120, 5184], x ∉ L) : JRc s' N := by
  have a : s' 272 = s 272 := funext fun i => f 272 i (hL 5120 (by decide))
  have b : s' 273 = s 273 := funext fun i => f 273 i (hL 5184 (by decide))
  unfold JRc
  rw [a, b]
  exact h
theorem J.fl {L : List Nat} {s s' : xS} (h : J s) (f : FL L s s') (hL : ∀ x ∈ LJ, x ∉ L) : J s' := by
  obtain ⟨h1, ⟨rk, h2⟩, h3, ⟨jr, h4⟩, h5, h6, h7, h8, h9⟩ := h
  have a1 : s' 179 5 = s 179 5 := f 179 5 (hL 1350 (by decide))
  have a2 : s' 256 0 = s 256 0 := f 256 0 (hL 4097 (by decide))
  have a3 : s' 256 1 = s 256 1 := f 256 1 (hL 4098 (by decide))
  have a4 : s' 256 17 = s 256 17 := f 256 17 (hL 4114 (by decide))
  have a5 : s' 256 20 = s 256 20 := f 256 20 (hL 4117 (by decide))
  have a6 : s' 256 6 = s 256 6 := f 256 6 (hL 4103 (by decide))
  have a7 : s' 256 43 = s 256 43 := f 256 43 (hL 4140 (by decide))
  have b1 : s' 260 = s 260 := funext fun i => f 260 i (hL 4352 (by decide))
  have b2 : s' 257 = s 257 := funext fun i => f 257 i (hL 4160 (by decide))
  have b3 : s' 258 = s 258 := funext fun i => f 258 i (hL 4224 (by decide))
  have b4 : s' 259 = s 259 := funext fun i => f 259 i (hL 4288 (by decide))
  have b5 : s' 271 = s 271 := funext fun i => f 271 i (hL 5056 (by decide))
  have b6 : s' 263 = s 263 := funext fun i => f 263 i (hL 4544 (by decide))
  have b7 : s' 286 = s 286 := funext fun i => f 286 i (hL 6016 (by decide))
  have b8 : s' 287 = s 287 := funext fun i => f 287 i (hL 6080 (by decide))
  refine ⟨?_, ⟨rk, h2.fl f (hL 4352 (by decide))⟩, ?_, ⟨jr, h4.fl f (hL 4288 (by decide))⟩, ?_, ?_, ?_, ?_, ?_⟩
  · rw [a1]
    exact h1.fl f (fun x hx => hL x (by revert x; decide))
  · unfold JP2; rw [b1, a2, a3]; exact h3
  · unfold JE2; rw [b2, b3, b4, a2, a3]; exact h5
  · rw [a5]; exact h6.fl f (fun x hx => hL x (by revert x; decide))
  · unfold JR2; rw [b5, a4, a5]; exact h7
  · unfold JK; rw [b6, a6]; exact h8
  · unfold JA; rw [b7, b8, a7]; exact h9
theorem J.up {s : xS} {q i : Nat} {v : Int} (h : J s) (hL : x_pl q i ∉ LJ) : J (x_up s q i v) := h.fl (L := [x_pl q i]) (FL.rf.up (List.mem_singleton.mpr rfl)) (fun x hx hm => hL (by rw [← List.mem_singleton.mp hm]; exact hx))
/-- the measure of a way up -/
def rkm (f : Int → Nat) (x : Int) : Nat := if x < 0 then 0 else f x + 1
theorem JP1.dn {s : xS} {rk : Int → Int → Nat} (h : JP1 s rk) (m e : Int) (hm : 0 ≤ m ∧ m ≤ 39) (he : 0 ≤ e ∧ e ≤ 9) : rkm (rk e) (s 260 (10 * m + e).toNat) < rkm (rk e) m ∧ (m ≠ 0 → 0 ≤ s 260 (10 * m + e).toNat) := by
  obtain ⟨h1, h2⟩ := h m e hm.1 hm.2 he.1 he.2
  by_cases hz : m = 0
  · refine ⟨?_, fun z => absurd hz z⟩
    rw [h1 hz]
    unfold rkm
    rw [if_pos (by omega), if_neg (by omega)]
    omega
  · refine ⟨?_, fun z => (h2 z).1⟩
    have := h2 hz
    unfold rkm
    rw [if_neg (by omega), if_neg (by omega)]
    omega
/-- the measure of a way along joins -/
def jm (s : xS) (jr : Int → Nat) (e m : Int) : Nat := if 0 ≤ s 258 m.toNat ∧ s 258 m.toNat ≤ e then jr m + 1 else 0
theorem jm_le {s : xS} {jr : Int → Nat} (e m : Int) : jm s jr e m ≤ jr m + 1 := by
  unfold jm
  split <;> omega
theorem jm_in {s : xS} {jr : Int → Nat} {e m : Int} (h : 0 ≤ s 258 m.toNat ∧ s 258 m.toNat ≤ e) : jm s jr e m = jr m + 1 := if_pos h
theorem jm_out {s : xS} {jr : Int → Nat} {e m : Int} (h : s 258 m.toNat < 0 ∨ e < s 258 m.toNat) : jm s jr e m = 0 := if_neg (by omega)
theorem J.n0 {s : xS} (h : J s) (hG : GI s) {m e : Int} (he : 0 ≤ e) (hn : ¬ (0 ≤ m ∧ m < s 256 1 ∧ (s 257 m.toNat ≤ e ∧ (s 258 m.toNat < 0 ∨ e < s 258 m.toNat)))) : m ≠ 0 := by
  rintro rfl
  obtain ⟨h1, h2, h3, h4, ⟨h5, h6, h7⟩, h8⟩ := h
  have g : (1 : Int) ≤ s 256 1 ∧ s 256 1 ≤ 40 := hG 256 1
  exact hn ⟨by omega, by omega, by show s 257 0 ≤ e; omega, Or.inl (by show s 258 0 < 0; omega)⟩
theorem J.rf {s : xS} (h : J s) (k z : Int) (e : z = s 271 k.toNat) : k = s 256 17 → z = s 256 20 := by
  rintro rfl
  rw [e]
  exact h.2.2.2.2.2.2.1.1
theorem J.cl {s : xS} (h : J s) : s 256 20 ≤ 8 * s 256 17 := h.2.2.2.2.2.2.1.2.1
theorem J.rl {s : xS} (h : J s) (k : Int) (h0 : 0 ≤ k ∧ k ≤ 8) : s 271 k.toNat ≤ s 256 20 := h.2.2.2.2.2.2.1.2.2 k h0.1 h0.2
theorem J.sn {s : xS} (h : J s) (c k : Int) (h0 : 0 ≤ k ∧ k ≤ 8) (hc : 0 ≤ c) (hk : c < s 271 k.toNat) : s 272 c.toNat = 0 → 0 ≤ s 273 c.toNat ∧ s 273 c.toNat ≤ 5 := h.2.2.2.2.2.1 c hc (by have := h.rl k h0; omega)
theorem J.ck {s : xS} (h : J s) (p : Int) (hp : 0 ≤ p ∧ p ≤ 39) (h0 : 0 < s 256 6) : s 263 p.toNat < p := by
  obtain ⟨a, b⟩ := h.2.2.2.2.2.2.2.1
  by_cases hz : p = 0
  · rw [hz]
    show s 263 0 < 0
    rw [b h0]
    decide
  · exact a p (by omega) hp.2
theorem dp_le (f : Int → Int) (k : Nat) : dp f k ≤ k := by
  induction k with
  | zero => exact Int.le_refl 0
  | succ k ih =>
    rw [dp]
    split
    · omega
    · split <;> omega
theorem J.row {s : xS} (h : J s) (a k : Int) (ha : 0 ≤ a) (ha2 : a < s 256 43) (hk : 0 ≤ k) (hk2 : k < s 286 a.toNat) :
    (s 287 (110 * a + k).toNat < 2 → 2 ≤ dp (fun k => s 287 (110 * a + k).toNat) k.toNat) ∧ (s 287 (110 * a + k).toNat = 2 → 1 ≤ dp (fun k => s 287 (110 * a + k).toNat) k.toNat) ∧ dp (fun k => s 287 (110 * a + k).toNat) k.toNat ≤ k ∧
    (s 287 (110 * a + k).toNat < 2 → dp (fun k => s 287 (110 * a + k).toNat) (k + 1).toNat = dp (fun k => s 287 (110 * a + k).toNat) k.toNat - 1) ∧ (s 287 (110 * a + k).toNat = 2 → dp (fun k => s 287 (110 * a + k).toNat) (k + 1).toNat = dp (fun k => s 287 (110 * a + k).toNat) k.toNat) ∧ (2 < s 287 (110 * a + k).toNat → dp (fun k => s 287 (110 * a + k).toNat) (k + 1).toNat = dp (fun k => s 287 (110 * a + k).toNat) k.toNat + 1) := by
  have hr := h.2.2.2.2.2.2.2.2 a ha ha2 k.toNat (by omega)
  have e1 : ((k.toNat : Nat) : Int) = k := by omega
  have e2 : (k + 1).toNat = k.toNat + 1 := by omega
  have e3 := dp_le (fun k => s 287 (110 * a + k).toNat) k.toNat
  rw [e2, dp]
  simp only [e1] at hr e3 ⊢
  refine ⟨hr.1, hr.2, e3, fun z => ?_, fun z => ?_, fun z => ?_⟩
  · rw [if_pos z]; omega
  · rw [if_neg (by omega), if_pos z]; omega
  · rw [if_neg (by omega), if_neg (by omega)]
theorem J.cr {s : xS} (h : J s) (r n : Int) (r0 : 0 ≤ r ∧ r ≤ 7) (r2 : r < s 179 5) (n0 : 0 ≤ n) (n1 : n < s 181 r.toNat) : n < 8 ∧ ((s (182 + 1 + r.toNat) n.toNat = 1 ∨ s (182 + 1 + r.toNat) n.toNat = 2 ∨ s (182 + 1 + r.toNat) n.toNat = 3) → 0 ≤ s (191 + 1 + r.toNat) n.toNat ∧ s (191 + 1 + r.toNat) n.toNat ≤ 5) ∧ (s (182 + 1 + r.toNat) n.toNat = 3 → 0 ≤ s (200 + 1 + r.toNat) n.toNat ∧ s (200 + 1 + r.toNat) n.toNat ≤ 5) ∧ (s (182 + 1 + r.toNat) n.toNat = 4 → 0 ≤ s (191 + 1 + r.toNat) n.toNat ∧ s (191 + 1 + r.toNat) n.toNat ≤ 39) := h.1 r n r0.1 r0.2 r2 n0 n1
theorem x_wrap (a : Int) : ∃ z, in32 z ∧ vi a = vi z := by
  obtain ⟨z, h1, h2⟩ := in32_any (Int32.ofInt a)
  exact ⟨z, h1, by unfold vi; rw [h2]⟩
