/-! the heap behind the constructors is the state xs0 -/
def x_ck1 (k : Nat) (a : aV) (z : Int) : Bool := match k with
  | 0 => Nat.beq a.1 0 && (am_ieq a.2.1 z && am_ieq a.2.2.1 z)
  | 1 => Nat.beq a.1 1 && (am_ieq a.2.1 z && am_ieq a.2.2.1 z)
  | k + 2 => Nat.beq a.1 2 && am_ieq a.2.1 (k : Nat)
def x_ckq (q : Nat) : Bool := match pm_look am_A0.2 q with
  | some c => Nat.beq c.1 (x_sh q).1 && (Nat.beq c.2.1 (x_sh q).2.1 && am_rng (fun i => x_ck1 (x_kd q i) (am_rd c.2.2.1 c.2.2.2 i) (xs0 q i)) c.2.1)
  | none => false
theorem x_ckT : am_rng x_ckq 295 = true := by decide +kernel
theorem x_ck1_ok {ρ : Nat → Int32} {k : Nat} {a : aV} {z : Int} {v : Value} (h : x_ck1 k a z = true) (hv : a.1 = 9 ∨ am_v ρ a v) : v = x_val k z := by
  match k, h with
  | 0, h =>
    have h : (Nat.beq a.1 0 && (am_ieq a.2.1 z && am_ieq a.2.2.1 z)) = true := h
    rw [Bool.and_eq_true, Bool.and_eq_true, am_ieq_iff, am_ieq_iff] at h
    obtain ⟨h1, h2, h3⟩ := h
    have h1 := am_bq h1
    rcases hv with hv | hv
    · omega
    · obtain ⟨x, rfl, hx⟩ := hv.int h1
      have e : x.toInt = z := by have := hx.1; have := hx.2.1; omega
      show Value.int x = .int (Int32.ofInt z)
      rw [← e, Int32.ofInt_toInt]
  | 1, h =>
    have h : (Nat.beq a.1 1 && (am_ieq a.2.1 z && am_ieq a.2.2.1 z)) = true := h
    rw [Bool.and_eq_true, Bool.and_eq_true, am_ieq_iff, am_ieq_iff] at h
    obtain ⟨h1, h2, h3⟩ := h
    have h1 := am_bq h1
    rcases hv with hv | hv
    · omega
    · obtain ⟨x, rfl, hx⟩ := hv.long h1
      have e : x.toInt = z := by have := hx.1; have := hx.2.1; omega
      show Value.long x = .long (Int64.ofInt z)
      rw [← e, Int64.ofInt_toInt]
  | k + 2, h =>
    have h : (Nat.beq a.1 2 && am_ieq a.2.1 (k : Nat)) = true := h
    rw [Bool.and_eq_true, am_ieq_iff] at h
    obtain ⟨h1, h2⟩ := h
    have h1 := am_bq h1
    rcases hv with hv | hv
    · omega
    · obtain ⟨n, rfl, hn⟩ := hv.ref h1
      have e : n = k := by omega
      rw [e]
      rfl
theorem xr_0 {ρ : Nat → Int32} {h : pmH} (hH : am_H ρ am_A0 h) : xr xs0 h := by
  refine ⟨hH.1, fun q hq => ?_⟩
  have hc := am_rng_ok x_ckT q hq
  unfold x_ckq at hc
  split at hc
  · next c hlk =>
    rw [Bool.and_eq_true, Bool.and_eq_true] at hc
    obtain ⟨h1, h2, h3⟩ := hc
    obtain ⟨⟨t, n, f⟩, hy, e1, e2, e3⟩ := hH.2 _ _ hlk
    dsimp only at e1 e2 e3
    refine ⟨f, ?_, fun i hi => ?_⟩
    · rw [hy, e1, e2, am_bq h1, am_bq h2]
    · have hi : i < c.2.1 := by rw [am_bq h2]; exact hi
      exact x_ck1_ok (am_rng_ok h3 i hi) (e3 i hi)
  · cases hc
theorem am_Ll_ok {ρ : Nat → Int32} {ls : pmL} (h : am_ls ρ am_Ll ls) : ls = [(3, vi 0), (2, .ref 256), (1, .ref 0), (0, .ref 2000)] := by
  obtain ⟨v1, r1, rfl, ⟨a1, b1⟩, h⟩ := h.c
  obtain ⟨v2, r2, rfl, ⟨a2, b2⟩, h⟩ := h.c
  obtain ⟨v3, r3, rfl, ⟨a3, b3⟩, h⟩ := h.c
  obtain ⟨v4, r4, rfl, ⟨a4, b4⟩, h⟩ := h.c
  cases h.n
  obtain ⟨x, e1, hx⟩ := b1.int rfl
  obtain ⟨n2, e2, h2⟩ := b2.ref rfl
  obtain ⟨n3, e3, h3⟩ := b3.ref rfl
  obtain ⟨n4, e4, h4⟩ := b4.ref rfl
  have e5 : x.toInt = 0 := by
    have := hx.1; have := hx.2.1
    have : (0 : Int) ≤ x.toInt := hx.1
    have : x.toInt ≤ (0 : Int) := hx.2.1
    omega
  have e6 : x = Int32.ofInt 0 := by rw [← e5, Int32.ofInt_toInt]
  have n2 : n2 = 256 := by
    have : (256 : Int) = (n2 : Int) := h2
    omega
  have n3 : n3 = 0 := by
    have : (0 : Int) = (n3 : Int) := h3
    omega
  have n4 : n4 = 2000 := by
    have : (2000 : Int) = (n4 : Int) := h4
    omega
  obtain ⟨k1, w1⟩ := v1
  obtain ⟨k2, w2⟩ := v2
  obtain ⟨k3, w3⟩ := v3
  obtain ⟨k4, w4⟩ := v4
  dsimp only at a1 a2 a3 a4 e1 e2 e3 e4
  rw [← a1, ← a2, ← a3, ← a4, e1, e2, e3, e4, e6, n2, n3, n4]
