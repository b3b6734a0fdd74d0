/-! bytes of a long; functions of longs -/
section XBY
variable {X : pmX} {m pc : Nat} {ls : pmL} {r : List Value} {s : xS} {c k : Nat} {P : xS → Option Value → Prop} {len : Nat} {a b : Int}
theorem x_and255 (hk : pm_look (pm_kl m) pc = some (.iand, len)) (kk : ∀ t : Int, t = (((Int32.ofInt a).toBitVec.toNat % 256 : Nat) : Int) → xe X m (pc + 1) ls (vi t :: r) s c k P) : xe X m pc ls (vi 255 :: vi a :: r) s c k P := fun h hr => by
  have e : Int32.ofInt a &&& Int32.ofInt 255 = Int32.ofInt (((Int32.ofInt a).toBitVec.toNat % 256 : Nat) : Int) := by
    rw [← Int32.toBitVec_inj]
    apply BitVec.eq_of_toNat_eq
    rw [Int32.toBitVec_and, BitVec.toNat_and]
    show (Int32.ofInt a).toBitVec.toNat &&& 255 = (BitVec.ofInt 32 (((Int32.ofInt a).toBitVec.toNat % 256 : Nat) : Int)).toNat
    rw [BitVec.toNat_ofInt, show (255 : Nat) = 2 ^ 8 - 1 from rfl, Nat.and_two_pow_sub_one_eq_mod]
    omega
  exact x_A hk (fun h => by simp only [pm_stepA]; rw [e]) (kk _ rfl) h hr
theorem x_land255 (hk : pm_look (pm_kl m) pc = some (.land, len)) (kk : ∀ t : Int, t = ((un a % 256 : Nat) : Int) → xe X m (pc + 1) ls (vj t :: r) s c k P) : xe X m pc ls (vj 255 :: vj a :: r) s c k P := fun h hr => by
  have e : Int64.ofInt a &&& Int64.ofInt 255 = Int64.ofInt ((un a % 256 : Nat) : Int) := by
    rw [← Int64.toBitVec_inj]
    apply BitVec.eq_of_toNat_eq
    rw [Int64.toBitVec_and, BitVec.toNat_and]
    show (Int64.ofInt a).toBitVec.toNat &&& 255 = (BitVec.ofInt 64 (((Int64.ofInt a).toBitVec.toNat % 256 : Nat) : Int)).toNat
    rw [BitVec.toNat_ofInt, show (255 : Nat) = 2 ^ 8 - 1 from rfl, Nat.and_two_pow_sub_one_eq_mod]
    omega
  exact x_A hk (fun h => by simp only [pm_stepA]; rw [e]) (kk _ rfl) h hr
theorem sh_amt : ∀ b : Nat, b < 64 → ((Int32.ofInt (b : Int)).toInt64 &&& 63) = Int64.ofNat b := by decide +kernel
theorem sh_amt2 : ∀ b : Nat, b < 64 → ((Int64.ofNat b).toBitVec.smod 64).toNat = b := by decide +kernel
theorem x_lshr_b (hk : pm_look (pm_kl m) pc = some (.lshr, len)) (hb : 0 ≤ b ∧ b ≤ 63) (kk : ∀ t, in64 t → (∀ k : Nat, b.toNat + k < 64 → bt t k = bt a (b.toNat + k)) → xe X m (pc + 1) ls (vj t :: r) s c k P) : xe X m pc ls (vi b :: vj a :: r) s c k P := fun h hr => by
  obtain ⟨t, ht, e⟩ := in64_any (Int64.ofInt a >>> ((Int32.ofInt b).toInt64 &&& 63))
  refine x_A hk (fun h => by simp only [pm_stepA]; rw [e]) (kk t ht (fun k hk2 => ?_)) h hr
  have hb2 : ((b.toNat : Nat) : Int) = b := by omega
  have h1 := sh_amt b.toNat (by omega)
  rw [hb2] at h1
  unfold bt
  rw [← e, h1, Int64.toBitVec_shiftRight, BitVec.sshiftRight_eq', sh_amt2 b.toNat (by omega), BitVec.getLsbD_sshiftRight, if_pos hk2]
  simp only [show decide (64 ≤ k) = false from decide_eq_false (by omega), Bool.not_false, Bool.true_and]
end XBY
/-- a byte of a long -/
def byt (b k : Int) : Int := ((un b / 2 ^ (8 * k).toNat % 256 : Nat) : Int)
theorem byt_b (b k : Int) : 0 ≤ byt b k ∧ byt b k ≤ 255 := by unfold byt; omega
/-- the class's byte -/
theorem byt_C {b k z1 z2 : Int} {z3 : Int} (h1 : un z1 = un b / 2 ^ (8 * k).toNat) (h2 : (Int32.ofInt z2).toBitVec.toNat = un z1 % 4294967296) (h3 : z3 = (((Int32.ofInt z2).toBitVec.toNat % 256 : Nat) : Int)) : z3 = byt b k := by
  unfold byt
  rw [h3, h2, h1]
  omega
theorem mod8_bits {x y : Nat} (h : ∀ k, k < 8 → x.testBit k = y.testBit k) : x % 256 = y % 256 := by
  apply Nat.eq_of_testBit_eq
  intro i
  rw [show (256 : Nat) = 2 ^ 8 from rfl, Nat.testBit_mod_two_pow, Nat.testBit_mod_two_pow]
  by_cases hi : i < 8
  · rw [h i hi]
  · rw [decide_eq_false hi, Bool.false_and, Bool.false_and]
/-- the reference's byte -/
theorem byt_R {b k w z1 z2 : Int} (hk : 0 ≤ k ∧ k ≤ 7) (hw : w = 8 * k) (h1 : ∀ j : Nat, w.toNat + j < 64 → bt z1 j = bt b (w.toNat + j)) (h2 : z2 = ((un z1 % 256 : Nat) : Int)) : z2 = byt b k := by
  unfold byt
  rw [h2, mod8_bits (x := un z1) (y := un b / 2 ^ (8 * k).toNat) (fun j hj => by rw [← bt_un, h1 j (by omega), bt_un, hw, Nat.testBit_div_two_pow, Nat.add_comm])]
/-- bytes laid behind n, the highest first -/
theorem fd_up {f g h : Nat → Int} {n i a b : Int} (e : ∀ j : Nat, f j = if n ≤ (j : Int) ∧ (j : Int) < n + i then byt b (a - 1 - ((j : Int) - n)) else g j) (hn : 0 ≤ n) (hi : 0 ≤ i) (u : ∀ j : Nat, h j = if j = (n + i).toNat then byt b (a - 1 - i) else f j) : ∀ j : Nat, h j = if n ≤ (j : Int) ∧ (j : Int) < n + (i + 1) then byt b (a - 1 - ((j : Int) - n)) else g j := by
  intro j
  rw [u j]
  by_cases q : j = (n + i).toNat
  · rw [if_pos q, if_pos (by omega), show (j : Int) - n = i by omega]
  · rw [if_neg q, e j]
    by_cases q2 : n ≤ (j : Int) ∧ (j : Int) < n + i
    · rw [if_pos q2, if_pos (by omega)]
    · rw [if_neg q2, if_neg (by omega)]
def FdC (s s' : xS) (a b z : Int) : Prop :=
  (¬ (1 ≤ a ∧ a ≤ 8) ∧ z = -1002 ∧ s' = s) ∨ ((1 ≤ a ∧ a ≤ 8) ∧ 160 < s 177 1 + a ∧ z = -1004 ∧ s' = s) ∨
  ((1 ≤ a ∧ a ≤ 8) ∧ s 177 1 + a ≤ 160 ∧ z = s 177 1 + a ∧ s' 177 1 = s 177 1 + a ∧ ∀ j : Nat, s' 178 j = if s 177 1 ≤ (j : Int) ∧ (j : Int) < s 177 1 + a then byt b (a - 1 - ((j : Int) - s 177 1)) else s 178 j)
def FdR (s s' : xS) (a b z : Int) : Prop :=
  (¬ (1 ≤ a ∧ a ≤ 8) ∧ z = -1002 ∧ s' = s) ∨ ((1 ≤ a ∧ a ≤ 8) ∧ 160 < s 256 34 + a ∧ z = -1004 ∧ s' = s) ∨
  ((1 ≤ a ∧ a ≤ 8) ∧ s 256 34 + a ≤ 160 ∧ z = s 256 34 + a ∧ s' 256 34 = s 256 34 + a ∧ ∀ j : Nat, s' 283 j = if s 256 34 ≤ (j : Int) ∧ (j : Int) < s 256 34 + a then byt b (a - 1 - ((j : Int) - s 256 34)) else s 283 j)
/-- both texts; how many rules and asks; the fault's place -/
def X1 (s : xS) : Prop := s 177 1 = s 256 34 ∧ s 178 = s 283 ∧ s 179 5 = s 256 17 ∧ s 218 6 = s 256 43 ∧ s 0 11 = s 256 35
def LX1 : List Nat := [1218, 4131, 1280, 5824, 1350, 4114, 2503, 4140, 12, 4132]
theorem X1.fl {L : List Nat} {s s' : xS} (h : X1 s) (f : FL L s s') (hL : ∀ x ∈ LX1, x ∉ L) : X1 s' := by
  have a1 : s' 177 1 = s 177 1 := f 177 1 (hL 1218 (by decide))
  have a2 : s' 256 34 = s 256 34 := f 256 34 (hL 4131 (by decide))
  have a3 : s' 178 = s 178 := funext fun i => f 178 i (hL 1280 (by decide))
  have a4 : s' 283 = s 283 := funext fun i => f 283 i (hL 5824 (by decide))
  have a5 : s' 179 5 = s 179 5 := f 179 5 (hL 1350 (by decide))
  have a6 : s' 256 17 = s 256 17 := f 256 17 (hL 4114 (by decide))
  have a7 : s' 218 6 = s 218 6 := f 218 6 (hL 2503 (by decide))
  have a8 : s' 256 43 = s 256 43 := f 256 43 (hL 4140 (by decide))
  have a9 : s' 0 11 = s 0 11 := f 0 11 (hL 12 (by decide))
  have b1 : s' 256 35 = s 256 35 := f 256 35 (hL 4132 (by decide))
  unfold X1; rw [a1, a2, a3, a4, a5, a6, a7, a8, a9, b1]; exact h
theorem X1.up {s : xS} {q i : Nat} {v : Int} (h : X1 s) (hL : x_pl q i ∉ LX1) : X1 (x_up s q i v) := h.fl FL.one (fun x hx hm => hL (by rw [← List.mem_singleton.mp hm]; exact hx))
theorem X1.feed {L1 L2 : List Nat} {s s1 s2 : xS} {a b z1 z2 : Int} (h : X1 s) (f1 : FL L1 s s1) (f2 : FL L2 s1 s2) (hL1 : ∀ x ∈ [4131, 5824, 1350, 4114, 2503, 4140, 12, 4132], x ∉ L1) (hL2 : ∀ x ∈ [1218, 1280, 1350, 4114, 2503, 4140, 12, 4132], x ∉ L2) (x1 : FdC s s1 a b z1) (x2 : FdR s1 s2 a b z2) : z1 = z2 ∧ X1 s2 := by
  obtain ⟨h1, h2, h3, h4, h5⟩ := h
  have a2 : s1 256 34 = s 256 34 := f1 256 34 (hL1 4131 (by decide))
  have a4 : s1 283 = s 283 := funext fun i => f1 283 i (hL1 5824 (by decide))
  have a5 : s1 179 5 = s 179 5 := f1 179 5 (hL1 1350 (by decide))
  have a6 : s1 256 17 = s 256 17 := f1 256 17 (hL1 4114 (by decide))
  have a7 : s1 218 6 = s 218 6 := f1 218 6 (hL1 2503 (by decide))
  have a8 : s1 256 43 = s 256 43 := f1 256 43 (hL1 4140 (by decide))
  have a9 : s1 0 11 = s 0 11 := f1 0 11 (hL1 12 (by decide))
  have b1 : s1 256 35 = s 256 35 := f1 256 35 (hL1 4132 (by decide))
  have c1 : s2 177 1 = s1 177 1 := f2 177 1 (hL2 1218 (by decide))
  have c3 : s2 178 = s1 178 := funext fun i => f2 178 i (hL2 1280 (by decide))
  have c5 : s2 179 5 = s1 179 5 := f2 179 5 (hL2 1350 (by decide))
  have c6 : s2 256 17 = s1 256 17 := f2 256 17 (hL2 4114 (by decide))
  have c7 : s2 218 6 = s1 218 6 := f2 218 6 (hL2 2503 (by decide))
  have c8 : s2 256 43 = s1 256 43 := f2 256 43 (hL2 4140 (by decide))
  have c9 : s2 0 11 = s1 0 11 := f2 0 11 (hL2 12 (by decide))
  have d1 : s2 256 35 = s1 256 35 := f2 256 35 (hL2 4132 (by decide))
  unfold FdC at x1
  unfold FdR at x2
  rw [a2, a4] at x2
  rcases x1 with ⟨k1, k2, k3⟩ | ⟨k1, k2, k3, k4⟩ | ⟨k1, k2, k3, k4, k5⟩ <;> rcases x2 with ⟨m1, m2, m3⟩ | ⟨m1, m2, m3, m4⟩ | ⟨m1, m2, m3, m4, m5⟩
  case inl.inl => exact ⟨by omega, by rw [m3, k3]; exact ⟨h1, h2, h3, h4, h5⟩⟩
  case inr.inl.inr.inl => exact ⟨by omega, by rw [m4, k4]; exact ⟨h1, h2, h3, h4, h5⟩⟩
  case inr.inr.inr.inr =>
    refine ⟨by omega, by omega, ?_, by omega, by omega, by omega⟩
    rw [c3]
    funext j
    rw [k5 j, m5 j, h1, h2]
  all_goals (exfalso; omega)
theorem X1.rule {L1 L2 : List Nat} {s s1 s2 : xS} {a z1 z2 : Int} (h : X1 s) (hG : GI s) (f1 : FL L1 s s1) (f2 : FL L2 s1 s2) (hL1 : ∀ x ∈ [1280, 4131, 5824, 4114, 2503, 4140, 4132], x ∉ L1) (hL2 : ∀ x ∈ [1218, 1280, 5824, 1350, 2503, 4140, 12], x ∉ L2) (x1 : RuC s s1 a z1) (x2 : RuR s1 s2 a z2) : z1 = z2 ∧ X1 s2 := by
  obtain ⟨h1, h2, h3, h4, h5⟩ := h
  have g1 : (0 : Int) ≤ s 256 17 ∧ s 256 17 ≤ 8 := hG 256 17
  have a3 : s1 178 = s 178 := funext fun i => f1 178 i (hL1 1280 (by decide))
  have a2 : s1 256 34 = s 256 34 := f1 256 34 (hL1 4131 (by decide))
  have a4 : s1 283 = s 283 := funext fun i => f1 283 i (hL1 5824 (by decide))
  have a6 : s1 256 17 = s 256 17 := f1 256 17 (hL1 4114 (by decide))
  have a7 : s1 218 6 = s 218 6 := f1 218 6 (hL1 2503 (by decide))
  have a8 : s1 256 43 = s 256 43 := f1 256 43 (hL1 4140 (by decide))
  have b1 : s1 256 35 = s 256 35 := f1 256 35 (hL1 4132 (by decide))
  have c1 : s2 177 1 = s1 177 1 := f2 177 1 (hL2 1218 (by decide))
  have c3 : s2 178 = s1 178 := funext fun i => f2 178 i (hL2 1280 (by decide))
  have c4 : s2 283 = s1 283 := funext fun i => f2 283 i (hL2 5824 (by decide))
  have c5 : s2 179 5 = s1 179 5 := f2 179 5 (hL2 1350 (by decide))
  have c7 : s2 218 6 = s1 218 6 := f2 218 6 (hL2 2503 (by decide))
  have c8 : s2 256 43 = s1 256 43 := f2 256 43 (hL2 4140 (by decide))
  have c9 : s2 0 11 = s1 0 11 := f2 0 11 (hL2 12 (by decide))
  unfold RuC at x1
  unfold RuR at x2
  rw [a2, a4, a6, ← h1, ← h2, ← h3] at x2
  rcases x1 with ⟨k1, k2, k3⟩ | ⟨k1, k2, k3, k4⟩ | ⟨k1, k2, k3, k4, k5⟩ <;> rcases x2 with ⟨m1, m2, m3⟩ | ⟨m1, m2, m3, m4⟩ | ⟨m1, m2, m3, m4, m5⟩
  case inl.inl => exact ⟨by omega, by rw [m3, k3]; exact ⟨h1, h2, h3, h4, h5⟩⟩
  case inr.inl.inr.inl => exact ⟨by omega, by rw [m4, k4]; exact ⟨h1, h2, h3, h4, h5⟩⟩
  case inr.inr.inr.inr =>
    obtain ⟨m, hm, o1, o2, o3⟩ := k3
    obtain ⟨m', hm', p1, p2⟩ := m5
    have e : m = m' := OkU o1 p1 hm.1 hm'.1 (o3.elim (fun q => Or.inl q.1) (fun q => Or.inr q.2.1)) (p2.elim (fun q => Or.inl q.1) (fun q => Or.inr q.2.1))
    subst e
    rcases o3 with ⟨q1, q2, q3, q4, q5, q6, q7⟩ | ⟨q1, q2, q3, q4, q5, q6, q7⟩ <;> rcases p2 with ⟨r1, r2, r3, r4, r5, r6, r7, r8⟩ | ⟨r1, r2, r3, r4, r5, r6, r7, r8⟩
    · exact ⟨by omega, by omega, by rw [c3, c4, a3, a4]; exact h2, by omega, by omega, by omega⟩
    · exfalso; omega
    · exfalso; omega
    · exact ⟨by omega, by omega, by rw [c3, c4, a3, a4]; exact h2, by omega, by omega, by omega⟩
  all_goals (exfalso; omega)
theorem X1.ask {L1 L2 : List Nat} {s s1 s2 : xS} {z1 z2 : Int} (h : X1 s) (hG : GI s) (f1 : FL L1 s s1) (f2 : FL L2 s1 s2) (hL1 : ∀ x ∈ [1280, 1350, 4131, 5824, 4114, 4140, 4132], x ∉ L1) (hL2 : ∀ x ∈ [1218, 1280, 5824, 1350, 4114, 2503, 12], x ∉ L2) (x1 : AkC s s1 z1) (x2 : AkR s1 s2 z2) : z1 = z2 ∧ X1 s2 := by
  obtain ⟨h1, h2, h3, h4, h5⟩ := h
  have g1 : (0 : Int) ≤ s 256 43 ∧ s 256 43 ≤ 8 := hG 256 43
  have a3 : s1 178 = s 178 := funext fun i => f1 178 i (hL1 1280 (by decide))
  have a5 : s1 179 5 = s 179 5 := f1 179 5 (hL1 1350 (by decide))
  have a2 : s1 256 34 = s 256 34 := f1 256 34 (hL1 4131 (by decide))
  have a4 : s1 283 = s 283 := funext fun i => f1 283 i (hL1 5824 (by decide))
  have a6 : s1 256 17 = s 256 17 := f1 256 17 (hL1 4114 (by decide))
  have a8 : s1 256 43 = s 256 43 := f1 256 43 (hL1 4140 (by decide))
  have b1 : s1 256 35 = s 256 35 := f1 256 35 (hL1 4132 (by decide))
  have c1 : s2 177 1 = s1 177 1 := f2 177 1 (hL2 1218 (by decide))
  have c3 : s2 178 = s1 178 := funext fun i => f2 178 i (hL2 1280 (by decide))
  have c4 : s2 283 = s1 283 := funext fun i => f2 283 i (hL2 5824 (by decide))
  have c5 : s2 179 5 = s1 179 5 := f2 179 5 (hL2 1350 (by decide))
  have c6 : s2 256 17 = s1 256 17 := f2 256 17 (hL2 4114 (by decide))
  have c7 : s2 218 6 = s1 218 6 := f2 218 6 (hL2 2503 (by decide))
  have c9 : s2 0 11 = s1 0 11 := f2 0 11 (hL2 12 (by decide))
  unfold AkC at x1
  unfold AkR at x2
  rw [a2, a4, a8, ← h1, ← h2, ← h4] at x2
  rcases x1 with ⟨k1, k2, k3⟩ | ⟨k1, k2, k3, k4⟩ | ⟨k1, k2, k3, k4⟩ <;> rcases x2 with ⟨m1, m2, m3⟩ | ⟨m1, m2, m3, m4⟩ | ⟨m1, m2, m3, m4⟩
  case inl.inl => exact ⟨by omega, by rw [m3, k3]; exact ⟨h1, h2, h3, h4, h5⟩⟩
  case inr.inl.inr.inl => exact ⟨by omega, by rw [m4, k4]; exact ⟨h1, h2, h3, h4, h5⟩⟩
  case inr.inr.inr.inr =>
    rcases k4 with ⟨q1, q2, q3, q4⟩ | ⟨q1, q2, q3, q4, q5⟩ <;> rcases m4 with ⟨r1, r2, r3, r4⟩ | ⟨f, r1, r2, r3, r4⟩
    · exact ⟨by omega, by omega, by rw [c3, c4, a3, a4]; exact h2, by omega, by omega, by omega⟩
    · exact (AF_AD r2 q1).elim
    · exact (AF_AD q2 r1).elim
    · obtain ⟨e1, e2⟩ := AF_u q2 r2
      exact ⟨by omega, by omega, by rw [c3, c4, a3, a4]; exact h2, by omega, by omega, by omega⟩
  all_goals (exfalso; omega)
theorem X1.fault {L1 : List Nat} {s s1 : xS} {z1 z2 : Int} (h : X1 s) (f1 : FL L1 s s1) (hL1 : 4132 ∉ L1) (x1 : z1 = s 0 11) (x2 : z2 = s1 256 35) : z1 = z2 := by
  have b1 : s1 256 35 = s 256 35 := f1 256 35 hL1
  have := h.2.2.2.2
  omega
section XLF
variable {X : pmX} {m pc : Nat} {ls : pmL} {r : List Value} {s : xS} {c k : Nat} {P : xS → Option Value → Prop} {len : Nat} {a b : Int}
def lorF (a b : Int) : Int := (Int64.ofInt a ||| Int64.ofInt b).toInt
def landF (a b : Int) : Int := (Int64.ofInt a &&& Int64.ofInt b).toInt
def lshlF (a b : Int) : Int := (Int64.ofInt a <<< ((Int32.ofInt b).toInt64 &&& 63)).toInt
theorem x_lor_f (hk : pm_look (pm_kl m) pc = some (.lor, len)) (kk : ∀ t, in64 t → t = lorF a b → xe X m (pc + 1) ls (vj t :: r) s c k P) : xe X m pc ls (vj b :: vj a :: r) s c k P := fun h hr => by
  obtain ⟨t, ht, e⟩ := in64_any (Int64.ofInt a ||| Int64.ofInt b)
  exact x_A hk (fun h => by simp only [pm_stepA]; rw [e]) (kk t ht (by unfold lorF; rw [e, in64_toInt ht])) h hr
theorem x_land_f (hk : pm_look (pm_kl m) pc = some (.land, len)) (kk : ∀ t, in64 t → t = landF a b → xe X m (pc + 1) ls (vj t :: r) s c k P) : xe X m pc ls (vj b :: vj a :: r) s c k P := fun h hr => by
  obtain ⟨t, ht, e⟩ := in64_any (Int64.ofInt a &&& Int64.ofInt b)
  exact x_A hk (fun h => by simp only [pm_stepA]; rw [e]) (kk t ht (by unfold landF; rw [e, in64_toInt ht])) h hr
theorem x_lshl_f (hk : pm_look (pm_kl m) pc = some (.lshl, len)) (kk : ∀ t, in64 t → t = lshlF a b → xe X m (pc + 1) ls (vj t :: r) s c k P) : xe X m pc ls (vi b :: vj a :: r) s c k P := fun h hr => by
  obtain ⟨t, ht, e⟩ := in64_any (Int64.ofInt a <<< ((Int32.ofInt b).toInt64 &&& 63))
  exact x_A hk (fun h => by simp only [pm_stepA]; rw [e]) (kk t ht (by unfold lshlF; rw [e, in64_toInt ht])) h hr
end XLF
