/-! how many bits: Long.bitCount -/
def un (t : Int) : Nat := (Int64.ofInt t).toBitVec.toNat
theorem un_lt (t : Int) : un t < 18446744073709551616 := (Int64.ofInt t).toBitVec.isLt
theorem bt_un (t : Int) (k : Nat) : bt t k = (un t).testBit k := rfl
section XUN
variable {X : pmX} {m pc : Nat} {ls : pmL} {r : List Value} {s : xS} {c k : Nat} {P : xS → Option Value → Prop} {len : Nat} {a b : Int}
theorem x_land_u (hk : pm_look (pm_kl m) pc = some (.land, len)) (kk : ∀ t, in64 t → un t = (un a &&& un b) → xe X m (pc + 1) ls (vj t :: r) s c k P) : xe X m pc ls (vj b :: vj a :: r) s c k P := fun h hr => by
  obtain ⟨t, ht, e⟩ := in64_any (Int64.ofInt a &&& Int64.ofInt b)
  exact x_A hk (fun h => by simp only [pm_stepA]; rw [e]) (kk t ht (by unfold un; rw [← e, Int64.toBitVec_and, BitVec.toNat_and])) h hr
theorem x_ladd_u (hk : pm_look (pm_kl m) pc = some (.ladd, len)) (kk : ∀ t, in64 t → un t = (un a + un b) % 18446744073709551616 → xe X m (pc + 1) ls (vj t :: r) s c k P) : xe X m pc ls (vj b :: vj a :: r) s c k P := fun h hr => by
  obtain ⟨t, ht, e⟩ := in64_any (Int64.ofInt a + Int64.ofInt b)
  exact x_A hk (fun h => by simp only [pm_stepA]; rw [e]) (kk t ht (by unfold un; rw [← e, Int64.toBitVec_add, BitVec.toNat_add])) h hr
theorem x_lsub_u (hk : pm_look (pm_kl m) pc = some (.lsub, len)) (kk : ∀ t, in64 t → un t = ((18446744073709551616 - un b) + un a) % 18446744073709551616 → xe X m (pc + 1) ls (vj t :: r) s c k P) : xe X m pc ls (vj b :: vj a :: r) s c k P := fun h hr => by
  obtain ⟨t, ht, e⟩ := in64_any (Int64.ofInt a - Int64.ofInt b)
  exact x_A hk (fun h => by simp only [pm_stepA]; rw [e]) (kk t ht (by unfold un; rw [← e, Int64.toBitVec_sub, BitVec.toNat_sub])) h hr
theorem x_lushr_u (hk : pm_look (pm_kl m) pc = some (.lushr, len)) (hb : 0 ≤ b ∧ b ≤ 63) (kk : ∀ t, in64 t → un t = un a / 2 ^ b.toNat → xe X m (pc + 1) ls (vj t :: r) s c k P) : xe X m pc ls (vi b :: vj a :: r) s c k P := fun h hr => by
  obtain ⟨t, ht, e⟩ := in64_any ((Int64.ofInt a).toUInt64 >>> ((Int32.ofInt b).toInt64.toUInt64 &&& Int64.toUInt64 63)).toInt64
  refine x_A hk (fun h => by simp only [pm_stepA]; rw [e]) (kk t ht ?_) h hr
  have hb2 : ((b.toNat : Nat) : Int) = b := by omega
  have h1 := bt_amt b.toNat (by omega)
  rw [hb2] at h1
  unfold un
  rw [← e, h1]
  show (((Int64.ofInt a).toUInt64 >>> UInt64.ofNat b.toNat).toBitVec).toNat = _
  rw [UInt64.toBitVec_shiftRight]
  show ((Int64.ofInt a).toBitVec >>> ((UInt64.ofNat b.toNat).toBitVec % 64)).toNat = _
  have h2 : ((UInt64.ofNat b.toNat).toBitVec % 64).toNat = b.toNat := by
    rw [BitVec.toNat_umod]
    show (UInt64.ofNat b.toNat).toNat % 64 = _
    rw [UInt64.toNat_ofNat']
    omega
  rw [BitVec.ushiftRight_eq', BitVec.toNat_ushiftRight, h2, Nat.shiftRight_eq_div_pow]
theorem x_l2i_u (hk : pm_look (pm_kl m) pc = some (.l2i, len)) (kk : ∀ t, in32 t → (Int32.ofInt t).toBitVec.toNat = un a % 4294967296 → xe X m (pc + 1) ls (vi t :: r) s c k P) : xe X m pc ls (vj a :: r) s c k P := fun h hr => by
  obtain ⟨t, ht, e⟩ := in32_any (Int64.ofInt a).toInt32
  exact x_A hk (fun h => by simp only [pm_stepA]; rw [e]) (kk t ht (by unfold un; rw [← e, Int64.toBitVec_toInt32, BitVec.signExtend_eq_setWidth_of_le _ (by decide), BitVec.toNat_setWidth])) h hr
theorem x_and127 (hk : pm_look (pm_kl m) pc = some (.iand, len)) (kk : ∀ t : Int, t = (((Int32.ofInt a).toBitVec.toNat % 128 : Nat) : Int) → xe X m (pc + 1) ls (vi t :: r) s c k P) : xe X m pc ls (vi 127 :: vi a :: r) s c k P := fun h hr => by
  have e : Int32.ofInt a &&& Int32.ofInt 127 = Int32.ofInt (((Int32.ofInt a).toBitVec.toNat % 128 : Nat) : Int) := by
    rw [← Int32.toBitVec_inj]
    apply BitVec.eq_of_toNat_eq
    rw [Int32.toBitVec_and, BitVec.toNat_and]
    show (Int32.ofInt a).toBitVec.toNat &&& 127 = (BitVec.ofInt 32 (((Int32.ofInt a).toBitVec.toNat % 128 : Nat) : Int)).toNat
    rw [BitVec.toNat_ofInt, show (127 : Nat) = 2 ^ 7 - 1 from rfl, Nat.and_two_pow_sub_one_eq_mod]
    omega
  exact x_A hk (fun h => by simp only [pm_stepA]; rw [e]) (kk _ rfl) h hr
end XUN
/-- eight bytes side by side -/
theorem by_land {a A m M : Nat} (ha : a < 256) (hm : m < 256) : (a + 256 * A) &&& (m + 256 * M) = (a &&& m) + 256 * (A &&& M) := by
  have h1 : ((a + 256 * A) &&& (m + 256 * M)) % 2 ^ 8 = ((a + 256 * A) % 2 ^ 8) &&& ((m + 256 * M) % 2 ^ 8) := Nat.and_mod_two_pow
  have h2 : ((a + 256 * A) &&& (m + 256 * M)) / 2 ^ 8 = ((a + 256 * A) / 2 ^ 8) &&& ((m + 256 * M) / 2 ^ 8) := Nat.and_div_two_pow
  rw [show (a + 256 * A) % 2 ^ 8 = a by omega, show (m + 256 * M) % 2 ^ 8 = m by omega] at h1
  rw [show (a + 256 * A) / 2 ^ 8 = A by omega, show (m + 256 * M) / 2 ^ 8 = M by omega] at h2
  omega
def by8 (a0 a1 a2 a3 a4 a5 a6 a7 : Nat) : Nat := a0 + 256 * (a1 + 256 * (a2 + 256 * (a3 + 256 * (a4 + 256 * (a5 + 256 * (a6 + 256 * a7))))))
theorem by8_land {a0 a1 a2 a3 a4 a5 a6 a7 m : Nat} (h0 : a0 < 256) (h1 : a1 < 256) (h2 : a2 < 256) (h3 : a3 < 256) (h4 : a4 < 256) (h5 : a5 < 256) (h6 : a6 < 256) (hm : m < 256) :
    by8 a0 a1 a2 a3 a4 a5 a6 a7 &&& by8 m m m m m m m m = by8 (a0 &&& m) (a1 &&& m) (a2 &&& m) (a3 &&& m) (a4 &&& m) (a5 &&& m) (a6 &&& m) (a7 &&& m) := by
  unfold by8
  rw [by_land h0 hm, by_land h1 hm, by_land h2 hm, by_land h3 hm, by_land h4 hm, by_land h5 hm, by_land h6 hm]
def p1b (b : Nat) : Nat := (b / 2) &&& 85
def q1b (b : Nat) : Nat := b - p1b b
def r1b (b : Nat) : Nat := (q1b b &&& 51) + ((q1b b / 4) &&& 51)
def pc8 (b : Nat) : Nat := b % 2 + b / 2 % 2 + b / 4 % 2 + b / 8 % 2 + b / 16 % 2 + b / 32 % 2 + b / 64 % 2 + b / 128 % 2
theorem tb_1 : ∀ b, b < 256 → ∀ c, c < 2 → ((b / 2 + 128 * c) &&& 85) = p1b b := by decide +kernel
theorem tb_2 : ∀ b, b < 256 → p1b b + q1b b = b ∧ p1b b < 256 ∧ q1b b < 256 := by decide +kernel
theorem tb_3 : ∀ b, b < 256 → ∀ c, c < 4 → ((b / 4 + 64 * c) &&& 51) = ((b / 4) &&& 51) := by decide +kernel
theorem tb_4 : ∀ b, b < 256 → r1b b ≤ 68 ∧ r1b b % 16 ≤ 4 ∧ r1b b / 16 ≤ 4 := by decide +kernel
theorem tb_5 : ∀ b, b < 256 → ∀ c, c < 5 → ((r1b b + r1b b / 16 + 16 * c) &&& 15) = pc8 b := by decide +kernel
theorem tb_6 : ∀ b, b < 256 → pc8 b ≤ 8 := by decide +kernel
theorem by_div {b A : Nat} (h : b < 256) : (b + 256 * A) / 256 = A := by omega
theorem by_mod {b A : Nat} (h : b < 256) : (b + 256 * A) % 256 = b := by omega
theorem by_ex (x : Nat) : ∃ b A : Nat, b < 256 ∧ x = b + 256 * A ∧ A = x / 256 := ⟨x % 256, x / 256, by omega, by omega, rfl⟩
theorem by8_of (x : Nat) (h : x < 18446744073709551616) : ∃ b0 b1 b2 b3 b4 b5 b6 b7 : Nat, (b0 < 256 ∧ b1 < 256 ∧ b2 < 256 ∧ b3 < 256 ∧ b4 < 256 ∧ b5 < 256 ∧ b6 < 256 ∧ b7 < 256) ∧ x = by8 b0 b1 b2 b3 b4 b5 b6 b7 := by
  obtain ⟨b0, x1, h0, e0, f0⟩ := by_ex x
  obtain ⟨b1, x2, h1, e1, f1⟩ := by_ex x1
  obtain ⟨b2, x3, h2, e2, f2⟩ := by_ex x2
  obtain ⟨b3, x4, h3, e3, f3⟩ := by_ex x3
  obtain ⟨b4, x5, h4, e4, f4⟩ := by_ex x4
  obtain ⟨b5, x6, h5, e5, f5⟩ := by_ex x5
  obtain ⟨b6, x7, h6, e6, f6⟩ := by_ex x6
  have g1 : x1 < 72057594037927936 := by omega
  have g2 : x2 < 281474976710656 := by omega
  have g3 : x3 < 1099511627776 := by omega
  have g4 : x4 < 4294967296 := by omega
  have g5 : x5 < 16777216 := by omega
  have g6 : x6 < 65536 := by omega
  have g7 : x7 < 256 := by omega
  refine ⟨b0, b1, b2, b3, b4, b5, b6, x7, ⟨h0, h1, h2, h3, h4, h5, h6, g7⟩, ?_⟩
  unfold by8
  rw [← e6, ← e5, ← e4, ← e3, ← e2, ← e1, ← e0]
theorem dv2 {b A : Nat} : (b + 256 * A) / 2 = (b / 2 + 128 * (A % 2)) + 256 * (A / 2) := by omega
theorem md2 {b A : Nat} : (b + 256 * A) % 2 = b % 2 := by omega
theorem dv4 {b A : Nat} : (b + 256 * A) / 4 = (b / 4 + 64 * (A % 4)) + 256 * (A / 4) := by omega
theorem md4 {b A : Nat} : (b + 256 * A) % 4 = b % 4 := by omega
theorem dv16 {b A : Nat} : (b + 256 * A) / 16 = (b / 16 + 16 * (A % 16)) + 256 * (A / 16) := by omega
theorem md16 {b A : Nat} : (b + 256 * A) % 16 = b % 16 := by omega
theorem ad8 {a A b B : Nat} : (a + 256 * A) + (b + 256 * B) = (a + b) + 256 * (A + B) := by omega
theorem lt8 {a A M : Nat} (h : a < 256) (hA : A < M) : a + 256 * A < 256 * M := by omega
theorem by8_lt {a0 a1 a2 a3 a4 a5 a6 a7 : Nat} (h0 : a0 < 256) (h1 : a1 < 256) (h2 : a2 < 256) (h3 : a3 < 256) (h4 : a4 < 256) (h5 : a5 < 256) (h6 : a6 < 256) (h7 : a7 < 256) : by8 a0 a1 a2 a3 a4 a5 a6 a7 < 18446744073709551616 :=
  lt8 h0 (lt8 h1 (lt8 h2 (lt8 h3 (lt8 h4 (lt8 h5 (lt8 h6 h7))))))
theorem by8_add {a0 a1 a2 a3 a4 a5 a6 a7 c0 c1 c2 c3 c4 c5 c6 c7 : Nat} : by8 a0 a1 a2 a3 a4 a5 a6 a7 + by8 c0 c1 c2 c3 c4 c5 c6 c7 = by8 (a0 + c0) (a1 + c1) (a2 + c2) (a3 + c3) (a4 + c4) (a5 + c5) (a6 + c6) (a7 + c7) := by
  unfold by8
  rw [ad8, ad8, ad8, ad8, ad8, ad8, ad8]
theorem sw_1 {b0 b1 b2 b3 b4 b5 b6 b7 : Nat} (h : b0 < 256 ∧ b1 < 256 ∧ b2 < 256 ∧ b3 < 256 ∧ b4 < 256 ∧ b5 < 256 ∧ b6 < 256 ∧ b7 < 256) :
    ((18446744073709551616 - ((by8 b0 b1 b2 b3 b4 b5 b6 b7 / 2) &&& 6148914691236517205)) + by8 b0 b1 b2 b3 b4 b5 b6 b7) % 18446744073709551616 = by8 (q1b b0) (q1b b1) (q1b b2) (q1b b3) (q1b b4) (q1b b5) (q1b b6) (q1b b7) := by
  obtain ⟨h0, h1, h2, h3, h4, h5, h6, h7⟩ := h
  have e : by8 b0 b1 b2 b3 b4 b5 b6 b7 / 2 = by8 (b0 / 2 + 128 * (b1 % 2)) (b1 / 2 + 128 * (b2 % 2)) (b2 / 2 + 128 * (b3 % 2)) (b3 / 2 + 128 * (b4 % 2)) (b4 / 2 + 128 * (b5 % 2)) (b5 / 2 + 128 * (b6 % 2)) (b6 / 2 + 128 * (b7 % 2)) (b7 / 2 + 128 * 0) := by
    unfold by8
    rw [dv2, dv2, dv2, dv2, dv2, dv2, dv2, md2, md2, md2, md2, md2, md2, Nat.mul_zero, Nat.add_zero]
  have t0 := tb_2 b0 h0
  have t1 := tb_2 b1 h1
  have t2 := tb_2 b2 h2
  have t3 := tb_2 b3 h3
  have t4 := tb_2 b4 h4
  have t5 := tb_2 b5 h5
  have t6 := tb_2 b6 h6
  have t7 := tb_2 b7 h7
  rw [e, show (6148914691236517205 : Nat) = by8 85 85 85 85 85 85 85 85 from rfl, by8_land (by omega) (by omega) (by omega) (by omega) (by omega) (by omega) (by omega) (by decide),
    tb_1 b0 h0 _ (by omega), tb_1 b1 h1 _ (by omega), tb_1 b2 h2 _ (by omega), tb_1 b3 h3 _ (by omega), tb_1 b4 h4 _ (by omega), tb_1 b5 h5 _ (by omega), tb_1 b6 h6 _ (by omega), tb_1 b7 h7 _ (by omega)]
  have hs : by8 b0 b1 b2 b3 b4 b5 b6 b7 = by8 (p1b b0) (p1b b1) (p1b b2) (p1b b3) (p1b b4) (p1b b5) (p1b b6) (p1b b7) + by8 (q1b b0) (q1b b1) (q1b b2) (q1b b3) (q1b b4) (q1b b5) (q1b b6) (q1b b7) := by
    rw [by8_add, t0.1, t1.1, t2.1, t3.1, t4.1, t5.1, t6.1, t7.1]
  have hp := by8_lt t0.2.1 t1.2.1 t2.2.1 t3.2.1 t4.2.1 t5.2.1 t6.2.1 t7.2.1
  have hq := by8_lt t0.2.2 t1.2.2 t2.2.2 t3.2.2 t4.2.2 t5.2.2 t6.2.2 t7.2.2
  rw [hs]
  generalize by8 (p1b b0) (p1b b1) (p1b b2) (p1b b3) (p1b b4) (p1b b5) (p1b b6) (p1b b7) = X at *
  generalize by8 (q1b b0) (q1b b1) (q1b b2) (q1b b3) (q1b b4) (q1b b5) (q1b b6) (q1b b7) = Y at *
  clear e t0 t1 t2 t3 t4 t5 t6 t7 hs
  omega
theorem sw_2 {b0 b1 b2 b3 b4 b5 b6 b7 : Nat} (h : b0 < 256 ∧ b1 < 256 ∧ b2 < 256 ∧ b3 < 256 ∧ b4 < 256 ∧ b5 < 256 ∧ b6 < 256 ∧ b7 < 256) :
    ((by8 b0 b1 b2 b3 b4 b5 b6 b7 &&& 3689348814741910323) + ((by8 b0 b1 b2 b3 b4 b5 b6 b7 / 4) &&& 3689348814741910323)) = by8 ((b0 &&& 51) + ((b0 / 4) &&& 51)) ((b1 &&& 51) + ((b1 / 4) &&& 51)) ((b2 &&& 51) + ((b2 / 4) &&& 51)) ((b3 &&& 51) + ((b3 / 4) &&& 51)) ((b4 &&& 51) + ((b4 / 4) &&& 51)) ((b5 &&& 51) + ((b5 / 4) &&& 51)) ((b6 &&& 51) + ((b6 / 4) &&& 51)) ((b7 &&& 51) + ((b7 / 4) &&& 51)) := by
  obtain ⟨h0, h1, h2, h3, h4, h5, h6, h7⟩ := h
  have e : by8 b0 b1 b2 b3 b4 b5 b6 b7 / 4 = by8 (b0 / 4 + 64 * (b1 % 4)) (b1 / 4 + 64 * (b2 % 4)) (b2 / 4 + 64 * (b3 % 4)) (b3 / 4 + 64 * (b4 % 4)) (b4 / 4 + 64 * (b5 % 4)) (b5 / 4 + 64 * (b6 % 4)) (b6 / 4 + 64 * (b7 % 4)) (b7 / 4 + 64 * 0) := by
    unfold by8
    rw [dv4, dv4, dv4, dv4, dv4, dv4, dv4, md4, md4, md4, md4, md4, md4, Nat.mul_zero, Nat.add_zero]
  rw [e, show (3689348814741910323 : Nat) = by8 51 51 51 51 51 51 51 51 from rfl, by8_land h0 h1 h2 h3 h4 h5 h6 (by decide), by8_land (by omega) (by omega) (by omega) (by omega) (by omega) (by omega) (by omega) (by decide),
    tb_3 b0 h0 _ (by omega), tb_3 b1 h1 _ (by omega), tb_3 b2 h2 _ (by omega), tb_3 b3 h3 _ (by omega), tb_3 b4 h4 _ (by omega), tb_3 b5 h5 _ (by omega), tb_3 b6 h6 _ (by omega), tb_3 b7 h7 _ (by omega), by8_add]
theorem sw_3 {b0 b1 b2 b3 b4 b5 b6 b7 : Nat} (h : b0 < 256 ∧ b1 < 256 ∧ b2 < 256 ∧ b3 < 256 ∧ b4 < 256 ∧ b5 < 256 ∧ b6 < 256 ∧ b7 < 256) :
    ((by8 (r1b b0) (r1b b1) (r1b b2) (r1b b3) (r1b b4) (r1b b5) (r1b b6) (r1b b7) + by8 (r1b b0) (r1b b1) (r1b b2) (r1b b3) (r1b b4) (r1b b5) (r1b b6) (r1b b7) / 16) % 18446744073709551616) &&& 1085102592571150095 = by8 (pc8 b0) (pc8 b1) (pc8 b2) (pc8 b3) (pc8 b4) (pc8 b5) (pc8 b6) (pc8 b7) := by
  obtain ⟨h0, h1, h2, h3, h4, h5, h6, h7⟩ := h
  have t0 := tb_4 b0 h0
  have t1 := tb_4 b1 h1
  have t2 := tb_4 b2 h2
  have t3 := tb_4 b3 h3
  have t4 := tb_4 b4 h4
  have t5 := tb_4 b5 h5
  have t6 := tb_4 b6 h6
  have t7 := tb_4 b7 h7
  have e : by8 (r1b b0) (r1b b1) (r1b b2) (r1b b3) (r1b b4) (r1b b5) (r1b b6) (r1b b7) / 16 = by8 (r1b b0 / 16 + 16 * (r1b b1 % 16)) (r1b b1 / 16 + 16 * (r1b b2 % 16)) (r1b b2 / 16 + 16 * (r1b b3 % 16)) (r1b b3 / 16 + 16 * (r1b b4 % 16)) (r1b b4 / 16 + 16 * (r1b b5 % 16)) (r1b b5 / 16 + 16 * (r1b b6 % 16)) (r1b b6 / 16 + 16 * (r1b b7 % 16)) (r1b b7 / 16 + 16 * 0) := by
    unfold by8
    rw [dv16, dv16, dv16, dv16, dv16, dv16, dv16, md16, md16, md16, md16, md16, md16, Nat.mul_zero, Nat.add_zero]
  rw [e, by8_add, ← Nat.add_assoc, ← Nat.add_assoc, ← Nat.add_assoc, ← Nat.add_assoc, ← Nat.add_assoc, ← Nat.add_assoc, ← Nat.add_assoc, ← Nat.add_assoc,
    Nat.mod_eq_of_lt (by8_lt (by omega) (by omega) (by omega) (by omega) (by omega) (by omega) (by omega) (by omega)), show (1085102592571150095 : Nat) = by8 15 15 15 15 15 15 15 15 from rfl, by8_land (by omega) (by omega) (by omega) (by omega) (by omega) (by omega) (by omega) (by decide),
    tb_5 b0 h0 _ (by omega), tb_5 b1 h1 _ (by omega), tb_5 b2 h2 _ (by omega), tb_5 b3 h3 _ (by omega), tb_5 b4 h4 _ (by omega), tb_5 b5 h5 _ (by omega), tb_5 b6 h6 _ (by omega), tb_5 b7 h7 _ (by omega)]
theorem dvb {a A : Nat} (h : a < 256) : (a + 256 * A) / 256 = A := by omega
theorem by8_dv {a0 a1 a2 a3 a4 a5 a6 a7 : Nat} (h : a0 < 256) : by8 a0 a1 a2 a3 a4 a5 a6 a7 / 256 = by8 a1 a2 a3 a4 a5 a6 a7 0 := by
  unfold by8
  rw [dvb h, Nat.mul_zero, Nat.add_zero]
theorem sw_4 {u0 u1 u2 u3 u4 u5 u6 u7 y3 y4 y5 y6 : Nat} (h : u0 ≤ 8 ∧ u1 ≤ 8 ∧ u2 ≤ 8 ∧ u3 ≤ 8 ∧ u4 ≤ 8 ∧ u5 ≤ 8 ∧ u6 ≤ 8 ∧ u7 ≤ 8) (e3 : y3 = by8 u0 u1 u2 u3 u4 u5 u6 u7) (e4 : y4 = (y3 + y3 / 256) % 18446744073709551616) (e5 : y5 = (y4 + y4 / 65536) % 18446744073709551616) (e6 : y6 = (y5 + y5 / 4294967296) % 18446744073709551616) :
    y6 % 4294967296 % 128 = u0 + u1 + u2 + u3 + u4 + u5 + u6 + u7 := by
  obtain ⟨h0, h1, h2, h3, h4, h5, h6, h7⟩ := h
  have f4 : y4 = by8 (u0 + u1) (u1 + u2) (u2 + u3) (u3 + u4) (u4 + u5) (u5 + u6) (u6 + u7) (u7 + 0) := by
    rw [e4, e3, by8_dv (by omega), by8_add, Nat.mod_eq_of_lt (by8_lt (by omega) (by omega) (by omega) (by omega) (by omega) (by omega) (by omega) (by omega))]
  have f5 : y5 = by8 (u0 + u1 + (u2 + u3)) (u1 + u2 + (u3 + u4)) (u2 + u3 + (u4 + u5)) (u3 + u4 + (u5 + u6)) (u4 + u5 + (u6 + u7)) (u5 + u6 + (u7 + 0)) (u6 + u7 + 0) (u7 + 0 + 0) := by
    rw [e5, f4, show (65536 : Nat) = 256 * 256 from rfl, ← Nat.div_div_eq_div_mul, by8_dv (by omega), by8_dv (by omega), by8_add, Nat.mod_eq_of_lt (by8_lt (by omega) (by omega) (by omega) (by omega) (by omega) (by omega) (by omega) (by omega))]
  have f6 : y6 = by8 (u0 + u1 + (u2 + u3) + (u4 + u5 + (u6 + u7))) (u1 + u2 + (u3 + u4) + (u5 + u6 + (u7 + 0))) (u2 + u3 + (u4 + u5) + (u6 + u7 + 0)) (u3 + u4 + (u5 + u6) + (u7 + 0 + 0)) (u4 + u5 + (u6 + u7) + 0) (u5 + u6 + (u7 + 0) + 0) (u6 + u7 + 0 + 0) (u7 + 0 + 0 + 0) := by
    rw [e6, f5, show (4294967296 : Nat) = 256 * 256 * 256 * 256 from rfl, ← Nat.div_div_eq_div_mul, ← Nat.div_div_eq_div_mul, ← Nat.div_div_eq_div_mul, by8_dv (by omega), by8_dv (by omega), by8_dv (by omega), by8_dv (by omega), by8_add, Nat.mod_eq_of_lt (by8_lt (by omega) (by omega) (by omega) (by omega) (by omega) (by omega) (by omega) (by omega))]
  have f7 : y6 % 4294967296 % 128 = y6 % 256 % 128 := by omega
  rw [f7, f6]
  unfold by8
  rw [by_mod (by omega)]
  omega
/-- how many of a number's bits below k are set -/
def nbs (n : Nat) : Nat → Nat
  | 0 => 0
  | k + 1 => nbs n k + n / 2 ^ k % 2
theorem nbs_add (n m : Nat) : ∀ k, nbs n (m + k) = nbs n m + nbs (n / 2 ^ m) k
  | 0 => rfl
  | k + 1 => by
    show nbs n (m + k) + n / 2 ^ (m + k) % 2 = nbs n m + (nbs (n / 2 ^ m) k + n / 2 ^ m / 2 ^ k % 2)
    rw [nbs_add n m k, Nat.pow_add, Nat.div_div_eq_div_mul]
    omega
theorem nbs_8 {b A : Nat} (hb : b < 256) (k : Nat) : nbs (b + 256 * A) (8 + k) = pc8 b + nbs A k := by
  rw [nbs_add, show (b + 256 * A) / 2 ^ 8 = A by omega]
  have e : nbs (b + 256 * A) 8 = pc8 b := by
    show 0 + (b + 256 * A) / 1 % 2 + (b + 256 * A) / 2 % 2 + (b + 256 * A) / 4 % 2 + (b + 256 * A) / 8 % 2 + (b + 256 * A) / 16 % 2 + (b + 256 * A) / 32 % 2 + (b + 256 * A) / 64 % 2 + (b + 256 * A) / 128 % 2 = _
    have k0 : (b + 256 * A) / 1 % 2 = b / 1 % 2 := by omega
    have k1 : (b + 256 * A) / 2 % 2 = b / 2 % 2 := by omega
    have k2 : (b + 256 * A) / 4 % 2 = b / 4 % 2 := by omega
    have k3 : (b + 256 * A) / 8 % 2 = b / 8 % 2 := by omega
    have k4 : (b + 256 * A) / 16 % 2 = b / 16 % 2 := by omega
    have k5 : (b + 256 * A) / 32 % 2 = b / 32 % 2 := by omega
    have k6 : (b + 256 * A) / 64 % 2 = b / 64 % 2 := by omega
    have k7 : (b + 256 * A) / 128 % 2 = b / 128 % 2 := by omega
    rw [k0, k1, k2, k3, k4, k5, k6, k7, Nat.div_one, Nat.zero_add]
    rfl
  rw [e]
theorem nbs_64 {b0 b1 b2 b3 b4 b5 b6 b7 : Nat} (h : b0 < 256 ∧ b1 < 256 ∧ b2 < 256 ∧ b3 < 256 ∧ b4 < 256 ∧ b5 < 256 ∧ b6 < 256 ∧ b7 < 256) : nbs (by8 b0 b1 b2 b3 b4 b5 b6 b7) 64 = pc8 b0 + pc8 b1 + pc8 b2 + pc8 b3 + pc8 b4 + pc8 b5 + pc8 b6 + pc8 b7 := by
  obtain ⟨h0, h1, h2, h3, h4, h5, h6, h7⟩ := h
  have e7 : nbs b7 8 = pc8 b7 := by
    have := nbs_8 (A := 0) h7 0
    rw [show b7 + 256 * 0 = b7 by omega] at this
    exact this
  unfold by8
  rw [show (64 : Nat) = 8 + 56 from rfl, nbs_8 h0, show (56 : Nat) = 8 + 48 from rfl, nbs_8 h1, show (48 : Nat) = 8 + 40 from rfl, nbs_8 h2, show (40 : Nat) = 8 + 32 from rfl, nbs_8 h3, show (32 : Nat) = 8 + 24 from rfl, nbs_8 h4, show (24 : Nat) = 8 + 16 from rfl, nbs_8 h5, show (16 : Nat) = 8 + 8 from rfl, nbs_8 h6, e7]
  omega
theorem ctp_nbs (a : Int) : ∀ k, ctp (fun k => bt a k = true) k = (nbs (un a) k : Int)
  | 0 => rfl
  | k + 1 => by
    show ctp (fun k => bt a k = true) k + @ite Int (bt a k = true) (Classical.propDecidable _) 1 0 = ((nbs (un a) k + un a / 2 ^ k % 2 : Nat) : Int)
    rw [ctp_nbs a k]
    have e := Nat.testBit_eq_decide_div_mod_eq (x := un a) (i := k)
    by_cases hb : un a / 2 ^ k % 2 = 1
    · rw [if_pos (by rw [bt_un, e, decide_eq_true hb]), hb]
      rfl
    · rw [if_neg (by rw [bt_un, e, decide_eq_false hb]; decide)]
      omega
/-- what Long.bitCount does, step by step -/
theorem swar {a y0 y1 y2 y3 y4 y5 y6 : Nat} (ha : a < 18446744073709551616) (e0 : y0 = (a / 2) &&& 6148914691236517205) (e1 : y1 = ((18446744073709551616 - y0) + a) % 18446744073709551616) (e2 : y2 = ((y1 &&& 3689348814741910323) + ((y1 / 4) &&& 3689348814741910323)) % 18446744073709551616)
    (e3 : y3 = ((y2 + y2 / 16) % 18446744073709551616) &&& 1085102592571150095) (e4 : y4 = (y3 + y3 / 256) % 18446744073709551616) (e5 : y5 = (y4 + y4 / 65536) % 18446744073709551616) (e6 : y6 = (y5 + y5 / 4294967296) % 18446744073709551616) : y6 % 4294967296 % 128 = nbs a 64 := by
  obtain ⟨b0, b1, b2, b3, b4, b5, b6, b7, hb, rfl⟩ := by8_of a ha
  rw [nbs_64 hb]
  rw [e0, sw_1 hb] at e1
  obtain ⟨h0, h1, h2, h3, h4, h5, h6, h7⟩ := id hb
  have t0 := tb_2 b0 h0
  have t1 := tb_2 b1 h1
  have t2 := tb_2 b2 h2
  have t3 := tb_2 b3 h3
  have t4 := tb_2 b4 h4
  have t5 := tb_2 b5 h5
  have t6 := tb_2 b6 h6
  have t7 := tb_2 b7 h7
  rw [e1, sw_2 ⟨t0.2.2, t1.2.2, t2.2.2, t3.2.2, t4.2.2, t5.2.2, t6.2.2, t7.2.2⟩] at e2
  have e2 : y2 = by8 (r1b b0) (r1b b1) (r1b b2) (r1b b3) (r1b b4) (r1b b5) (r1b b6) (r1b b7) := by
    rw [e2]
    show by8 (r1b b0) (r1b b1) (r1b b2) (r1b b3) (r1b b4) (r1b b5) (r1b b6) (r1b b7) % 18446744073709551616 = _
    have g0 := (tb_4 b0 h0).1
    have g1 := (tb_4 b1 h1).1
    have g2 := (tb_4 b2 h2).1
    have g3 := (tb_4 b3 h3).1
    have g4 := (tb_4 b4 h4).1
    have g5 := (tb_4 b5 h5).1
    have g6 := (tb_4 b6 h6).1
    have g7 := (tb_4 b7 h7).1
    exact Nat.mod_eq_of_lt (by8_lt (by omega) (by omega) (by omega) (by omega) (by omega) (by omega) (by omega) (by omega))
  rw [e2, sw_3 hb] at e3
  exact sw_4 ⟨tb_6 b0 h0, tb_6 b1 h1, tb_6 b2 h2, tb_6 b3 h3, tb_6 b4 h4, tb_6 b5 h5, tb_6 b6 h6, tb_6 b7 h7⟩ e3 e4 e5 e6
theorem un_c : un 6148914691236517205 = 6148914691236517205 ∧ un 3689348814741910323 = 3689348814741910323 ∧ un 1085102592571150095 = 1085102592571150095 := by decide +kernel
theorem pw_u : (2 : Nat) ^ (1 : Int).toNat = 2 ∧ (2 : Nat) ^ (2 : Int).toNat = 4 ∧ (2 : Nat) ^ (4 : Int).toNat = 16 ∧ (2 : Nat) ^ (8 : Int).toNat = 256 ∧ (2 : Nat) ^ (16 : Int).toNat = 65536 ∧ (2 : Nat) ^ (32 : Int).toNat = 4294967296 := by decide +kernel
