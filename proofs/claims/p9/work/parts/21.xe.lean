theorem am_and_le' {x y : Int32} (h : 0 ≤ y.toInt) : 0 ≤ (x &&& y).toInt ∧ (x &&& y).toInt ≤ y.toInt := by
  have e : ∀ z : Int32, z.toInt = z.toBitVec.toInt := fun z => rfl
  rw [e y] at h
  rw [e y, e (x &&& y), Int32.toBitVec_and]
  have hy : y.toBitVec.toInt = y.toBitVec.toNat := by
    rw [BitVec.toInt_eq_toNat_cond] at h ⊢
    have := y.toBitVec.isLt
    split
    · rfl
    · next hn => rw [if_neg hn] at h; omega
  have hle : (x.toBitVec &&& y.toBitVec).toNat ≤ y.toBitVec.toNat := by rw [BitVec.toNat_and]; exact Nat.and_le_right
  have hz : (x.toBitVec &&& y.toBitVec).toInt = (x.toBitVec &&& y.toBitVec).toNat := by
    rw [BitVec.toInt_eq_toNat_cond, if_pos]
    rw [BitVec.toInt_eq_toNat_cond] at hy
    have := y.toBitVec.isLt
    split at hy
    · omega
    · omega
  rw [hy, hz]
  omega
/-! A LEMMA AN INSTRUCTION, over the state behind the constructors -/
def xr (s : xS) (h : pmH) : Prop := h.length = x_N ∧ ∀ q, q < x_N → ∃ f, h[q]? = some ((x_sh q).1, (x_sh q).2.1, f) ∧ ∀ i, i < (x_sh q).2.1 → f i = x_val (x_kd q i) (s q i)
def xe (X : pmX) (m pc : Nat) (ls : pmL) (st : List Value) (s : xS) (c k : Nat) (P : xS → Option Value → Prop) : Prop := ∀ h, xr s h → ex X m pc ls st h c k (fun h' r => ∃ s', xr s' h' ∧ P s' r)
def x_up (s : xS) (q i : Nat) (v : Int) : xS := fun a b => if a = q ∧ b = i then v else s a b
def in32 (a : Int) : Prop := -2147483648 ≤ a ∧ a ≤ 2147483647
def in64 (a : Int) : Prop := -9223372036854775808 ≤ a ∧ a ≤ 9223372036854775807
theorem x_up_same {s : xS} {q i : Nat} {v : Int} : x_up s q i v q i = v := if_pos ⟨rfl, rfl⟩
theorem x_up_q {s : xS} {q i a b : Nat} {v : Int} (h : a ≠ q) : x_up s q i v a b = s a b := if_neg (fun z => h z.1)
theorem x_up_i {s : xS} {q i a b : Nat} {v : Int} (h : b ≠ i) : x_up s q i v a b = s a b := if_neg (fun z => h z.2)
theorem in32_toInt {a : Int} (h : in32 a) : (Int32.ofInt a).toInt = a := Int32.toInt_ofInt_of_le h.1 (by have := h.2; omega)
theorem in64_toInt {a : Int} (h : in64 a) : (Int64.ofInt a).toInt = a := Int64.toInt_ofInt_of_le h.1 (by have := h.2; omega)
theorem in32_lt {a b : Int} (ha : in32 a) (hb : in32 b) : Int32.ofInt a < Int32.ofInt b ↔ a < b := by rw [Int32.lt_iff_toInt_lt, in32_toInt ha, in32_toInt hb]
theorem in32_le {a b : Int} (ha : in32 a) (hb : in32 b) : Int32.ofInt a ≤ Int32.ofInt b ↔ a ≤ b := by rw [Int32.le_iff_toInt_le, in32_toInt ha, in32_toInt hb]
theorem in32_eq {a b : Int} (ha : in32 a) (hb : in32 b) : Int32.ofInt a = Int32.ofInt b ↔ a = b := by rw [← Int32.toInt_inj, in32_toInt ha, in32_toInt hb]
theorem in32_any (x : Int32) : ∃ t, in32 t ∧ x = Int32.ofInt t := ⟨x.toInt, ⟨x.le_toInt, by have := x.toInt_lt; omega⟩, (Int32.ofInt_toInt x).symm⟩
theorem in64_any (x : Int64) : ∃ t, in64 t ∧ x = Int64.ofInt t := ⟨x.toInt, ⟨x.le_toInt, by have := x.toInt_lt; omega⟩, (Int64.ofInt_toInt x).symm⟩
section XL
variable {X : pmX} {m pc : Nat} {ls : pmL} {r : List Value} {s : xS} {c k : Nat} {P : xS → Option Value → Prop} {len : Nat} {a b : Int}
theorem xe_mono {st : List Value} {Q : xS → Option Value → Prop} (hx : xe X m pc ls st s c k Q) (hPQ : ∀ s' v, Q s' v → P s' v) : xe X m pc ls st s c k P := fun h hr => ex_mono (fun _ _ ⟨s', g1, g2⟩ => ⟨s', g1, hPQ _ _ g2⟩) (hx h hr)
/-- any step of stack, locals and numbers -/
theorem x_A {i : Instr} {st st' : List Value} {pc' : Nat} {ls' : pmL} (hk : pm_look (pm_kl m) pc = some (i, len)) (hs : ∀ h, pm_stepA m i pc ls st h c k = some (pc', ls', st', h, c, k)) (kk : xe X m pc' ls' st' s c k P) : xe X m pc ls st s c k P :=
  fun h hr => ex_step hk (pm_A_end (hs h)) (pm_A_inv (hs h)) (by unfold pm_step; rw [hs h]) (kk h hr)
/-- any step with the heap that leaves the heap as it is -/
theorem x_B {i : Instr} {st st' : List Value} {pc' : Nat} (hk : pm_look (pm_kl m) pc = some (i, len)) (he : pm_end m i st = none) (hi : ∀ h, pm_inv m i st h c k = none) (hA : ∀ h, pm_stepA m i pc ls st h c k = none) (hs : ∀ h, xr s h → pm_stepB X m i pc ls st h c k = some (pc', ls, st', h, c, k)) (kk : xe X m pc' ls st' s c k P) : xe X m pc ls st s c k P :=
  fun h hr => ex_step hk he (hi h) (by unfold pm_step; rw [hA h]; exact hs h hr) (kk h hr)
theorem x_iadd (hk : pm_look (pm_kl m) pc = some (.iadd, len)) (kk : xe X m (pc + 1) ls (vi (a + b) :: r) s c k P) : xe X m pc ls (vi b :: vi a :: r) s c k P := x_A hk (fun h => by simp only [pm_stepA]; rw [← Int32.ofInt_add]) kk
theorem x_isub (hk : pm_look (pm_kl m) pc = some (.isub, len)) (kk : xe X m (pc + 1) ls (vi (a - b) :: r) s c k P) : xe X m pc ls (vi b :: vi a :: r) s c k P := x_A hk (fun h => by simp only [pm_stepA]; rw [← Int32.ofInt_sub]) kk
theorem x_imul (hk : pm_look (pm_kl m) pc = some (.imul, len)) (kk : xe X m (pc + 1) ls (vi (a * b) :: r) s c k P) : xe X m pc ls (vi b :: vi a :: r) s c k P := x_A hk (fun h => by simp only [pm_stepA]; rw [← Int32.ofInt_mul]) kk
theorem x_iinc {j : Nat} {n : Int} {ls' : pmL} (hk : pm_look (pm_kl m) pc = some (.iinc j n, len)) (hl : pm_get ls j = some (vi a)) (hj : j < pm_maxL m) (hs : pm_st1 ls j (vi (a + n)) = ls') (kk : xe X m (pc + 3) ls' r s c k P) : xe X m pc ls r s c k P := x_A hk (fun h => by simp only [pm_stepA, hl]; rw [if_pos hj, ← Int32.ofInt_add, hs]) kk
theorem x_istore_n {j : Fin 4} {ls' : pmL} (hk : pm_look (pm_kl m) pc = some (.istore_n j, len)) (hj : (j : Nat) < pm_maxL m) (hs : pm_st1 ls j (vi a) = ls') (kk : xe X m (pc + 1) ls' r s c k P) : xe X m pc ls (vi a :: r) s c k P := x_A hk (fun h => by simp only [pm_stepA]; rw [if_pos hj, hs]) kk
theorem x_istore {j : Nat} {ls' : pmL} (hk : pm_look (pm_kl m) pc = some (.istore j, len)) (hj : j < pm_maxL m) (hs : pm_st1 ls j (vi a) = ls') (kk : xe X m (pc + 2) ls' r s c k P) : xe X m pc ls (vi a :: r) s c k P := x_A hk (fun h => by simp only [pm_stepA]; rw [if_pos hj, hs]) kk
theorem x_lstore_n {j : Fin 4} {ls' : pmL} (hk : pm_look (pm_kl m) pc = some (.lstore_n j, len)) (hj : (j : Nat) + 1 < pm_maxL m) (hs : pm_st2 ls j (vj a) = ls') (kk : xe X m (pc + 1) ls' r s c k P) : xe X m pc ls (vj a :: r) s c k P := x_A hk (fun h => by simp only [pm_stepA]; rw [if_pos hj, hs]) kk
theorem x_lstore {j : Nat} {ls' : pmL} (hk : pm_look (pm_kl m) pc = some (.lstore j, len)) (hj : j + 1 < pm_maxL m) (hs : pm_st2 ls j (vj a) = ls') (kk : xe X m (pc + 2) ls' r s c k P) : xe X m pc ls (vj a :: r) s c k P := x_A hk (fun h => by simp only [pm_stepA]; rw [if_pos hj, hs]) kk
theorem x_astore_n {j : Fin 4} {q : Nat} {ls' : pmL} (hk : pm_look (pm_kl m) pc = some (.astore_n j, len)) (hj : (j : Nat) < pm_maxL m) (hs : pm_st1 ls j (.ref q) = ls') (kk : xe X m (pc + 1) ls' r s c k P) : xe X m pc ls (.ref q :: r) s c k P := x_A hk (fun h => by simp only [pm_stepA]; rw [if_pos hj, hs]) kk
theorem x_iand_any (hk : pm_look (pm_kl m) pc = some (.iand, len)) (kk : ∀ t, in32 t → xe X m (pc + 1) ls (vi t :: r) s c k P) : xe X m pc ls (vi b :: vi a :: r) s c k P := fun h hr => by
  obtain ⟨t, ht, e⟩ := in32_any (Int32.ofInt a &&& Int32.ofInt b)
  exact x_A hk (fun h => by simp only [pm_stepA]; rw [e]) (kk t ht) h hr
theorem x_ior_any (hk : pm_look (pm_kl m) pc = some (.ior, len)) (kk : ∀ t, in32 t → xe X m (pc + 1) ls (vi t :: r) s c k P) : xe X m pc ls (vi b :: vi a :: r) s c k P := fun h hr => by
  obtain ⟨t, ht, e⟩ := in32_any (Int32.ofInt a ||| Int32.ofInt b)
  exact x_A hk (fun h => by simp only [pm_stepA]; rw [e]) (kk t ht) h hr
theorem x_ishl_any (hk : pm_look (pm_kl m) pc = some (.ishl, len)) (kk : ∀ t, in32 t → xe X m (pc + 1) ls (vi t :: r) s c k P) : xe X m pc ls (vi b :: vi a :: r) s c k P := fun h hr => by
  obtain ⟨t, ht, e⟩ := in32_any (Int32.ofInt a <<< (Int32.ofInt b &&& 31))
  exact x_A hk (fun h => by simp only [pm_stepA]; rw [e]) (kk t ht) h hr
theorem x_ishr_any (hk : pm_look (pm_kl m) pc = some (.ishr, len)) (kk : ∀ t, in32 t → xe X m (pc + 1) ls (vi t :: r) s c k P) : xe X m pc ls (vi b :: vi a :: r) s c k P := fun h hr => by
  obtain ⟨t, ht, e⟩ := in32_any (Int32.ofInt a >>> (Int32.ofInt b &&& 31))
  exact x_A hk (fun h => by simp only [pm_stepA]; rw [e]) (kk t ht) h hr
theorem x_iushr_any (hk : pm_look (pm_kl m) pc = some (.iushr, len)) (kk : ∀ t, in32 t → xe X m (pc + 1) ls (vi t :: r) s c k P) : xe X m pc ls (vi b :: vi a :: r) s c k P := fun h hr => by
  obtain ⟨t, ht, e⟩ := in32_any (((Int32.ofInt a).toUInt32 >>> ((Int32.ofInt b).toUInt32 &&& Int32.toUInt32 31)).toInt32)
  exact x_A hk (fun h => by simp only [pm_stepA]; rw [e]) (kk t ht) h hr
theorem x_ladd_any (hk : pm_look (pm_kl m) pc = some (.ladd, len)) (kk : ∀ t, in64 t → xe X m (pc + 1) ls (vj t :: r) s c k P) : xe X m pc ls (vj b :: vj a :: r) s c k P := fun h hr => by
  obtain ⟨t, ht, e⟩ := in64_any (Int64.ofInt a + Int64.ofInt b)
  exact x_A hk (fun h => by simp only [pm_stepA]; rw [e]) (kk t ht) h hr
theorem x_lsub_any (hk : pm_look (pm_kl m) pc = some (.lsub, len)) (kk : ∀ t, in64 t → xe X m (pc + 1) ls (vj t :: r) s c k P) : xe X m pc ls (vj b :: vj a :: r) s c k P := fun h hr => by
  obtain ⟨t, ht, e⟩ := in64_any (Int64.ofInt a - Int64.ofInt b)
  exact x_A hk (fun h => by simp only [pm_stepA]; rw [e]) (kk t ht) h hr
theorem x_lmul_any (hk : pm_look (pm_kl m) pc = some (.lmul, len)) (kk : ∀ t, in64 t → xe X m (pc + 1) ls (vj t :: r) s c k P) : xe X m pc ls (vj b :: vj a :: r) s c k P := fun h hr => by
  obtain ⟨t, ht, e⟩ := in64_any (Int64.ofInt a * Int64.ofInt b)
  exact x_A hk (fun h => by simp only [pm_stepA]; rw [e]) (kk t ht) h hr
theorem x_land_any (hk : pm_look (pm_kl m) pc = some (.land, len)) (kk : ∀ t, in64 t → xe X m (pc + 1) ls (vj t :: r) s c k P) : xe X m pc ls (vj b :: vj a :: r) s c k P := fun h hr => by
  obtain ⟨t, ht, e⟩ := in64_any (Int64.ofInt a &&& Int64.ofInt b)
  exact x_A hk (fun h => by simp only [pm_stepA]; rw [e]) (kk t ht) h hr
theorem x_lor_any (hk : pm_look (pm_kl m) pc = some (.lor, len)) (kk : ∀ t, in64 t → xe X m (pc + 1) ls (vj t :: r) s c k P) : xe X m pc ls (vj b :: vj a :: r) s c k P := fun h hr => by
  obtain ⟨t, ht, e⟩ := in64_any (Int64.ofInt a ||| Int64.ofInt b)
  exact x_A hk (fun h => by simp only [pm_stepA]; rw [e]) (kk t ht) h hr
theorem x_lxor_any (hk : pm_look (pm_kl m) pc = some (.lxor, len)) (kk : ∀ t, in64 t → xe X m (pc + 1) ls (vj t :: r) s c k P) : xe X m pc ls (vj b :: vj a :: r) s c k P := fun h hr => by
  obtain ⟨t, ht, e⟩ := in64_any (Int64.ofInt a ^^^ Int64.ofInt b)
  exact x_A hk (fun h => by simp only [pm_stepA]; rw [e]) (kk t ht) h hr
theorem x_lshl_any (hk : pm_look (pm_kl m) pc = some (.lshl, len)) (kk : ∀ t, in64 t → xe X m (pc + 1) ls (vj t :: r) s c k P) : xe X m pc ls (vi b :: vj a :: r) s c k P := fun h hr => by
  obtain ⟨t, ht, e⟩ := in64_any (Int64.ofInt a <<< ((Int32.ofInt b).toInt64 &&& 63))
  exact x_A hk (fun h => by simp only [pm_stepA]; rw [e]) (kk t ht) h hr
theorem x_lshr_any (hk : pm_look (pm_kl m) pc = some (.lshr, len)) (kk : ∀ t, in64 t → xe X m (pc + 1) ls (vj t :: r) s c k P) : xe X m pc ls (vi b :: vj a :: r) s c k P := fun h hr => by
  obtain ⟨t, ht, e⟩ := in64_any (Int64.ofInt a >>> ((Int32.ofInt b).toInt64 &&& 63))
  exact x_A hk (fun h => by simp only [pm_stepA]; rw [e]) (kk t ht) h hr
theorem x_lushr_any (hk : pm_look (pm_kl m) pc = some (.lushr, len)) (kk : ∀ t, in64 t → xe X m (pc + 1) ls (vj t :: r) s c k P) : xe X m pc ls (vi b :: vj a :: r) s c k P := fun h hr => by
  obtain ⟨t, ht, e⟩ := in64_any (((Int64.ofInt a).toUInt64 >>> ((Int32.ofInt b).toInt64.toUInt64 &&& Int64.toUInt64 63)).toInt64)
  exact x_A hk (fun h => by simp only [pm_stepA]; rw [e]) (kk t ht) h hr
theorem x_l2i_any (hk : pm_look (pm_kl m) pc = some (.l2i, len)) (kk : ∀ t, in32 t → xe X m (pc + 1) ls (vi t :: r) s c k P) : xe X m pc ls (vj a :: r) s c k P := fun h hr => by
  obtain ⟨t, ht, e⟩ := in32_any (Int64.ofInt a).toInt32
  exact x_A hk (fun h => by simp only [pm_stepA]; rw [e]) (kk t ht) h hr
theorem x_i2l (hk : pm_look (pm_kl m) pc = some (.i2l, len)) (ha : in32 a) (kk : xe X m (pc + 1) ls (vj a :: r) s c k P) : xe X m pc ls (vi a :: r) s c k P := x_A hk (fun h => by
  simp only [pm_stepA]
  rw [show (Int32.ofInt a).toInt64 = Int64.ofInt a from by rw [← Int64.toInt_inj, Int32.toInt_toInt64, in32_toInt ha, in64_toInt ⟨by have := ha.1; omega, by have := ha.2; omega⟩]]) kk
theorem x_and_mask {n : Int} (hk : pm_look (pm_kl m) pc = some (.iand, len)) (hn : 0 ≤ n ∧ n ≤ 2147483647) (kk : ∀ t, 0 ≤ t ∧ t ≤ n → xe X m (pc + 1) ls (vi t :: r) s c k P) : xe X m pc ls (vi n :: vi a :: r) s c k P := fun h hr => by
  have hm := am_and_le' (x := Int32.ofInt a) (y := Int32.ofInt n) (by rw [in32_toInt ⟨by omega, by omega⟩]; exact hn.1)
  rw [in32_toInt ⟨by omega, by omega⟩] at hm
  exact x_A hk (fun h => by simp only [pm_stepA, vi, Int32.ofInt_toInt]) (kk _ hm) h hr
theorem x_br {st : List Value} {i : Instr} {bb : Bool} {C : Prop} {off : Int} {t : Nat} (hk : pm_look (pm_kl m) pc = some (i, len)) (ht : pm_tgt pc off = some t) (hs : ∀ h, pm_stepA m i pc ls st h c k = pm_br bb pc off ls r h c k) (hC : bb = true ↔ C) (k1 : C → xe X m t ls r s c k P) (k2 : ¬ C → xe X m (pc + 3) ls r s c k P) : xe X m pc ls st s c k P := by
  cases bb with
  | true => exact x_A hk (fun h => by rw [hs h]; unfold pm_br; rw [ht]; rfl) (k1 (hC.mp rfl))
  | false => exact x_A hk (fun h => by rw [hs h]; unfold pm_br; rw [ht]; rfl) (k2 (fun z => by have := hC.mpr z; cases this))
theorem x_ic_eq {off : Int} {t : Nat} (hk : pm_look (pm_kl m) pc = some (.if_icmp .eq off, len)) (ht : pm_tgt pc off = some t) (ha : in32 a) (hb : in32 b) (k1 : a = b → xe X m t ls r s c k P) (k2 : ¬ (a = b) → xe X m (pc + 3) ls r s c k P) : xe X m pc ls (vi b :: vi a :: r) s c k P := x_br (bb := decide (Int32.ofInt a = Int32.ofInt b)) hk ht (fun _ => rfl) (decide_eq_true_iff.trans (in32_eq ha hb)) k1 k2
theorem x_if_eq {off : Int} {t : Nat} (hk : pm_look (pm_kl m) pc = some (.ifCond .eq off, len)) (ht : pm_tgt pc off = some t) (ha : in32 a) (k1 : a = 0 → xe X m t ls r s c k P) (k2 : ¬ (a = 0) → xe X m (pc + 3) ls r s c k P) : xe X m pc ls (vi a :: r) s c k P := by
  have hb : in32 0 := ⟨by decide, by decide⟩
  exact x_br (bb := decide (Int32.ofInt a = (0 : Int32))) hk ht (fun _ => rfl) (decide_eq_true_iff.trans (in32_eq ha hb)) k1 k2
theorem x_ic_ne {off : Int} {t : Nat} (hk : pm_look (pm_kl m) pc = some (.if_icmp .ne off, len)) (ht : pm_tgt pc off = some t) (ha : in32 a) (hb : in32 b) (k1 : a ≠ b → xe X m t ls r s c k P) (k2 : ¬ (a ≠ b) → xe X m (pc + 3) ls r s c k P) : xe X m pc ls (vi b :: vi a :: r) s c k P := x_br (bb := decide (¬ Int32.ofInt a = Int32.ofInt b)) hk ht (fun _ => rfl) (decide_eq_true_iff.trans (not_congr (in32_eq ha hb))) k1 k2
theorem x_if_ne {off : Int} {t : Nat} (hk : pm_look (pm_kl m) pc = some (.ifCond .ne off, len)) (ht : pm_tgt pc off = some t) (ha : in32 a) (k1 : a ≠ 0 → xe X m t ls r s c k P) (k2 : ¬ (a ≠ 0) → xe X m (pc + 3) ls r s c k P) : xe X m pc ls (vi a :: r) s c k P := by
  have hb : in32 0 := ⟨by decide, by decide⟩
  exact x_br (bb := decide (¬ Int32.ofInt a = (0 : Int32))) hk ht (fun _ => rfl) (decide_eq_true_iff.trans (not_congr (in32_eq ha hb))) k1 k2
theorem x_ic_lt {off : Int} {t : Nat} (hk : pm_look (pm_kl m) pc = some (.if_icmp .lt off, len)) (ht : pm_tgt pc off = some t) (ha : in32 a) (hb : in32 b) (k1 : a < b → xe X m t ls r s c k P) (k2 : ¬ (a < b) → xe X m (pc + 3) ls r s c k P) : xe X m pc ls (vi b :: vi a :: r) s c k P := x_br (bb := decide (Int32.ofInt a < Int32.ofInt b)) hk ht (fun _ => rfl) (decide_eq_true_iff.trans (in32_lt ha hb)) k1 k2
theorem x_if_lt {off : Int} {t : Nat} (hk : pm_look (pm_kl m) pc = some (.ifCond .lt off, len)) (ht : pm_tgt pc off = some t) (ha : in32 a) (k1 : a < 0 → xe X m t ls r s c k P) (k2 : ¬ (a < 0) → xe X m (pc + 3) ls r s c k P) : xe X m pc ls (vi a :: r) s c k P := by
  have hb : in32 0 := ⟨by decide, by decide⟩
  exact x_br (bb := decide (Int32.ofInt a < (0 : Int32))) hk ht (fun _ => rfl) (decide_eq_true_iff.trans (in32_lt ha hb)) k1 k2
theorem x_ic_ge {off : Int} {t : Nat} (hk : pm_look (pm_kl m) pc = some (.if_icmp .ge off, len)) (ht : pm_tgt pc off = some t) (ha : in32 a) (hb : in32 b) (k1 : b ≤ a → xe X m t ls r s c k P) (k2 : ¬ (b ≤ a) → xe X m (pc + 3) ls r s c k P) : xe X m pc ls (vi b :: vi a :: r) s c k P := x_br (bb := decide (Int32.ofInt b ≤ Int32.ofInt a)) hk ht (fun _ => rfl) (decide_eq_true_iff.trans (in32_le hb ha)) k1 k2
theorem x_if_ge {off : Int} {t : Nat} (hk : pm_look (pm_kl m) pc = some (.ifCond .ge off, len)) (ht : pm_tgt pc off = some t) (ha : in32 a) (k1 : 0 ≤ a → xe X m t ls r s c k P) (k2 : ¬ (0 ≤ a) → xe X m (pc + 3) ls r s c k P) : xe X m pc ls (vi a :: r) s c k P := by
  have hb : in32 0 := ⟨by decide, by decide⟩
  exact x_br (bb := decide ((0 : Int32) ≤ Int32.ofInt a)) hk ht (fun _ => rfl) (decide_eq_true_iff.trans (in32_le hb ha)) k1 k2
theorem x_ic_gt {off : Int} {t : Nat} (hk : pm_look (pm_kl m) pc = some (.if_icmp .gt off, len)) (ht : pm_tgt pc off = some t) (ha : in32 a) (hb : in32 b) (k1 : b < a → xe X m t ls r s c k P) (k2 : ¬ (b < a) → xe X m (pc + 3) ls r s c k P) : xe X m pc ls (vi b :: vi a :: r) s c k P := x_br (bb := decide (Int32.ofInt b < Int32.ofInt a)) hk ht (fun _ => rfl) (decide_eq_true_iff.trans (in32_lt hb ha)) k1 k2
theorem x_if_gt {off : Int} {t : Nat} (hk : pm_look (pm_kl m) pc = some (.ifCond .gt off, len)) (ht : pm_tgt pc off = some t) (ha : in32 a) (k1 : 0 < a → xe X m t ls r s c k P) (k2 : ¬ (0 < a) → xe X m (pc + 3) ls r s c k P) : xe X m pc ls (vi a :: r) s c k P := by
  have hb : in32 0 := ⟨by decide, by decide⟩
  exact x_br (bb := decide ((0 : Int32) < Int32.ofInt a)) hk ht (fun _ => rfl) (decide_eq_true_iff.trans (in32_lt hb ha)) k1 k2
theorem x_ic_le {off : Int} {t : Nat} (hk : pm_look (pm_kl m) pc = some (.if_icmp .le off, len)) (ht : pm_tgt pc off = some t) (ha : in32 a) (hb : in32 b) (k1 : a ≤ b → xe X m t ls r s c k P) (k2 : ¬ (a ≤ b) → xe X m (pc + 3) ls r s c k P) : xe X m pc ls (vi b :: vi a :: r) s c k P := x_br (bb := decide (Int32.ofInt a ≤ Int32.ofInt b)) hk ht (fun _ => rfl) (decide_eq_true_iff.trans (in32_le ha hb)) k1 k2
theorem x_if_le {off : Int} {t : Nat} (hk : pm_look (pm_kl m) pc = some (.ifCond .le off, len)) (ht : pm_tgt pc off = some t) (ha : in32 a) (k1 : a ≤ 0 → xe X m t ls r s c k P) (k2 : ¬ (a ≤ 0) → xe X m (pc + 3) ls r s c k P) : xe X m pc ls (vi a :: r) s c k P := by
  have hb : in32 0 := ⟨by decide, by decide⟩
  exact x_br (bb := decide (Int32.ofInt a ≤ (0 : Int32))) hk ht (fun _ => rfl) (decide_eq_true_iff.trans (in32_le ha hb)) k1 k2
end XL
