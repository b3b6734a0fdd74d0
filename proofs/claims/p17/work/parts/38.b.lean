/-! bits of longs -/
def bt (t : Int) (k : Nat) : Bool := (Int64.ofInt t).toBitVec.getLsbD k
theorem bt_shl : ∀ b : Nat, b < 64 → ∀ k : Nat, k < 64 → (Int64.ofInt 1 <<< ((Int32.ofInt (b : Int)).toInt64 &&& 63)).toBitVec.getLsbD k = decide (k = b) := by decide +kernel
theorem bt_amt : ∀ b : Nat, b < 64 → ((Int32.ofInt (b : Int)).toInt64.toUInt64 &&& Int64.toUInt64 63) = UInt64.ofNat b := by decide +kernel
theorem bt_1 : ∀ k : Nat, k < 64 → bt 1 k = decide (k = 0) := by decide +kernel
theorem bt_0 {k : Nat} : bt 0 k = false := BitVec.getLsbD_zero
theorem bt_ge {t : Int} {k : Nat} (h : 64 ≤ k) : bt t k = false := BitVec.getLsbD_of_ge _ _ h
section XBT
variable {X : pmX} {m pc : Nat} {ls : pmL} {r : List Value} {s : xS} {c k : Nat} {P : xS → Option Value → Prop} {len : Nat} {a b : Int}
theorem x_lor_b (hk : pm_look (pm_kl m) pc = some (.lor, len)) (kk : ∀ t, in64 t → (∀ k, bt t k = (bt a k || bt b k)) → xe X m (pc + 1) ls (vj t :: r) s c k P) : xe X m pc ls (vj b :: vj a :: r) s c k P := fun h hr => by
  obtain ⟨t, ht, e⟩ := in64_any (Int64.ofInt a ||| Int64.ofInt b)
  exact x_A hk (fun h => by simp only [pm_stepA]; rw [e]) (kk t ht (fun k => by unfold bt; rw [← e, Int64.toBitVec_or, BitVec.getLsbD_or])) h hr
theorem x_land_b (hk : pm_look (pm_kl m) pc = some (.land, len)) (kk : ∀ t, in64 t → (∀ k, bt t k = (bt a k && bt b k)) → xe X m (pc + 1) ls (vj t :: r) s c k P) : xe X m pc ls (vj b :: vj a :: r) s c k P := fun h hr => by
  obtain ⟨t, ht, e⟩ := in64_any (Int64.ofInt a &&& Int64.ofInt b)
  exact x_A hk (fun h => by simp only [pm_stepA]; rw [e]) (kk t ht (fun k => by unfold bt; rw [← e, Int64.toBitVec_and, BitVec.getLsbD_and])) h hr
theorem x_lshl1 (hk : pm_look (pm_kl m) pc = some (.lshl, len)) (hb : 0 ≤ b ∧ b ≤ 63) (kk : ∀ t, in64 t → (∀ k : Nat, k < 64 → bt t k = decide (k = b.toNat)) → xe X m (pc + 1) ls (vj t :: r) s c k P) : xe X m pc ls (vi b :: vj 1 :: r) s c k P := fun h hr => by
  obtain ⟨t, ht, e⟩ := in64_any (Int64.ofInt 1 <<< ((Int32.ofInt b).toInt64 &&& 63))
  refine x_A hk (fun h => by simp only [pm_stepA]; rw [e]) (kk t ht (fun k hk2 => ?_)) h hr
  have hb2 : ((b.toNat : Nat) : Int) = b := by omega
  have := bt_shl b.toNat (by omega) k hk2
  rw [hb2, e] at this
  exact this
theorem x_lushr_b (hk : pm_look (pm_kl m) pc = some (.lushr, len)) (hb : 0 ≤ b ∧ b ≤ 63) (kk : ∀ t, in64 t → (∀ k : Nat, bt t k = bt a (b.toNat + k)) → xe X m (pc + 1) ls (vj t :: r) s c k P) : xe X m pc ls (vi b :: vj a :: r) s c k P := fun h hr => by
  obtain ⟨t, ht, e⟩ := in64_any ((Int64.ofInt a).toUInt64 >>> ((Int32.ofInt b).toInt64.toUInt64 &&& Int64.toUInt64 63)).toInt64
  refine x_A hk (fun h => by simp only [pm_stepA]; rw [e]) (kk t ht (fun k => ?_)) h hr
  have hb2 : ((b.toNat : Nat) : Int) = b := by omega
  have h1 := bt_amt b.toNat (by omega)
  rw [hb2] at h1
  unfold bt
  rw [← e, h1]
  show (((Int64.ofInt a).toUInt64 >>> UInt64.ofNat b.toNat).toBitVec).getLsbD k = _
  rw [UInt64.toBitVec_shiftRight]
  show ((Int64.ofInt a).toBitVec >>> ((UInt64.ofNat b.toNat).toBitVec % 64)).getLsbD k = _
  rw [BitVec.ushiftRight_eq', BitVec.getLsbD_ushiftRight]
  have h2 : ((UInt64.ofNat b.toNat).toBitVec % 64).toNat = b.toNat := by
    rw [BitVec.toNat_umod]
    show (UInt64.ofNat b.toNat).toNat % 64 = _
    rw [UInt64.toNat_ofNat']
    omega
  rw [h2]
end XBT
theorem bt_eq {t u : Int} (ht : in64 t) (hu : in64 u) (h : ∀ k : Nat, k < 64 → bt t k = bt u k) : t = u := by
  have e : Int64.ofInt t = Int64.ofInt u := by
    rw [← Int64.toBitVec_inj]
    exact BitVec.eq_of_getLsbD_eq (fun i hi => h i hi)
  rw [← in64_toInt ht, ← in64_toInt hu, e]
/-- the last bit alone -/
theorem bt_low {t u : Int} (ht : in64 t) (h : ∀ k, bt t k = (bt u k && bt 1 k)) : (t = 0 ∧ bt u 0 = false) ∨ (t ≠ 0 ∧ bt u 0 = true) := by
  have h0 := h 0
  rw [bt_1 0 (by decide)] at h0
  cases hb : bt u 0
  · left
    refine ⟨bt_eq ht ⟨by decide, by decide⟩ (fun k hk => ?_), rfl⟩
    rw [h k, bt_1 k hk]
    by_cases e : k = 0
    · rw [e, hb]; rfl
    · rw [decide_eq_false e, Bool.and_false]
      exact (BitVec.getLsbD_zero).symm
  · right
    refine ⟨fun z => ?_, rfl⟩
    rw [hb, z] at h0
    cases h0
