section XO
variable {X : pmX} {m pc : Nat} {ls : pmL} {r : List Value} {s : xS} {c k : Nat} {P : xS → Option Value → Prop} {len : Nat} {a : Int}
theorem x_tabD {d lo hi : Int} {offs : Array Int} {t0 : Nat} (hk : pm_look (pm_kl m) pc = some (.tableswitch d lo hi offs, len)) (ha : in32 a) (ho : ¬ (lo ≤ a ∧ a ≤ hi)) (h0 : pm_tgt pc d = some t0) (kk : xe X m t0 ls r s c k P) : xe X m pc ls (vi a :: r) s c k P := by
  refine x_B hk rfl (fun _ => rfl) (fun _ => rfl) (fun h _ => ?_) kk
  simp only [pm_stepB, in32_toInt ha]
  rw [if_pos (by omega)]
  simp only [h0]
end XO
theorem FL.nil {s s' : xS} (h : FL [] s s') : s' = s := by
  funext q i
  exact h q i List.not_mem_nil
section XQ
variable {X : pmX} {m pc : Nat} {ls : pmL} {r : List Value} {s : xS} {c k : Nat} {P : xS → Option Value → Prop} {len : Nat} {a b : Int}
theorem x_ne0 (hb : in32 b) (h0 : b ≠ 0) : ¬ Int32.ofInt b = 0 := fun z => h0 ((in32_eq hb ⟨by decide, by decide⟩).mp (z.trans (show (0 : Int32) = Int32.ofInt 0 from rfl)))
theorem x_idiv_any (hk : pm_look (pm_kl m) pc = some (.idiv, len)) (hb : in32 b) (h0 : b ≠ 0) (kk : ∀ t, in32 t → xe X m (pc + 1) ls (vi t :: r) s c k P) : xe X m pc ls (vi b :: vi a :: r) s c k P := fun h hr => by
  obtain ⟨t, ht, e⟩ := in32_any (Int32.ofInt a / Int32.ofInt b)
  exact x_A hk (fun h => by simp only [pm_stepA, if_neg (x_ne0 hb h0)]; rw [e]) (kk t ht) h hr
theorem x_irem_any (hk : pm_look (pm_kl m) pc = some (.irem, len)) (hb : in32 b) (h0 : b ≠ 0) (kk : ∀ t, in32 t → xe X m (pc + 1) ls (vi t :: r) s c k P) : xe X m pc ls (vi b :: vi a :: r) s c k P := fun h hr => by
  obtain ⟨t, ht, e⟩ := in32_any (Int32.ofInt a - Int32.ofInt a / Int32.ofInt b * Int32.ofInt b)
  exact x_A hk (fun h => by simp only [pm_stepA, if_neg (x_ne0 hb h0)]; rw [e]) (kk t ht) h hr
end XQ
theorem am_and_le64 {x y : Int64} (h : 0 ≤ y.toInt) : 0 ≤ (x &&& y).toInt ∧ (x &&& y).toInt ≤ y.toInt := by
  have e : ∀ z : Int64, z.toInt = z.toBitVec.toInt := fun z => rfl
  rw [e y] at h
  rw [e y, e (x &&& y), Int64.toBitVec_and]
  have hy : y.toBitVec.toInt = y.toBitVec.toNat := by
    rw [BitVec.toInt_eq_toNat_cond] at h ⊢
    have := y.toBitVec.isLt
    split
    · rfl
    · next hn => rw [if_neg hn] at h; omega
  have hle : (x.toBitVec &&& y.toBitVec).toNat ≤ y.toBitVec.toNat := by rw [BitVec.toNat_and]; exact Nat.and_le_right
  have hz : (x.toBitVec &&& y.toBitVec).toInt = (x.toBitVec &&& y.toBitVec).toNat := by
    rw [BitVec.toInt_eq_toNat_cond, if_pos]
    rw [BitVec.toInt_eq_toNat_cond] at hy
    have := y.toBitVec.isLt
    split at hy
    · omega
    · omega
  rw [hy, hz]
  omega
section XP
variable {X : pmX} {m pc : Nat} {ls : pmL} {r : List Value} {s : xS} {c k : Nat} {P : xS → Option Value → Prop} {len : Nat} {a n : Int}
theorem x_land_mask (hk : pm_look (pm_kl m) pc = some (.land, len)) (hn : 0 ≤ n ∧ n ≤ 9223372036854775807) (kk : ∀ t, 0 ≤ t ∧ t ≤ n → xe X m (pc + 1) ls (vj t :: r) s c k P) : xe X m pc ls (vj n :: vj a :: r) s c k P := fun h hr => by
  have hm := am_and_le64 (x := Int64.ofInt a) (y := Int64.ofInt n) (by rw [in64_toInt ⟨by omega, by omega⟩]; exact hn.1)
  rw [in64_toInt ⟨by omega, by omega⟩] at hm
  exact x_A hk (fun h => by simp only [pm_stepA, vj, Int64.ofInt_toInt]) (kk _ hm) h hr
theorem x_l2i (hk : pm_look (pm_kl m) pc = some (.l2i, len)) (ha : in32 a) (kk : xe X m (pc + 1) ls (vi a :: r) s c k P) : xe X m pc ls (vj a :: r) s c k P := x_A hk (fun h => by
  simp only [pm_stepA]
  rw [show (Int64.ofInt a).toInt32 = Int32.ofInt a from by rw [← Int32.ofInt_int64ToInt, in64_toInt ⟨by have := ha.1; omega, by have := ha.2; omega⟩]]) kk
end XP
