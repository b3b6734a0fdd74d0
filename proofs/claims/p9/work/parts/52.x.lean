/-! the script, read by the law -/
section XSC
variable {N : Nat} {xs : Nat → Int32} {m pc : Nat} {ls : pmL} {r : List Value} {s : xS} {c k : Nat} {P : xS → Option Value → Prop} {len : Nat} {a : Int}
theorem x_slen (hk : pm_look (pm_kl m) pc = some (.arraylength, len)) (kk : xe (some (N, xs)) m (pc + 1) ls (vi (N : Int) :: r) s c k P) : xe (some (N, xs)) m pc ls (.ref 2000 :: r) s c k P := by
  refine x_B hk rfl (fun _ => rfl) (fun _ => rfl) (fun h hr => ?_) kk
  simp only [pm_stepB]
  rw [if_pos trivial]
  rfl
theorem x_scr (hk : pm_look (pm_kl m) pc = some (.iaload, len)) (hN : N ≤ 3584) (ha : 0 ≤ a ∧ a < (N : Int)) (kk : ∀ z, in32 z → z = (xs a.toNat).toInt → xe (some (N, xs)) m (pc + 1) ls (vi z :: r) s c k P) : xe (some (N, xs)) m pc ls (vi a :: .ref 2000 :: r) s c k P := by
  obtain ⟨i1, i2⟩ := x_ix ha (Nat.le_trans hN (by decide))
  refine x_B hk rfl (fun _ => rfl) (fun _ => rfl) (fun h hr => ?_) (kk (xs a.toNat).toInt ⟨(xs a.toNat).le_toInt, by have := (xs a.toNat).toInt_lt; omega⟩ rfl)
  simp only [pm_stepB]
  rw [if_pos trivial, i2, if_pos i1]
  show _ = some (_, _, Value.int (Int32.ofInt (xs a.toNat).toInt) :: _, _, _, _)
  rw [Int32.ofInt_toInt]
end XSC
