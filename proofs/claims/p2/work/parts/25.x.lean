section XO
variable {X : pmX} {m pc : Nat} {ls : pmL} {r : List Value} {s : xS} {c k : Nat} {P : xS → Option Value → Prop} {len : Nat} {a : Int}
theorem x_tabD {d lo hi : Int} {offs : Array Int} {t0 : Nat} (hk : pm_look (pm_kl m) pc = some (.tableswitch d lo hi offs, len)) (ha : in32 a) (ho : ¬ (lo ≤ a ∧ a ≤ hi)) (h0 : pm_tgt pc d = some t0) (kk : xe X m t0 ls r s c k P) : xe X m pc ls (vi a :: r) s c k P := by
  refine x_B hk rfl (fun _ => rfl) (fun _ => rfl) (fun h _ => ?_) kk
  simp only [pm_stepB, in32_toInt ha]
  rw [if_pos (by omega)]
  simp only [h0]
end XO
theorem FL.nil {s s' : xS} (h : FL [] s s') : s' = s := by
  funext q i
  exact h q i List.not_mem_nil
