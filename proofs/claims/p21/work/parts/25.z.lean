/-! longs: exact sums -/
section XZ
variable {X : pmX} {m pc : Nat} {ls : pmL} {r : List Value} {s : xS} {c k : Nat} {P : xS → Option Value → Prop} {len : Nat} {a b : Int}
theorem x_ladd (hk : pm_look (pm_kl m) pc = some (.ladd, len)) (kk : xe X m (pc + 1) ls (vj (a + b) :: r) s c k P) : xe X m pc ls (vj b :: vj a :: r) s c k P := x_A hk (fun h => by simp only [pm_stepA]; rw [← Int64.ofInt_add]) kk
theorem x_lsub (hk : pm_look (pm_kl m) pc = some (.lsub, len)) (kk : xe X m (pc + 1) ls (vj (a - b) :: r) s c k P) : xe X m pc ls (vj b :: vj a :: r) s c k P := x_A hk (fun h => by simp only [pm_stepA]; rw [← Int64.ofInt_sub]) kk
theorem x_lmul (hk : pm_look (pm_kl m) pc = some (.lmul, len)) (kk : xe X m (pc + 1) ls (vj (a * b) :: r) s c k P) : xe X m pc ls (vj b :: vj a :: r) s c k P := x_A hk (fun h => by simp only [pm_stepA]; rw [← Int64.ofInt_mul]) kk
end XZ
