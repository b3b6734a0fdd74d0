/-! longs: exact sums -/
section XZ
variable {X : pmX} {m pc : Nat} {ls : pmL} {r : List Value} {s : xS} {c k : Nat} {P : xS → Option Value → Prop} {len : Nat} {a b : Int}
theorem x_ladd (hk : pm_look (pm_kl m) pc = some (.ladd, len)) (kk : xe X m (pc + 1) ls (vj (a + b) :: r) s c k P) : xe X m pc ls (vj b :: vj a :: r) s c k P := x_A hk (fun h => by simp only [pm_stepA]; rw [← Int64.ofInt_add]) kk
theorem x_lsub (hk : pm_look (pm_kl m) pc = some (.lsub, len)) (kk : xe X m (pc + 1) ls (vj (a - b) :: r) s c k P) : xe X m pc ls (vj b :: vj a :: r) s c k P := x_A hk (fun h => by simp only [pm_stepA]; rw [← Int64.ofInt_sub]) kk
theorem x_lmul (hk : pm_look (pm_kl m) pc = some (.lmul, len)) (kk : xe X m (pc + 1) ls (vj (a * b) :: r) s c k P) : xe X m pc ls (vj b :: vj a :: r) s c k P := x_A hk (fun h => by simp only [pm_stepA]; rw [← Int64.ofInt_mul]) kk
end XZ
/-- bounds by other bounds -/
theorem x_rb {x lo hi a b : Int} (h : lo ≤ x ∧ x ≤ hi) (h1 : decide (a ≤ lo) = true) (h2 : decide (hi ≤ b) = true) : a ≤ x ∧ x ≤ b := ⟨Int.le_trans (of_decide_eq_true h1) h.1, Int.le_trans h.2 (of_decide_eq_true h2)⟩
theorem x_rbe {x t lo hi a b : Int} (e : x = t) (h : lo ≤ t ∧ t ≤ hi) (h1 : decide (a ≤ lo) = true) (h2 : decide (hi ≤ b) = true) : a ≤ x ∧ x ≤ b := by
  rw [e]
  exact x_rb h h1 h2
theorem x_rbl {x lo hi a b : Int} (h : lo ≤ x ∧ x ≤ hi) (h1 : decide (a ≤ lo) = true) (h2 : decide (hi < b) = true) : a ≤ x ∧ x < b := ⟨Int.le_trans (of_decide_eq_true h1) h.1, Int.lt_of_le_of_lt h.2 (of_decide_eq_true h2)⟩
theorem x_rbel {x t lo hi a b : Int} (e : x = t) (h : lo ≤ t ∧ t ≤ hi) (h1 : decide (a ≤ lo) = true) (h2 : decide (hi < b) = true) : a ≤ x ∧ x < b := by
  rw [e]
  exact x_rbl h h1 h2
