/-! TOTAL CORRECTNESS OVER THE PURE MACHINE: 'it ends, and P holds' -/
theorem pm_mono : ∀ (n : Nat) {X : pmX} {m pc : Nat} {ls : pmL} {st : List Value} {h : pmH} {c k : Nat} {r : pmH × Option Value}, pm_exec X n m pc ls st h c k = some r → pm_exec X (n + 1) m pc ls st h c k = some r := by
  intro n
  induction n with
  | zero =>
    intro X m pc ls st h c k r hs
    cases hs
  | succ n ih =>
    intro X m pc ls st h c k r hs
    rw [pm_exec] at hs ⊢
    cases h1 : pm_look (pm_kl m) pc with
    | none => rw [h1] at hs; cases hs
    | some il =>
      obtain ⟨i, len⟩ := il
      simp only [h1] at hs ⊢
      cases h2 : pm_end m i st with
      | some v => simp only [h2] at hs ⊢; exact hs
      | none =>
        simp only [h2] at hs ⊢
        cases h3 : pm_inv m i st h c k with
        | none =>
          simp only [h3] at hs ⊢
          cases h4 : pm_step X m i pc ls st h c k with
          | none => rw [h4] at hs; cases hs
          | some s' =>
            obtain ⟨pc', ls', st', h', c', k'⟩ := s'
            simp only [h4] at hs ⊢
            exact ih hs
        | some q =>
          obtain ⟨o, as, rest⟩ := q
          cases o with
          | none => simp only [h3] at hs ⊢; exact ih hs
          | some y =>
            simp only [h3] at hs ⊢
            cases h5 : pm_exec none n y 0 (lv_args 0 as) [] h 0 0 with
            | none => rw [h5] at hs; cases hs
            | some w =>
              obtain ⟨h', r'⟩ := w
              rw [h5] at hs
              rw [ih h5]
              exact ih hs
theorem pm_mono_le {n n' : Nat} {X : pmX} {m pc : Nat} {ls : pmL} {st : List Value} {h : pmH} {c k : Nat} {r : pmH × Option Value} (hs : pm_exec X n m pc ls st h c k = some r) (hn : n ≤ n') : pm_exec X n' m pc ls st h c k = some r := by
  obtain ⟨d, rfl⟩ : ∃ d, n' = n + d := ⟨n' - n, by omega⟩
  clear hn
  induction d with
  | zero => exact hs
  | succ d ih => exact pm_mono _ ih
def ex (X : pmX) (m pc : Nat) (ls : pmL) (st : List Value) (h : pmH) (c k : Nat) (P : pmH → Option Value → Prop) : Prop := ∃ n h' r, pm_exec X n m pc ls st h c k = some (h', r) ∧ P h' r
section EX
variable {X : pmX} {m pc : Nat} {ls : pmL} {st : List Value} {h : pmH} {c k : Nat} {P : pmH → Option Value → Prop} {i : Instr} {len : Nat}
theorem ex_step {pc' : Nat} {ls' : pmL} {st' : List Value} {h' : pmH} {c' k' : Nat} (hk : pm_look (pm_kl m) pc = some (i, len)) (he : pm_end m i st = none) (hi : pm_inv m i st h c k = none) (hs : pm_step X m i pc ls st h c k = some (pc', ls', st', h', c', k')) (kk : ex X m pc' ls' st' h' c' k' P) : ex X m pc ls st h c k P := by
  obtain ⟨n, h1, r, g1, g2⟩ := kk
  refine ⟨n + 1, h1, r, ?_, g2⟩
  rw [pm_exec]
  simp only [hk, he, hi, hs]
  exact g1
theorem ex_ret {r : Option Value} (hk : pm_look (pm_kl m) pc = some (i, len)) (he : pm_end m i st = some r) (hP : P h r) : ex X m pc ls st h c k P := by
  refine ⟨1, h, r, ?_, hP⟩
  rw [pm_exec]
  simp only [hk, he]
theorem ex_call {y : Nat} {as rest : List Value} (hk : pm_look (pm_kl m) pc = some (i, len)) (he : pm_end m i st = none) (hi : pm_inv m i st h c k = some (some y, as, rest)) (kk : ex none y 0 (lv_args 0 as) [] h 0 0 (fun h1 r1 => ex X m (pc + 3) ls (r1.toList ++ rest) h1 (c + pm_mc y) (k + pm_ms y) P)) : ex X m pc ls st h c k P := by
  obtain ⟨n1, h1, r1, g1, n2, h2, r2, g2, g3⟩ := kk
  refine ⟨max n1 n2 + 1, h2, r2, ?_, g3⟩
  rw [pm_exec]
  simp only [hk, he, hi]
  rw [pm_mono_le g1 (Nat.le_max_left n1 n2)]
  exact pm_mono_le g2 (Nat.le_max_right n1 n2)
theorem ex_mono {Q : pmH → Option Value → Prop} (hPQ : ∀ h r, Q h r → P h r) (hx : ex X m pc ls st h c k Q) : ex X m pc ls st h c k P := by
  obtain ⟨n, h1, r, g1, g2⟩ := hx
  exact ⟨n, h1, r, g1, hPQ _ _ g2⟩
end EX
/-! a step without heap is no end and no call -/
theorem pm_A_end {m : Nat} {i : Instr} {pc : Nat} {ls : pmL} {st : List Value} {h : pmH} {c k : Nat} {r : pmS} (hs : pm_stepA m i pc ls st h c k = some r) : pm_end m i st = none := by
  cases i <;> first | rfl | exact absurd hs (by simp [pm_stepA])
theorem pm_A_inv {m : Nat} {i : Instr} {pc : Nat} {ls : pmL} {st : List Value} {h : pmH} {c k : Nat} {r : pmS} (hs : pm_stepA m i pc ls st h c k = some r) : pm_inv m i st h c k = none := by
  cases i <;> first | rfl | exact absurd hs (by simp [pm_stepA])
/-! THE STATE BEHIND THE CONSTRUCTORS: cells of fixed shape; what is in a place (q, i) as a whole number -/
abbrev xS : Type := Nat → Nat → Int
abbrev vi (t : Int) : Value := .int (Int32.ofInt t)
abbrev vj (t : Int) : Value := .long (Int64.ofInt t)
def x_val (kd : Nat) (z : Int) : Value := match kd with
  | 0 => vi z
  | 1 => vj z
  | r + 2 => .ref r
