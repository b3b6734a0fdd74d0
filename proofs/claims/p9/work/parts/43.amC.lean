/-! THE BOX MACHINE IS SOUND: the heap -/
def am_C (ρ : Nat → Int32) (a : aC) (x : pmC) : Prop := x.1 = a.1 ∧ x.2.1 = a.2.1 ∧ ∀ i, i < a.2.1 → (am_rd a.2.2.1 a.2.2.2 i).1 = 9 ∨ am_v ρ (am_rd a.2.2.1 a.2.2.2 i) (x.2.2 i)
def am_H (ρ : Nat → Int32) (a : aH) (h : pmH) : Prop := h.length = a.1 ∧ ∀ q x, pm_look a.2 q = some x → ∃ y, h[q]? = some y ∧ am_C ρ x y
def am_X (ρ : Nat → Int32) (AX : Option (Nat × List aV)) (X : pmX) : Prop := ∀ x, AX = some x → ∃ f, X = some (x.1, f) ∧ ∀ i a, x.2[i]? = some a → am_v ρ a (.int (f i))
theorem am_set_look {q q' : Nat} {c : aC} : ∀ {l : List (Nat × aC)}, pm_look (am_set l q c) q' = if q = q' then some c else pm_look l q'
  | [] => rfl
  | (j, a) :: r => by
    unfold am_set
    cases hj : Nat.beq j q
    · show pm_look ((j, a) :: am_set r q c) q' = _
      unfold pm_look
      have hne : j ≠ q := fun z => by rw [z, Nat.beq_refl] at hj; cases hj
      split
      · next e => rw [if_neg (fun z => hne (by rw [e, z]))]
      · exact am_set_look
    · show pm_look ((q, c) :: r) q' = _
      have hj := am_bq hj
      subst hj
      show (if j = q' then some c else pm_look r q') = if j = q' then some c else (if j = q' then some a else pm_look r q')
      split <;> rfl
theorem am_look_app {α : Type} {q : Nat} {x : α} : ∀ {l l2 : List (Nat × α)}, pm_look (l ++ l2) q = some x → pm_look l q = some x ∨ pm_look l2 q = some x
  | [], _, h => Or.inr h
  | (j, a) :: r, l2, h => by
    have h : (if j = q then some a else pm_look (r ++ l2) q) = some x := h
    show (if j = q then some a else pm_look r q) = some x ∨ _
    split at h
    · next e => rw [if_pos e]; exact Or.inl h
    · next e => rw [if_neg e]; exact am_look_app h
section AMC
variable {ρ : Nat → Int32}
theorem am_H.set {ah : aH} {h : pmH} {q : Nat} {a a' : aC} {x' : pmC} (hH : am_H ρ ah h) (hq : pm_look ah.2 q = some a) (hc : am_C ρ a' x') : am_H ρ (ah.1, am_set ah.2 q a') (h.set q x') := by
  refine ⟨by rw [List.length_set]; exact hH.1, fun q2 x hx => ?_⟩
  dsimp only at hx
  rw [am_set_look] at hx
  obtain ⟨y, hy, -⟩ := hH.2 _ _ hq
  split at hx
  · next e => subst e; cases hx; exact ⟨x', List.getElem?_set_self (List.getElem?_eq_some_iff.mp hy).1, hc⟩
  · next e =>
    obtain ⟨z, hz, hzc⟩ := hH.2 _ _ hx
    exact ⟨z, by rw [List.getElem?_set_ne e]; exact hz, hzc⟩
theorem am_H.lt {ah : aH} {h : pmH} {q : Nat} {a : aC} (hH : am_H ρ ah h) (hq : pm_look ah.2 q = some a) : q < ah.1 := by
  obtain ⟨y, hy, -⟩ := hH.2 _ _ hq
  have := (List.getElem?_eq_some_iff.mp hy).1
  rw [hH.1] at this
  exact this
theorem am_H.new {ah : aH} {h : pmH} {a : aC} {x : pmC} (hH : am_H ρ ah h) (hc : am_C ρ a x) : am_H ρ (ah.1 + 1, (ah.1, a) :: ah.2) (h ++ [x]) := by
  refine ⟨by rw [List.length_append, hH.1]; rfl, fun q y hy => ?_⟩
  replace hy : (if ah.1 = q then some a else pm_look ah.2 q) = some y := hy
  split at hy
  · next e => subst e; cases hy; exact ⟨x, by rw [← hH.1, List.getElem?_append_right (Nat.le_refl _), Nat.sub_self]; rfl, hc⟩
  · obtain ⟨z, hz, hzc⟩ := hH.2 _ _ hy
    exact ⟨z, by rw [List.getElem?_append_left (List.getElem?_eq_some_iff.mp hz).1]; exact hz, hzc⟩
theorem am_rows_look {t k b q : Nat} {d : aV} {y : aC} : ∀ {n : Nat}, pm_look (am_rows t k d b n) q = some y → ∃ j, j < n ∧ q = b + j ∧ y = (t, k, d, [])
  | 0, h => by simp [am_rows, pm_look] at h
  | n + 1, h => by
    have h : (if b + n = q then some ((t, k, d, []) : aC) else pm_look (am_rows t k d b n) q) = some y := h
    split at h
    · next e => cases h; exact ⟨n, Nat.lt_succ_self n, e.symm, rfl⟩
    · obtain ⟨j, h1, h2, h3⟩ := am_rows_look h
      exact ⟨j, Nat.lt_succ_of_lt h1, h2, h3⟩
theorem am_H.mna {ah : aH} {h : pmH} {t k n : Nat} {d : aV} {v : Value} (hH : am_H ρ ah h) (hd : am_v ρ d v) (h4 : d.1 ≠ 4) : am_H ρ (ah.1 + 1 + n, (ah.1, (t + 3, n, (4, (ah.1 + 1 : Nat), 0, 0, 0), [])) :: (ah.2 ++ am_rows t k d (ah.1 + 1) n)) (h ++ (pm_rows (t + 3) n (h.length + 1) :: List.replicate n (pm_mk t k v))) := by
  refine ⟨by rw [List.length_append, List.length_cons, List.length_replicate, hH.1]; dsimp only; omega, fun q y hy => ?_⟩
  replace hy : (if ah.1 = q then some ((t + 3, n, (4, ((ah.1 + 1 : Nat) : Int), 0, 0, 0), []) : aC) else pm_look (ah.2 ++ am_rows t k d (ah.1 + 1) n) q) = some y := hy
  split at hy
  · next e =>
    subst e
    cases hy
    refine ⟨pm_rows (t + 3) n (h.length + 1), by rw [← hH.1, List.getElem?_append_right (Nat.le_refl _), Nat.sub_self]; rfl, rfl, rfl, fun i hi => Or.inr ?_⟩
    refine .ofR (n := h.length + 1 + i) rfl ?_
    show ((ah.1 + 1 : Nat) : Int) + (i : Nat) = ((h.length + 1 + i : Nat) : Int)
    rw [hH.1]
    omega
  · rcases am_look_app hy with hy | hy
    · obtain ⟨z, hz, hzc⟩ := hH.2 _ _ hy
      exact ⟨z, by rw [List.getElem?_append_left (List.getElem?_eq_some_iff.mp hz).1]; exact hz, hzc⟩
    · obtain ⟨j, hj, rfl, rfl⟩ := am_rows_look hy
      refine ⟨pm_mk t k v, ?_, rfl, rfl, fun i _ => Or.inr ?_⟩
      · rw [List.getElem?_append_right (by rw [hH.1]; omega), hH.1, show ah.1 + 1 + j - ah.1 = j + 1 by omega, List.getElem?_cons_succ, List.getElem?_replicate, if_pos hj]
      · show am_v ρ (cond (Nat.beq d.1 4) _ d) v
        have : Nat.beq d.1 4 = false := by
          cases hb : Nat.beq d.1 4
          · rfl
          · exact absurd (am_bq hb) h4
        rw [this]
        exact hd
theorem am_fresh_look {ci i : Nat} : ∀ {n : Nat}, i < n → pm_look (am_fresh ci n) i = some (am_dv (pm_ty ci i))
  | 0, h => absurd h (Nat.not_lt_zero _)
  | n + 1, h => by
    show (if n = i then some (am_dv (pm_ty ci n)) else pm_look (am_fresh ci n) i) = _
    split
    · next e => rw [e]
    · exact am_fresh_look (by omega)
theorem am_dv_ok (ty : FieldType) : (am_dv ty).1 = 9 ∨ am_v ρ (am_dv ty) (defaultValue ty) := by
  cases ty
  case int => exact Or.inr (.ofI rfl (am_c_ok 0))
  case boolean => exact Or.inr (.ofI rfl (am_c_ok 0))
  case long => exact Or.inr (.ofJ rfl (am_j_ok 0))
  case object => exact Or.inr (Or.inr (Or.inr (Or.inr ⟨rfl, rfl⟩)))
  case array => exact Or.inr (Or.inr (Or.inr (Or.inr ⟨rfl, rfl⟩)))
  all_goals exact Or.inl rfl
theorem am_obj_ok (ci n : Nat) : am_C ρ (ci, n, (9, 0, 0, 0, 0), am_fresh ci n) (pm_obj ci n) := by
  refine ⟨rfl, rfl, fun i hi => ?_⟩
  show (am_rd (9, 0, 0, 0, 0) (am_fresh ci n) i).1 = 9 ∨ am_v ρ (am_rd (9, 0, 0, 0, 0) (am_fresh ci n) i) (defaultValue (pm_ty ci i))
  unfold am_rd
  rw [am_fresh_look hi]
  exact am_dv_ok _
theorem am_mk_ok {t n : Nat} {d : aV} {v : Value} (hd : am_v ρ d v) (h4 : d.1 ≠ 4) : am_C ρ (t, n, d, []) (pm_mk t n v) := by
  refine ⟨rfl, rfl, fun i hi => Or.inr ?_⟩
  show am_v ρ (cond (Nat.beq d.1 4) _ d) v
  have : Nat.beq d.1 4 = false := by
    cases hb : Nat.beq d.1 4
    · rfl
    · exact absurd (am_bq hb) h4
  rw [this]
  exact hd
/-- a place of a cell, written -/
theorem am_C.upd {t n : Nat} {d : aV} {ov : List (Nat × aV)} {x : pmC} {i : Nat} {a : aV} {v : Value} (h : am_C ρ (t, n, d, ov) x) (hv : am_v ρ a v) : am_C ρ (t, n, d, (i, a) :: ov) (x.1, x.2.1, pm_upd x.2.2 i v) := by
  refine ⟨h.1, h.2.1, fun j hj => ?_⟩
  have hr : am_rd d ((i, a) :: ov) j = if i = j then a else am_rd d ov j := by
    show (match (if i = j then some a else pm_look ov j) with | some a => a | none => _) = _
    split <;> (split <;> rename_i h1 h2 <;> first | (rw [if_pos h2] at h1; cases h1; rfl) | (rw [if_neg h2] at h1; unfold am_rd; rw [h1]) | (rw [if_pos h2] at h1; cases h1))
  show (am_rd d ((i, a) :: ov) j).1 = 9 ∨ am_v ρ (am_rd d ((i, a) :: ov) j) (if j = i then v else x.2.2 j)
  rw [hr]
  by_cases e : i = j
  · rw [if_pos e, if_pos e.symm]; exact Or.inr hv
  · rw [if_neg e, if_neg (fun z => e z.symm)]; exact h.2.2 j hj
theorem am_tn {x : Int32} : x.toNatClampNeg = x.toInt.toNat := rfl
theorem am_ix_ok {a : aV} {v : Value} {n i : Nat} (h : am_ix a n = some i) (hv : am_v ρ a v) : ∃ x, v = .int x ∧ pm_ix x n = true ∧ x.toNatClampNeg = i ∧ i < n ∧ 0 ≤ x := by
  unfold am_ix at h
  obtain ⟨h1, h2⟩ := am_cond h
  rw [Bool.and_eq_true, Bool.and_eq_true, Bool.and_eq_true, am_le_iff] at h1
  obtain ⟨⟨⟨h3, h4⟩, h5⟩, h6⟩ := h1
  obtain ⟨x, rfl, hx⟩ := hv.int (am_bq h3)
  have h4 := am_isc_iff.mp h4
  have h6 := am_blt h6
  cases h2
  have e : x.toInt = a.2.1 := by have := hx.1; have := hx.2.1; omega
  have h0 : 0 ≤ x := by rw [Int32.le_iff_toInt_le]; show 0 ≤ x.toInt; omega
  refine ⟨x, rfl, ?_, ?_, h6, h0⟩
  · unfold pm_ix
    rw [am_tn, e, Bool.and_eq_true]
    exact ⟨decide_eq_true h0, decide_eq_true h6⟩
  · rw [am_tn, e]
theorem am_okv_ok {ty : FieldType} {a : aV} {v : Value} (h : am_okv ty a = true) (hv : am_v ρ a v) : pm_okv ty v = true := by
  unfold pm_okv
  cases ty <;> simp only [am_okv, Bool.false_eq_true] at h
  case int => obtain ⟨x, rfl, _⟩ := hv.int (am_bq h); rw [decide_eq_true (show narrow .int (.int x) = .int x from rfl)]; rfl
  case long => obtain ⟨x, rfl, _⟩ := hv.long (am_bq h); rw [decide_eq_true (show narrow .long (.long x) = .long x from rfl)]; rfl
  case boolean =>
    rw [Bool.and_eq_true, Bool.and_eq_true, am_le_iff, am_le_iff] at h
    obtain ⟨x, rfl, hx⟩ := hv.int (am_bq h.1.1)
    have h1 := hx.1; have h2 := hx.2.1
    have : x = 0 ∨ x = 1 := by
      rw [← Int32.toInt_inj, ← Int32.toInt_inj]
      have e0 : (0 : Int32).toInt = 0 := rfl
      have e1 : (1 : Int32).toInt = 1 := rfl
      omega
    rcases this with rfl | rfl <;> decide
  case object => obtain ⟨x, rfl, _⟩ := hv.ref (am_bq h); rw [decide_eq_true (show narrow (.object _) (.ref x) = .ref x from rfl)]; rfl
  case array => obtain ⟨x, rfl, _⟩ := hv.ref (am_bq h); rw [decide_eq_true (show narrow (.array _) (.ref x) = .ref x from rfl)]; rfl
end AMC
