section PMI
variable {D : va_G} {cA : Nat → ClassId} {b : Nat} {sa : Nat → Nat} {l : Launch}
/-- what a call is -/
def pm_isCall (m : Nat) (i : Instr) (st : List Value) (h : pmH) (c k : Nat) (y : Nat) (as rest : List Value) : Prop :=
  ∃ j kind n : Nat, pm_look (pm_calls (pm_oc m)) j = some (y, kind, n) ∧ ¬ kind = 3 ∧ (pm_fr y + 1 ≤ pm_fr m ∧ 8 + (pm_maxL y + 11) + pm_lo y ≤ pm_lo m ∧ c + pm_mc y ≤ pm_mc m ∧ k + pm_ms y ≤ pm_ms m) ∧ (rest.map fun v => v.category).sum ≤ 8 ∧ (as.map fun v => v.category).sum ≤ pm_maxL y ∧ pm_oc y < pm_lawc ∧
    ((i = .invokestatic j ∧ kind % 10 = 1 ∧ as.length = n ∧ st = as.reverse ++ rest) ∨
     (∃ (q N : Nat) (f : Nat → Value) (as' : List Value), ((i = .invokevirtual j ∧ kind % 10 = 0) ∨ (i = .invokespecial j ∧ kind % 10 = 2)) ∧ as = .ref q :: as' ∧ as'.length = n ∧ st = as'.reverse ++ .ref q :: rest ∧ h[q]? = some (pm_oc y, N, f) ∧ pm_oc y < 12) ∨
     (∃ (q : Nat) (as' : List Value), i = .invokevirtual j ∧ kind % 10 = 0 ∧ as = .ref q :: as' ∧ as'.length = n ∧ st = as'.reverse ++ .ref q :: rest ∧ 2001 ≤ q ∧ q < 2020 ∧ pm_oc y = pm_strc))
theorem pm_inv_ok {m : Nat} {i : Instr} {st : List Value} {h : pmH} {c k : Nat} {y : Nat} {as rest : List Value} (hs : pm_inv m i st h c k = some (some y, as, rest)) : pm_isCall m i st h c k y as rest := by
  unfold pm_inv at hs
  dsimp only at hs
  split at hs
  · cases hs
  · next j op hj =>
    have hop : (i = .invokevirtual j ∧ op = 0) ∨ (i = .invokestatic j ∧ op = 1) ∨ (i = .invokespecial j ∧ op = 2) := by
      split at hj
      · cases hj; exact Or.inl ⟨rfl, rfl⟩
      · cases hj; exact Or.inr (Or.inl ⟨rfl, rfl⟩)
      · cases hj; exact Or.inr (Or.inr ⟨rfl, rfl⟩)
      · cases hj
    split at hs
    · cases hs
    · next y0 kind n hlk =>
      split at hs
      · split at hs
        · split at hs
          · split at hs
            · cases hs
            · cases hs
          · cases hs
        · cases hs
      · next hk3 =>
        split at hs
        · next hc =>
          obtain ⟨h1, h2, h3, h4, h5, h6⟩ := hc
          have hlen : (st.take n).reverse.length = n := by rw [List.length_reverse, List.length_take]; omega
          have hst : st = ((st.take n).reverse).reverse ++ st.drop n := by rw [List.reverse_reverse, List.take_append_drop]
          try dsimp only at hs
          split at hs
          · next hop1 =>
            split at hs
            · next hr =>
              cases hs
              refine ⟨j, kind, n, hlk, hk3, ⟨h3, h4, h5, h6⟩, hr.1, hr.2.1, hr.2.2, Or.inl ⟨?_, by omega, hlen, hst⟩⟩
              rcases hop with ⟨_, ho⟩ | ⟨hi, _⟩ | ⟨_, ho⟩
              · omega
              · exact hi
              · omega
            · cases hs
          · next hop1 =>
            split at hs
            · next q r hdr =>
              split at hs
              · next h2001 =>
                split at hs
                · next hr =>
                  cases hs
                  obtain ⟨r1, r2, r3, r4, r5⟩ := hr
                  refine ⟨j, kind, n, hlk, hk3, ⟨h3, h4, h5, h6⟩, r4, by rw [List.map_cons, List.sum_cons]; exact r5, by rw [r3]; decide, Or.inr (Or.inr ⟨q, (st.take n).reverse, ?_, by omega, rfl, hlen, by rw [← hdr]; exact hst, h2001, r1, r3⟩)⟩
                  rcases hop with ⟨hi, ho⟩ | ⟨_, ho⟩ | ⟨_, ho⟩
                  · exact hi
                  · omega
                  · omega
                · cases hs
              · split at hs
                · next t N f hq =>
                  split at hs
                  · next hr =>
                    cases hs
                    obtain ⟨rfl, r2, r3, r4⟩ := hr
                    refine ⟨j, kind, n, hlk, hk3, ⟨h3, h4, h5, h6⟩, r3, by rw [List.map_cons, List.sum_cons]; exact r4, Nat.lt_of_lt_of_le r2 (by decide), Or.inr (Or.inl ⟨q, N, f, (st.take n).reverse, ?_, rfl, hlen, by rw [← hdr]; exact hst, hq, r2⟩)⟩
                    rcases hop with ⟨hi, ho⟩ | ⟨_, ho⟩ | ⟨hi, ho⟩
                    · exact Or.inl ⟨hi, by omega⟩
                    · exact absurd ho hop1
                    · exact Or.inr ⟨hi, by omega⟩
                  · cases hs
                · cases hs
            · cases hs
        · cases hs
theorem pm_inv_obj {m : Nat} {i : Instr} {st : List Value} {h : pmH} {c k : Nat} {as rest : List Value} (hs : pm_inv m i st h c k = some (none, as, rest)) :
    ∃ (j y n q : Nat), i = .invokespecial j ∧ pm_look (pm_calls (pm_oc m)) j = some (y, 3, n) ∧ st = .ref q :: rest ∧ 1 ≤ pm_fr m ∧ (rest.map fun v => v.category).sum + 12 ≤ pm_lo m := by
  unfold pm_inv at hs
  dsimp only at hs
  split at hs
  · cases hs
  · next j op hj =>
    split at hs
    · cases hs
    · next y kind n hlk =>
      split at hs
      · next hk3 =>
        split at hs
        · next hop =>
          split at hs
          · next q r =>
            split at hs
            · next hr =>
              cases hs
              subst hk3
              refine ⟨j, y, n, q, ?_, hlk, rfl, hop.2, hr⟩
              split at hj
              · cases hj; exact absurd hop.1 (by decide)
              · cases hj; exact absurd hop.1 (by decide)
              · cases hj; rfl
              · cases hj
            · cases hs
          · cases hs
        · cases hs
      · split at hs
        · try dsimp only at hs
          split at hs
          · split at hs <;> cases hs
          · split at hs
            · split at hs
              · split at hs <;> cases hs
              · split at hs
                · split at hs <;> cases hs
                · cases hs
            · cases hs
        · cases hs
variable {p : Program} {e : Env} {R : Room} {s : State} {mi : MethodId} {args : Array Value} {below : List Frame} {meth : Method} {co : Code} {H : Heap} {locs : List Loc} {Q : State → Prop} {ls : Array Slot} {pc : Nat}
/-- behind a call -/
theorem pm_callG {mc ms c k : Nat} {st0 rest : List Value} {a : Array Value} {h1 : pmH} {r1 : Option Value} {H0 : Heap} (hr : va_Run p l e R s mi args below meth co H locs c k mc ms (F0 mi pc ls st0) (pm_cs b sa rest) (pm_Q D cA b sa h1 r1 a) (fun q => b ≤ q)) (hSv : pm_Sv b H0 H locs)
    (kk : ∀ (H1 : Heap) (locs1 : List Loc), pm_Wd D cA b sa h1 H1 → pm_Sv b H0 H1 locs1 → W p l e R s mi args below meth co H1 locs1 (c + mc) (k + ms) Q (F0 mi (pc + 3) ls (pm_cs b sa (r1.toList ++ rest)))) : W p l e R s mi args below meth co H locs c k Q (F0 mi pc ls st0) := by
  intro T hT Xs
  obtain ⟨v, st₀, t, T', L, h0, X', hL, e1, e2, ⟨hv, hw, hf⟩, st⟩ := hr T hT Xs
  cases hv
  rw [h0] at hf
  obtain ⟨t2, a1, b1⟩ := kk T'.heap (locs ++ L) (by rw [e1]; exact hw) ⟨fun q hq => by rw [e1, hf q hq]; exact hSv.1 q hq, fun q hq => by
      rcases List.mem_append.mp hq with h | h
      · exact hSv.2 q h
      · exact hL q h⟩ T' rfl X'
  refine ⟨t2, st t2 ?_, b1⟩
  have hst : pm_cs b sa (r1.toList ++ rest) = (r1.map (pm_cv b sa)).toList ++ pm_cs b sa rest := by cases r1 <;> rfl
  rw [hst] at a1
  exact a1
end PMI
