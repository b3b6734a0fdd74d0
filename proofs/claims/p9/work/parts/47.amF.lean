/-! THE BOX MACHINE IS SOUND: what it says of a run -/
/-- what a run of the pure machine comes to, as the box machine's answer says -/
def am_O (ρ : Nat → Int32) (X : pmX) (m stop : Nat) (res : aR) (o : Nat → Option (pmH × Option Value)) : Prop :=
  (res.1 = true ∧ ∃ h' r, (∀ d, o d = some (h', r)) ∧ am_H ρ res.2.2.2.1 h' ∧ am_sk ρ res.2.2.1 r.toList) ∨
  (res.1 = false ∧ ∃ ls' st' h', (∀ d, o d = pm_exec X (res.2.2.2.2.2.2 + d) m stop ls' st' h' res.2.2.2.2.1 res.2.2.2.2.2.1) ∧ am_ls ρ res.2.1 ls' ∧ am_sk ρ res.2.2.1 st' ∧ am_H ρ res.2.2.2.1 h')
def am_Sn (ρ : Nat → Int32) (F : aF) (n : Nat) : Prop :=
  ∀ (AX : Option (Nat × List aV)) (X : pmX) (stop m : Nat) (e : Nat × Instr × Nat) (rest : List (Nat × Instr × Nat)) (als : aL) (ast : List aV) (ah : aH) (ls : pmL) (st : List Value) (h : pmH) (c k : Nat) (res : aR),
    am_exec F n AX stop m (pm_oc m) (pm_maxL m) (e :: rest) als ast ah c k = some res → (∃ pre, pm_kl m = pre ++ e :: rest) → am_X ρ AX X → am_ls ρ als ls → am_sk ρ ast st → am_H ρ ah h →
    am_O ρ X m stop res (fun d => pm_exec X (n + d) m e.1 ls st h c k)
section AMG
variable {ρ : Nat → Int32} {F : aF}
/-- the next step, wherever it lies -/
theorem am_go {n : Nat} (ih : am_Sn ρ F n) {AX : Option (Nat × List aV)} {X : pmX} {stop m pc' : Nat} {e : Nat × Instr × Nat} {rest : List (Nat × Instr × Nat)} {als : aL} {ast : List aV} {ah : aH} {ls : pmL} {st : List Value} {h : pmH} {c k : Nat} {res : aR}
    (hx : am_exec F n AX stop m (pm_oc m) (pm_maxL m) (am_next (pm_kl m) rest pc') als ast ah c k = some res) (hk : ∃ pre, pm_kl m = pre ++ e :: rest) (hX : am_X ρ AX X) (hl : am_ls ρ als ls) (hs : am_sk ρ ast st) (hH : am_H ρ ah h) : am_O ρ X m stop res (fun d => pm_exec X (n + d) m pc' ls st h c k) := by
  cases hn : am_next (pm_kl m) rest pc' with
  | nil =>
    rw [hn] at hx
    cases n <;> cases hx
  | cons e' r' =>
    rw [hn] at hx
    obtain ⟨h1, h2⟩ := am_next_ok hk hn
    have := ih AX X stop m e' r' als ast ah ls st h c k res hx h2 hX hl hs hH
    rwa [h1] at this
theorem am_O_cg {X : pmX} {m stop : Nat} {res : aR} {o o' : Nat → Option (pmH × Option Value)} (h : am_O ρ X m stop res o) (e : ∀ d, o' d = o d) : am_O ρ X m stop res o' := by
  rw [show o' = o from funext e]
  exact h
theorem am_Xn : am_X ρ none none := fun x h => by cases h
theorem am_ok (hF : am_Fo ρ F) : ∀ n, am_Sn ρ F n := by
  intro n
  induction n with
  | zero =>
    intro AX X stop m e rest als ast ah ls st h c k res hx
    cases hx
  | succ n ih =>
    intro AX X stop m e rest als ast ah ls st h c k res hx hk hX hl hs hH
    obtain ⟨pc, i, len⟩ := e
    have hlk : pm_look (pm_kl m) pc = some (i, len) := by
      obtain ⟨pre, hp⟩ := hk
      have := am_sA m
      rw [hp] at this ⊢
      exact am_srt_look this
    unfold am_exec at hx
    dsimp only at hx
    cases hstop : Nat.beq pc stop
    · rw [hstop] at hx
      simp only [cond_false] at hx
      cases hret : am_isret i
      · rw [hret] at hx
        simp only [cond_false] at hx
        split at hx
        · next q hop =>
          split at hx
          · next y as r hinv =>
            obtain ⟨as', rest', h1, h2, h3⟩ := am_inv_ok hs hH hinv
            split at hx
            · next l0 a h0 q0 hcall =>
              cases hky : pm_kl y with
              | nil =>
                rw [hky] at hcall
                cases n <;> cases hcall
              | cons e2 r2 =>
                have he2 : e2.1 = 0 := by
                  have := am_z y
                  rw [hky] at this
                  exact this
                rw [hky] at hcall
                have hc := ih none none 99999 y e2 r2 (am_args 0 as) [] ah (lv_args 0 as') [] h 0 0 _ hcall ⟨[], hky⟩ am_Xn (am_args_ok 0 h2) trivial hH
                rw [he2] at hc
                rcases hc with ⟨_, h', r', g1, g2, g3⟩ | ⟨g, _⟩
                · have := am_go (e := (pc, i, len)) ih hx hk hX hl (g3.app h3) g2
                  refine am_O_cg this (fun d => ?_)
                  rw [show n + 1 + d = (n + d) + 1 by omega, pm_exec]
                  have g1 := g1 d
                  simp only [hlk, am_noend hret, h1, g1]
                · cases g
            · cases hx
          · next q1 r hinv =>
            obtain ⟨as', rest', h1, h2, h3⟩ := am_inv_ok hs hH hinv
            have := am_go (e := (pc, i, len)) ih hx hk hX hl h3 hH
            refine am_O_cg this (fun d => ?_)
            rw [show n + 1 + d = (n + d) + 1 by omega, pm_exec]
            simp only [hlk, am_noend hret, h1]
          · cases hx
        · next hop =>
          split at hx
          · next pc' ls' st' hA =>
            obtain ⟨ls2, st2, g1, g2, g3⟩ := am_stA (m := m) (hh := h) (c := c) (k := k) hF hl hs hA
            have := am_go (e := (pc, i, len)) ih hx hk hX g2 g3 hH
            refine am_O_cg this (fun d => ?_)
            rw [show n + 1 + d = (n + d) + 1 by omega, pm_exec]
            simp only [hlk, am_noend hret, am_noinv hop, pm_step, g1]
          · split at hx
            · next pc' ls' st' h' c' k' hB =>
              obtain ⟨g0, ls2, st2, h2, g1, g2, g3, g4⟩ := am_stB (m := m) (c := c) (k := k) hX hl hs hH hB
              have := am_go (e := (pc, i, len)) ih hx hk hX g2 g3 g4
              refine am_O_cg this (fun d => ?_)
              rw [show n + 1 + d = (n + d) + 1 by omega, pm_exec]
              simp only [hlk, am_noend hret, am_noinv hop, pm_step, g0, g1]
            · cases hx
      · rw [hret] at hx
        simp only [cond_true] at hx
        split at hx
        · next r hend =>
          cases hx
          obtain ⟨v, g1, g2⟩ := am_end_ok hs hend
          refine Or.inl ⟨rfl, h, v, fun d => ?_, hH, g2⟩
          show pm_exec X (n + 1 + d) m pc ls st h c k = _
          rw [show n + 1 + d = (n + d) + 1 by omega, pm_exec]
          simp only [hlk, g1]
        · cases hx
    · rw [hstop] at hx
      cases hx
      have := am_bq hstop
      subst this
      exact Or.inr ⟨rfl, ls, st, h, fun _ => rfl, hl, hs, hH⟩
end AMG
