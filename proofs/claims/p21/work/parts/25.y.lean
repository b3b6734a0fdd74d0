/-! fewer locals, in another order -/
def x_sub (l ls : pmL) : Prop := match l with
  | [] => True
  | p :: r => pm_get ls p.1 = some p.2 ∧ x_sub r ls
theorem x_sub.mem {ls : pmL} : ∀ {l : pmL}, x_sub l ls → ∀ p ∈ l, pm_get ls p.1 = some p.2
  | [], _, p, h => by cases h
  | a :: r, h, p, hp => by
    rcases List.mem_cons.mp hp with rfl | hp
    · exact h.1
    · exact x_sub.mem h.2 p hp
def x_R (l ls : pmL) : Prop := (l.map fun p => p.1).Nodup ∧ ∀ p ∈ l, pm_get ls p.1 = some p.2
theorem x_R.get {l ls : pmL} {j : Nat} {v : Value} (h : x_R l ls) (hg : pm_get l j = some v) : pm_get ls j = some v := h.2 (j, v) (pm_look_mem hg)
theorem x_fil {j : Nat} {v : Value} {f : Nat × Value → Bool} : ∀ {ls : pmL}, pm_look ls j = some v → f (j, v) = true → pm_look (ls.filter f) j = some v
  | [], h, _ => by simp [pm_look] at h
  | (i, w) :: r, h, hf => by
    have h : (if i = j then some w else pm_look r j) = some v := h
    split at h
    · next e =>
      cases h
      subst e
      rw [List.filter_cons_of_pos hf]
      show (if i = i then some v else _) = some v
      rw [if_pos rfl]
    · next e =>
      rw [List.filter_cons]
      split
      · show (if i = j then some w else _) = some v
        rw [if_neg e]
        exact x_fil h hf
      · exact x_fil h hf
theorem x_R.put {l ls : pmL} {j : Nat} {v : Value} {f : Nat × Value → Bool} (h : x_R l ls) (hf : ∀ q, f q = true → q.1 ≠ j) : x_R ((j, v) :: l.filter f) ((j, v) :: ls.filter f) := by
  refine ⟨?_, fun p hp => ?_⟩
  · rw [List.map_cons]
    refine List.nodup_cons.mpr ⟨fun hm => ?_, ?_⟩
    · obtain ⟨q, hq, e⟩ := List.mem_map.mp hm
      exact hf q (List.mem_filter.mp hq).2 e
    · exact h.1.sublist ((List.filter_sublist).map _)
  · rcases List.mem_cons.mp hp with rfl | hp
    · show (if j = j then some v else _) = some v
      rw [if_pos rfl]
    · obtain ⟨h1, h2⟩ := List.mem_filter.mp hp
      have hne := hf p h2
      show (if j = p.1 then some v else pm_look (ls.filter f) p.1) = some p.2
      rw [if_neg (fun z => hne z.symm)]
      exact x_fil (h.2 p h1) h2
theorem x_R.st1 {l ls : pmL} {j : Nat} {v : Value} (h : x_R l ls) : x_R (pm_st1 l j v) (pm_st1 ls j v) := h.put (fun q hq => by
  simp only [Bool.and_eq_true, Bool.not_eq_true', beq_eq_false_iff_ne] at hq
  exact hq.1)
theorem x_R.st2 {l ls : pmL} {j : Nat} {v : Value} (h : x_R l ls) : x_R (pm_st2 l j v) (pm_st2 ls j v) := h.put (fun q hq => by
  simp only [Bool.and_eq_true, Bool.not_eq_true', beq_eq_false_iff_ne] at hq
  exact hq.1)
set_option maxHeartbeats 4000000 in
theorem x_RA {m : Nat} {i : Instr} {pc pc' : Nat} {l l' ls : pmL} {st st' : List Value} {h h' : pmH} {c k c' k' : Nat} (hR : x_R l ls) (hs : pm_stepA m i pc l st h c k = some (pc', l', st', h', c', k')) : ∃ ls', pm_stepA m i pc ls st h c k = some (pc', ls', st', h', c', k') ∧ x_R l' ls' := by
  cases i
  case iload_n j =>
    simp only [pm_stepA] at hs ⊢
    split at hs
    · next x hg => cases hs; simp only [hR.get hg]; exact ⟨_, rfl, hR⟩
    · cases hs
  case iload j =>
    simp only [pm_stepA] at hs ⊢
    split at hs
    · next x hg => cases hs; simp only [hR.get hg]; exact ⟨_, rfl, hR⟩
    · cases hs
  case lload_n j =>
    simp only [pm_stepA] at hs ⊢
    split at hs
    · next x hg => cases hs; simp only [hR.get hg]; exact ⟨_, rfl, hR⟩
    · cases hs
  case lload j =>
    simp only [pm_stepA] at hs ⊢
    split at hs
    · next x hg => cases hs; simp only [hR.get hg]; exact ⟨_, rfl, hR⟩
    · cases hs
  case aload_n j =>
    simp only [pm_stepA] at hs ⊢
    split at hs
    · next x hg => cases hs; simp only [hR.get hg]; exact ⟨_, rfl, hR⟩
    · cases hs
  case aload j =>
    simp only [pm_stepA] at hs ⊢
    split at hs
    · next x hg => cases hs; simp only [hR.get hg]; exact ⟨_, rfl, hR⟩
    · cases hs
  case istore_n j =>
    simp only [pm_stepA] at hs ⊢
    split at hs
    · split at hs
      · next hn => cases hs; simp only [if_pos hn]; exact ⟨_, rfl, hR.st1⟩
      · cases hs
    · cases hs
  case istore j =>
    simp only [pm_stepA] at hs ⊢
    split at hs
    · split at hs
      · next hn => cases hs; simp only [if_pos hn]; exact ⟨_, rfl, hR.st1⟩
      · cases hs
    · cases hs
  case lstore_n j =>
    simp only [pm_stepA] at hs ⊢
    split at hs
    · split at hs
      · next hn => cases hs; simp only [if_pos hn]; exact ⟨_, rfl, hR.st2⟩
      · cases hs
    · cases hs
  case lstore j =>
    simp only [pm_stepA] at hs ⊢
    split at hs
    · split at hs
      · next hn => cases hs; simp only [if_pos hn]; exact ⟨_, rfl, hR.st2⟩
      · cases hs
    · cases hs
  case astore_n j =>
    simp only [pm_stepA] at hs ⊢
    split at hs
    · split at hs
      · next hn => cases hs; simp only [if_pos hn]; exact ⟨_, rfl, hR.st1⟩
      · cases hs
    · cases hs
  case astore j =>
    simp only [pm_stepA] at hs ⊢
    split at hs
    · split at hs
      · next hn => cases hs; simp only [if_pos hn]; exact ⟨_, rfl, hR.st1⟩
      · cases hs
    · cases hs
  case iinc j n =>
    simp only [pm_stepA] at hs ⊢
    split at hs
    · next x hg =>
      split at hs
      · next hn => cases hs; simp only [hR.get hg, if_pos hn]; exact ⟨_, rfl, hR.st1⟩
      · cases hs
    · cases hs
  case if_icmp cd off =>
    simp only [pm_stepA] at hs ⊢
    split at hs
    · cases cd <;> (simp only at hs ⊢; unfold pm_br at hs ⊢; split at hs <;> first | (cases hs; exact ⟨_, rfl, hR⟩) | cases hs)
    · cases hs
  case ifCond cd off =>
    simp only [pm_stepA] at hs ⊢
    split at hs
    · cases cd <;> (simp only at hs ⊢; unfold pm_br at hs ⊢; split at hs <;> first | (cases hs; exact ⟨_, rfl, hR⟩) | cases hs)
    · cases hs
  case goto off =>
    simp only [pm_stepA] at hs ⊢
    split at hs
    · cases hs; exact ⟨_, rfl, hR⟩
    · cases hs
  case idiv =>
    simp only [pm_stepA] at hs ⊢
    split at hs
    · split at hs
      · cases hs
      · next hz => cases hs; simp only [if_neg hz]; exact ⟨_, rfl, hR⟩
    · cases hs
  case irem =>
    simp only [pm_stepA] at hs ⊢
    split at hs
    · split at hs
      · cases hs
      · next hz => cases hs; simp only [if_neg hz]; exact ⟨_, rfl, hR⟩
    · cases hs
  case iconst n => simp only [pm_stepA] at hs ⊢; cases hs; exact ⟨_, rfl, hR⟩
  case bipush n => simp only [pm_stepA] at hs ⊢; cases hs; exact ⟨_, rfl, hR⟩
  case sipush n => simp only [pm_stepA] at hs ⊢; cases hs; exact ⟨_, rfl, hR⟩
  case lconst n => simp only [pm_stepA] at hs ⊢; cases hs; exact ⟨_, rfl, hR⟩
  case dup =>
    simp only [pm_stepA] at hs ⊢
    split at hs
    · cases hs; exact ⟨_, rfl, hR⟩
    · cases hs; exact ⟨_, rfl, hR⟩
    · cases hs
  case dup2 =>
    simp only [pm_stepA] at hs ⊢
    split at hs
    · cases hs; exact ⟨_, rfl, hR⟩
    · cases hs
  case pop =>
    simp only [pm_stepA] at hs ⊢
    split at hs
    · cases hs; exact ⟨_, rfl, hR⟩
    · cases hs; exact ⟨_, rfl, hR⟩
    · cases hs
  case pop2 =>
    simp only [pm_stepA] at hs ⊢
    split at hs
    · cases hs; exact ⟨_, rfl, hR⟩
    · cases hs
  case i2c =>
    simp only [pm_stepA] at hs ⊢
    split at hs
    · cases hs; exact ⟨_, rfl, hR⟩
    · cases hs
  case iadd =>
    simp only [pm_stepA] at hs ⊢
    split at hs
    · cases hs; exact ⟨_, rfl, hR⟩
    · cases hs
  case isub =>
    simp only [pm_stepA] at hs ⊢
    split at hs
    · cases hs; exact ⟨_, rfl, hR⟩
    · cases hs
  case imul =>
    simp only [pm_stepA] at hs ⊢
    split at hs
    · cases hs; exact ⟨_, rfl, hR⟩
    · cases hs
  case iand =>
    simp only [pm_stepA] at hs ⊢
    split at hs
    · cases hs; exact ⟨_, rfl, hR⟩
    · cases hs
  case ior =>
    simp only [pm_stepA] at hs ⊢
    split at hs
    · cases hs; exact ⟨_, rfl, hR⟩
    · cases hs
  case ishl =>
    simp only [pm_stepA] at hs ⊢
    split at hs
    · cases hs; exact ⟨_, rfl, hR⟩
    · cases hs
  case ishr =>
    simp only [pm_stepA] at hs ⊢
    split at hs
    · cases hs; exact ⟨_, rfl, hR⟩
    · cases hs
  case iushr =>
    simp only [pm_stepA] at hs ⊢
    split at hs
    · cases hs; exact ⟨_, rfl, hR⟩
    · cases hs
  case ladd =>
    simp only [pm_stepA] at hs ⊢
    split at hs
    · cases hs; exact ⟨_, rfl, hR⟩
    · cases hs
  case lsub =>
    simp only [pm_stepA] at hs ⊢
    split at hs
    · cases hs; exact ⟨_, rfl, hR⟩
    · cases hs
  case lmul =>
    simp only [pm_stepA] at hs ⊢
    split at hs
    · cases hs; exact ⟨_, rfl, hR⟩
    · cases hs
  case land =>
    simp only [pm_stepA] at hs ⊢
    split at hs
    · cases hs; exact ⟨_, rfl, hR⟩
    · cases hs
  case lor =>
    simp only [pm_stepA] at hs ⊢
    split at hs
    · cases hs; exact ⟨_, rfl, hR⟩
    · cases hs
  case lxor =>
    simp only [pm_stepA] at hs ⊢
    split at hs
    · cases hs; exact ⟨_, rfl, hR⟩
    · cases hs
  case lshl =>
    simp only [pm_stepA] at hs ⊢
    split at hs
    · cases hs; exact ⟨_, rfl, hR⟩
    · cases hs
  case lshr =>
    simp only [pm_stepA] at hs ⊢
    split at hs
    · cases hs; exact ⟨_, rfl, hR⟩
    · cases hs
  case lushr =>
    simp only [pm_stepA] at hs ⊢
    split at hs
    · cases hs; exact ⟨_, rfl, hR⟩
    · cases hs
  case i2l =>
    simp only [pm_stepA] at hs ⊢
    split at hs
    · cases hs; exact ⟨_, rfl, hR⟩
    · cases hs
  case l2i =>
    simp only [pm_stepA] at hs ⊢
    split at hs
    · cases hs; exact ⟨_, rfl, hR⟩
    · cases hs
  case lcmp =>
    simp only [pm_stepA] at hs ⊢
    split at hs
    · cases hs; exact ⟨_, rfl, hR⟩
    · cases hs
  all_goals exact absurd hs (by simp [pm_stepA])
/-- steps with the heap don't look at the locals -/
theorem x_RB {X : pmX} {m : Nat} {i : Instr} {pc pc' : Nat} {l l' ls : pmL} {st st' : List Value} {h h' : pmH} {c k c' k' : Nat} (hs : pm_stepB X m i pc l st h c k = some (pc', l', st', h', c', k')) : l' = l ∧ pm_stepB X m i pc ls st h c k = some (pc', ls, st', h', c', k') := by
  have key : ∀ ls : pmL, pm_stepB X m i pc ls st h c k = (pm_stepB X m i pc [] st h c k).map (fun q => (q.1, ls, q.2.2)) := by
    intro ls
    cases i <;> simp only [pm_stepB] <;> (repeat' split) <;> rfl
  rw [key l] at hs
  rw [key ls]
  cases hB : pm_stepB X m i pc [] st h c k with
  | none => rw [hB] at hs; cases hs
  | some q =>
    obtain ⟨a1, a2, a3, a4, a5, a6⟩ := q
    rw [hB] at hs
    cases hs
    exact ⟨rfl, rfl⟩
theorem x_An {X : pmX} {m : Nat} {i : Instr} {pc : Nat} {l ls : pmL} {st : List Value} {h : pmH} {c k : Nat} {r : pmS} (hB : pm_stepB X m i pc l st h c k = some r) : pm_stepA m i pc ls st h c k = none := by
  cases i <;> first | rfl | exact absurd hB (by simp [pm_stepB])
theorem pm_weak : ∀ (n : Nat) {X : pmX} {m pc : Nat} {l ls : pmL} {st : List Value} {h : pmH} {c k : Nat} {r : pmH × Option Value}, x_R l ls → pm_exec X n m pc l st h c k = some r → pm_exec X n m pc ls st h c k = some r := by
  intro n
  induction n with
  | zero =>
    intro X m pc l ls st h c k r hR hs
    cases hs
  | succ n ih =>
    intro X m pc l ls st h c k r hR hs
    rw [pm_exec] at hs ⊢
    cases h1 : pm_look (pm_kl m) pc with
    | none => rw [h1] at hs; cases hs
    | some il =>
      obtain ⟨i, len⟩ := il
      simp only [h1] at hs ⊢
      cases h2 : pm_end m i st with
      | some v => simp only [h2] at hs ⊢; exact hs
      | none =>
        simp only [h2] at hs ⊢
        cases h3 : pm_inv m i st h c k with
        | none =>
          simp only [h3] at hs ⊢
          unfold pm_step at hs ⊢
          cases hA : pm_stepA m i pc l st h c k with
          | some q =>
            obtain ⟨pc', l', st', h', c', k'⟩ := q
            obtain ⟨ls', g1, g2⟩ := x_RA hR hA
            simp only [hA] at hs
            simp only [g1]
            exact ih g2 hs
          | none =>
            simp only [hA] at hs
            cases hB : pm_stepB X m i pc l st h c k with
            | none => rw [hB] at hs; cases hs
            | some q =>
              obtain ⟨pc', l', st', h', c', k'⟩ := q
              obtain ⟨rfl, g1⟩ := x_RB (ls := ls) hB
              simp only [hB] at hs
              have hAn : pm_stepA m i pc ls st h c k = none := x_An hB
              simp only [hAn, g1]
              exact ih hR hs
        | some q =>
          obtain ⟨o, as, rest⟩ := q
          cases o with
          | none => simp only [h3] at hs ⊢; exact ih hR hs
          | some y =>
            simp only [h3] at hs ⊢
            cases h5 : pm_exec none n y 0 (lv_args 0 as) [] h 0 0 with
            | none => rw [h5] at hs; cases hs
            | some w =>
              obtain ⟨h', r'⟩ := w
              rw [h5] at hs
              exact ih hR hs
theorem x_ls {X : pmX} {m pc : Nat} {l ls : pmL} {st : List Value} {s : xS} {c k : Nat} {P : xS → Option Value → Prop} (hn : (l.map fun p => p.1).Nodup) (hs : x_sub l ls) (kk : xe X m pc l st s c k P) : xe X m pc ls st s c k P := fun h hr => by
  obtain ⟨n, h', r, g1, g2⟩ := kk h hr
  exact ⟨n, h', r, pm_weak n ⟨hn, hs.mem⟩ g1, g2⟩
