/-! THE BOX MACHINE IS SOUND: runs -/
def am_srt : List (Nat × Instr × Nat) → Bool
  | [] => true
  | [_] => true
  | a :: b :: r => Nat.blt a.1 b.1 && am_srt (b :: r)
theorem am_srt_lt : ∀ {a : Nat × Instr × Nat} {l : List (Nat × Instr × Nat)}, am_srt (a :: l) = true → ∀ b ∈ l, a.1 < b.1
  | _, [], _, b, hb => by cases hb
  | a, c :: r, h, b, hb => by
    have h : (Nat.blt a.1 c.1 && am_srt (c :: r)) = true := h
    rw [Bool.and_eq_true] at h
    have h1 := am_blt h.1
    rcases List.mem_cons.mp hb with rfl | hb
    · exact h1
    · exact Nat.lt_trans h1 (am_srt_lt h.2 b hb)
theorem am_srt_tl {a : Nat × Instr × Nat} {l : List (Nat × Instr × Nat)} (h : am_srt (a :: l) = true) : am_srt l = true := by
  cases l with
  | nil => rfl
  | cons b r =>
    have h : (Nat.blt a.1 b.1 && am_srt (b :: r)) = true := h
    rw [Bool.and_eq_true] at h
    exact h.2
theorem am_srt_look {pc : Nat} {x : Instr × Nat} {r : List (Nat × Instr × Nat)} : ∀ {pre : List (Nat × Instr × Nat)}, am_srt (pre ++ (pc, x) :: r) = true → pm_look (pre ++ (pc, x) :: r) pc = some x
  | [], _ => by
    show (if pc = pc then some x else pm_look r pc) = some x
    rw [if_pos rfl]
  | (j, a) :: l, h => by
    have h1 := am_srt_lt h (pc, x) (List.mem_append_right _ List.mem_cons_self)
    show (if j = pc then some a else pm_look (l ++ (pc, x) :: r) pc) = some x
    rw [if_neg (Nat.ne_of_lt h1)]
    exact am_srt_look (am_srt_tl h)
theorem am_drop_ok {pc : Nat} {e : Nat × Instr × Nat} {r : List (Nat × Instr × Nat)} : ∀ {l : List (Nat × Instr × Nat)}, am_drop l pc = e :: r → e.1 = pc ∧ ∃ pre, l = pre ++ e :: r
  | [], h => by simp [am_drop] at h
  | a :: l, h => by
    unfold am_drop at h
    cases ha : Nat.beq a.1 pc
    · rw [ha] at h
      obtain ⟨h1, pre, h2⟩ := am_drop_ok h
      exact ⟨h1, a :: pre, by rw [h2]; rfl⟩
    · rw [ha] at h
      cases h
      exact ⟨am_bq ha, [], rfl⟩
theorem am_next_ok {pc : Nat} {e0 e : Nat × Instr × Nat} {kl rest r : List (Nat × Instr × Nat)} (hk : ∃ pre, kl = pre ++ e0 :: rest) (h : am_next kl rest pc = e :: r) : e.1 = pc ∧ ∃ pre, kl = pre ++ e :: r := by
  unfold am_next at h
  split at h
  · next a l =>
    cases ha : Nat.beq a.1 pc
    · rw [ha] at h
      exact am_drop_ok h
    · rw [ha] at h
      cases h
      obtain ⟨pre, hk⟩ := hk
      exact ⟨am_bq ha, pre ++ [e0], by rw [hk, List.append_assoc]; rfl⟩
  · exact am_drop_ok h
theorem am_args_ok {ρ : Nat → Int32} : ∀ {a : List aV} {l : List Value} (i : Nat), am_sk ρ a l → am_ls ρ (am_args i a) (lv_args i l)
  | [], [], _, _ => trivial
  | x :: as, v :: vs, i, h => by
    refine ⟨⟨rfl, h.1⟩, ?_⟩
    show am_ls ρ (am_args (if am_cat x = 2 then i + 2 else i + 1) as) (lv_args (if v.category = 2 then i + 2 else i + 1) vs)
    rw [h.1.cat]
    exact am_args_ok _ h.2
  | [], _ :: _, _, h => h.elim
  | _ :: _, [], _, h => h.elim
theorem am_one {x : Int32} (h0 : 0 ≤ x.toInt) (h1 : x.toInt ≤ 1) : x &&& 1 = x := by
  have : x = 0 ∨ x = 1 := by
    rw [← Int32.toInt_inj, ← Int32.toInt_inj]
    have e0 : (0 : Int32).toInt = 0 := rfl
    have e1 : (1 : Int32).toInt = 1 := rfl
    omega
  rcases this with rfl | rfl <;> decide
section AME
variable {ρ : Nat → Int32} {F : aF}
def am_so (ρ : Nat → Int32) (a : Option aV) (v : Option Value) : Prop := am_sk ρ a.toList v.toList
theorem am_end_ok {m : Nat} {i : Instr} {ast : List aV} {st : List Value} {r : Option aV} (hs : am_sk ρ ast st) (h : am_end m i ast = some r) : ∃ v, pm_end m i st = some v ∧ am_so ρ r v := by
  cases i
  case ireturn =>
    simp only [am_end] at h
    split at h
    · next a hr =>
      obtain ⟨h1, h2⟩ := am_cond h
      cases h2
      obtain ⟨v, vs, rfl, s1, s2⟩ := hs.c
      cases s2.n
      obtain ⟨x, rfl, _⟩ := s1.int (am_bq h1)
      exact ⟨some (.int x), by simp only [pm_end, hr], s1, trivial⟩
    · next a hr =>
      obtain ⟨h1, h2⟩ := am_cond h
      cases h2
      rw [Bool.and_eq_true, Bool.and_eq_true, am_le_iff, am_le_iff] at h1
      obtain ⟨v, vs, rfl, s1, s2⟩ := hs.c
      cases s2.n
      obtain ⟨x, rfl, hx⟩ := s1.int (am_bq h1.1.1)
      exact ⟨some (.int x), by simp only [pm_end, hr]; rw [if_pos (am_one (by have := hx.1; omega) (by have := hx.2.1; omega))], s1, trivial⟩
    · cases h
  case lreturn =>
    simp only [am_end] at h
    split at h
    · next a hr =>
      obtain ⟨h1, h2⟩ := am_cond h
      cases h2
      obtain ⟨v, vs, rfl, s1, s2⟩ := hs.c
      cases s2.n
      obtain ⟨x, rfl, _⟩ := s1.long (am_bq h1)
      exact ⟨some (.long x), by simp only [pm_end, hr], s1, trivial⟩
    · cases h
  case return_ =>
    simp only [am_end] at h
    split at h
    · next hr =>
      cases h
      cases hs.n
      exact ⟨none, by simp only [pm_end, hr], trivial⟩
    · cases h
  all_goals exact absurd h (by simp [am_end])
theorem am_noend {m : Nat} {i : Instr} {st : List Value} (h : am_isret i = false) : pm_end m i st = none := by
  cases i <;> first | rfl | exact absurd h (by simp [am_isret])
theorem am_noinv {m : Nat} {i : Instr} {st : List Value} {h : pmH} {c k : Nat} (ho : am_op i = none) : pm_inv m i st h c k = none := by
  cases i <;> first | rfl | exact absurd ho (by simp [am_op])
theorem am_inv_eq (m : Nat) (i : Instr) (st : List Value) (h : pmH) (c k : Nat) : pm_inv m i st h c k = (match am_op i with
  | none => none
  | some (j, op) => match pm_look (pm_calls (pm_oc m)) j with
    | none => none
    | some (y, kind, n) =>
      if kind = 3 then (if op = 2 ∧ 1 ≤ pm_fr m then match st with
        | .ref q :: r => if (r.map fun v => v.category).sum + 12 ≤ pm_lo m then some (none, [.ref q], r) else none
        | _ => none
        else none)
      else if kind % 10 = op ∧ n ≤ st.length ∧ pm_fr y + 1 ≤ pm_fr m ∧ 8 + (pm_maxL y + 11) + pm_lo y ≤ pm_lo m ∧ c + pm_mc y ≤ pm_mc m ∧ k + pm_ms y ≤ pm_ms m then
        let as := (st.take n).reverse
        if op = 1 then (if ((st.drop n).map fun v => v.category).sum ≤ 8 ∧ (as.map fun v => v.category).sum ≤ pm_maxL y ∧ pm_oc y < pm_lawc then some (some y, as, st.drop n) else none)
        else match st.drop n with
          | .ref q :: r => if 2001 ≤ q then (if q < 2020 ∧ op = 0 ∧ pm_oc y = pm_strc ∧ (r.map fun v => v.category).sum ≤ 8 ∧ 1 + (as.map fun v => v.category).sum ≤ pm_maxL y then some (some y, .ref q :: as, r) else none)
            else match h[q]? with
            | some (t, _, _) => if t = pm_oc y ∧ t < 12 ∧ (r.map fun v => v.category).sum ≤ 8 ∧ 1 + (as.map fun v => v.category).sum ≤ pm_maxL y then some (some y, .ref q :: as, r) else none
            | none => none
          | _ => none
      else none : Option (Option Nat × List Value × List Value)) := rfl
theorem am_inv_ok {m : Nat} {i : Instr} {ast : List aV} {st : List Value} {ah : aH} {h : pmH} {c k : Nat} {o : Option Nat} {aa ar : List aV} (hs : am_sk ρ ast st) (hH : am_H ρ ah h) (hx : am_inv m (pm_oc m) i ast ah c k = some (o, aa, ar)) :
    ∃ as rest, pm_inv m i st h c k = some (o, as, rest) ∧ am_sk ρ aa as ∧ am_sk ρ ar rest := by
  rw [am_inv_eq]
  unfold am_inv at hx
  split at hx
  · cases hx
  · next j op hj =>
    simp only [hj]
    split at hx
    · cases hx
    · next y kind n hlk =>
      simp only [hlk]
      split at hx
      · next hk3 =>
        rw [if_pos hk3]
        split at hx
        · next hop =>
          rw [if_pos hop]
          split at hx
          · next a r =>
            split at hx
            · next hc =>
              cases hx
              obtain ⟨v, vs, rfl, s1, s2⟩ := hs.c
              obtain ⟨q, rfl, hq⟩ := s1.ref hc.1
              have hcat := am_cats s2
              exact ⟨[.ref q], vs, by simp only [hcat]; rw [if_pos hc.2], ⟨s1, trivial⟩, s2⟩
            · cases hx
          · cases hx
        · cases hx
      · next hk3 =>
        rw [if_neg hk3]
        split at hx
        · next hc =>
          have hlen := hs.len
          rw [if_pos (by rw [← hlen]; exact hc)]
          have hd := hs.drop n
          have ht := (hs.take n).rev
          have ct := am_cats ht
          try dsimp only
          split at hx
          · next hop =>
            rw [if_pos hop]
            split at hx
            · next hr =>
              cases hx
              exact ⟨_, _, by rw [am_cats hd, ct, if_pos hr], ht, hd⟩
            · cases hx
          · next hop =>
            rw [if_neg hop]
            split at hx
            · next a r hdr =>
              rw [hdr] at hd
              obtain ⟨v, vs, hv, s1, s2⟩ := hd.c
              rw [hv]
              split at hx
              · next ha =>
                obtain ⟨ha, hab⟩ := ha
                obtain ⟨q, rfl, hq⟩ := s1.ref ha
                rw [hq, Int.toNat_natCast] at hx hab
                have hq9 : ¬ 2001 ≤ q := by omega
                simp only [if_neg hq9]
                split at hx
                · next t d hlk2 =>
                  split at hx
                  · next hr =>
                    cases hx
                    obtain ⟨⟨t', n', f⟩, hy, e1, -⟩ := hH.2 _ _ hlk2
                    dsimp only at e1
                    subst e1
                    exact ⟨.ref q :: (st.take n).reverse, vs, by simp only [hy, am_cats s2, ct]; rw [if_pos hr], ⟨s1, ht⟩, s2⟩
                  · cases hx
                · cases hx
              · cases hx
            · cases hx
        · cases hx
end AME
