/-! THE BOX MACHINE IS SOUND: steps with the heap -/
section AMD
variable {ρ : Nat → Int32} {AX : Option (Nat × List aV)} {X : pmX} {m : Nat} {pc pc' : Nat} {als als' : aL} {ast ast' : List aV} {ah ah' : aH} {ls : pmL} {st : List Value} {h : pmH} {c k c' k' : Nat}
def am_B (ρ : Nat → Int32) (X : pmX) (m : Nat) (i : Instr) (pc : Nat) (ls : pmL) (st : List Value) (h : pmH) (c k : Nat) (pc' : Nat) (als' : aL) (ast' : List aV) (ah' : aH) (c' k' : Nat) : Prop :=
  pm_stepA m i pc ls st h c k = none ∧ ∃ ls' st' h', pm_stepB X m i pc ls st h c k = some (pc', ls', st', h', c', k') ∧ am_ls ρ als' ls' ∧ am_sk ρ ast' st' ∧ am_H ρ ah' h'
theorem am_rdn {x : aV} {v : Value} (h : x.1 = 9 ∨ am_v ρ x v) (h3 : Nat.ble x.1 3 = true) : am_v ρ x v := by
  rcases h with h | h
  · rw [h] at h3; cases h3
  · exact h
theorem am_ald_ok {t1 t2 : Nat} (hs : am_sk ρ ast st) (hH : am_H ρ ah h) (hx : am_ald t1 t2 als ast ah c k pc = some (pc', als', ast', ah', c', k')) :
    ∃ j q r t n f, st = .int j :: .ref q :: r ∧ h[q]? = some (t, n, f) ∧ (t = t1 ∨ t = t2) ∧ pm_ix j n = true ∧ am_sk ρ ast' (f j.toNatClampNeg :: r) ∧ pc' = pc + 1 ∧ als' = als ∧ ah' = ah ∧ c' = c ∧ k' = k := by
  unfold am_ald at hx
  split at hx
  · next a b r =>
    obtain ⟨h1, h2⟩ := am_cond hx
    split at h2
    · next t n d ov hl =>
      obtain ⟨h3, h4⟩ := am_cond h2
      split at h4
      · next i hi =>
        obtain ⟨h5, h6⟩ := am_cond h4
        cases h6
        obtain ⟨v, vs, rfl, s1, s2⟩ := hs.c
        obtain ⟨w, vs, rfl, s3, s4⟩ := s2.c
        obtain ⟨x, rfl, g1, g2, g3, -⟩ := am_ix_ok hi s1
        obtain ⟨q, rfl, hq⟩ := s3.ref (am_bq h1)
        rw [hq, Int.toNat_natCast] at hl
        obtain ⟨⟨t', n', f⟩, hy, e1, e2, e3⟩ := hH.2 _ _ hl
        dsimp only at e1 e2 e3
        subst e1 e2
        refine ⟨x, q, vs, t', n', f, rfl, hy, ?_, g1, ?_, rfl, rfl, rfl, rfl, rfl⟩
        · rw [Bool.or_eq_true] at h3
          exact h3.imp am_bq am_bq
        · rw [g2]
          exact ⟨am_rdn (e3 i g3) h5, s4⟩
      · cases h4
    · cases h2
  · cases hx
theorem am_ast_ok {t1 u : Nat} {f : aV → aV} {g : Value → Value} (hfg : ∀ a v, a.1 = u → am_v ρ a v → am_v ρ (f a) (g v)) (hs : am_sk ρ ast st) (hH : am_H ρ ah h) (hx : am_ast t1 u f als ast ah c k pc = some (pc', als', ast', ah', c', k')) :
    ∃ v j q r n F a, st = v :: .int j :: .ref q :: r ∧ am_v ρ a v ∧ a.1 = u ∧ h[q]? = some (t1, n, F) ∧ pm_ix j n = true ∧ am_sk ρ ast' r ∧ am_H ρ ah' (h.set q (t1, n, pm_upd F j.toNatClampNeg (g v))) ∧ pc' = pc + 1 ∧ als' = als ∧ c' = c ∧ k' = k := by
  unfold am_ast at hx
  split at hx
  · next a b d0 r =>
    obtain ⟨h1, h2⟩ := am_cond hx
    rw [Bool.and_eq_true] at h1
    split at h2
    · next t n d ov hl =>
      obtain ⟨h3, h4⟩ := am_cond h2
      have h3 := am_bq h3
      subst h3
      split at h4
      · next i hi =>
        cases h4
        obtain ⟨v, vs, rfl, s1, s2⟩ := hs.c
        obtain ⟨w, vs, rfl, s3, s4⟩ := s2.c
        obtain ⟨z, vs, rfl, s5, s6⟩ := s4.c
        obtain ⟨x, rfl, g1, g2, g3, -⟩ := am_ix_ok hi s3
        obtain ⟨q, rfl, hq⟩ := s5.ref (am_bq h1.1)
        rw [hq, Int.toNat_natCast] at hl
        obtain ⟨⟨t', n', F⟩, hy, e⟩ := hH.2 _ _ hl
        have e1 := e.1
        have e2 := e.2.1
        dsimp only at e1 e2
        subst e1 e2
        refine ⟨v, x, q, vs, n', F, a, rfl, s1, am_bq h1.2, hy, g1, s6, ?_, rfl, rfl, rfl, rfl⟩
        rw [hq, Int.toNat_natCast, g2]
        exact hH.set hl (e.upd (i := i) (hfg a v (am_bq h1.2) s1))
      · cases h4
    · cases h2
  · cases hx
theorem am_ofN {n : Nat} (h : Nat.ble n 100000 = true) : am_I ρ (am_c (n : Nat)) (Int32.ofNat n) := by
  have h := Nat.le_of_ble_eq_true h
  rw [← Int32.ofInt_eq_ofNat]
  exact am_c_of (am_in32_iff.mpr (by omega))
theorem am_new_ok {a : aC} {x : pmC} (hs : am_sk ρ ast st) (hH : am_H ρ ah h) (hc : am_C ρ a x) : am_sk ρ ((2, (ah.1 : Nat), (ah.1 : Nat), 0, 0) :: ast) (.ref h.length :: st) ∧ am_H ρ (ah.1 + 1, (ah.1, a) :: ah.2) (h ++ [x]) := ⟨⟨.ofR rfl (by show ((ah.1 : Nat) : Int) = _; rw [hH.1]), hs⟩, hH.new hc⟩
set_option maxHeartbeats 4000000 in
theorem am_stB {i : Instr} (hX : am_X ρ AX X) (hl : am_ls ρ als ls) (hs : am_sk ρ ast st) (hH : am_H ρ ah h) (hx : am_stepB AX m (pm_oc m) i pc als ast ah c k = some (pc', als', ast', ah', c', k')) : am_B ρ X m i pc ls st h c k pc' als' ast' ah' c' k' := by
  cases i
  case tableswitch dflt lo hi offs =>
    refine ⟨rfl, ?_⟩
    simp only [am_stepB] at hx; split at hx
    · next a r =>
      obtain ⟨h1, h2⟩ := am_cond hx
      obtain ⟨v, vs, rfl, s1, s2⟩ := hs.c
      obtain ⟨x, rfl, g⟩ := s1.int (am_bq h1)
      have g1 := g.1
      have g2 := g.2.1
      cases hc : am_le (a.2.2.1 + 1) lo || am_le (hi + 1) a.2.1
      · rw [hc] at h2
        rw [Bool.or_eq_false_iff] at hc
        simp only [cond_false] at h2
        obtain ⟨h3, h4⟩ := am_cond h2
        have hq := am_isc_iff.mp h3
        have e : x.toInt = a.2.1 := by omega
        have c1 : ¬ (x.toInt < lo ∨ hi < x.toInt) := by
          rw [e]
          rintro (z | z)
          · have := am_le_iff.mpr (show a.2.2.1 + 1 ≤ lo by omega); rw [hc.1] at this; cases this
          · have := am_le_iff.mpr (show hi + 1 ≤ a.2.1 by omega); rw [hc.2] at this; cases this
        split at h4
        · next off ho =>
          split at h4
          · next t ht =>
            cases h4
            rw [Array.getElem?_toList] at ho
            exact ⟨ls, vs, h, by simp only [pm_stepB]; rw [if_neg c1]; simp only [e, ho, ht], hl, s2, hH⟩
          · cases h4
        · cases h4
      · rw [hc] at h2
        rw [Bool.or_eq_true, am_le_iff, am_le_iff] at hc
        have c1 : x.toInt < lo ∨ hi < x.toInt := by omega
        simp only [cond_true] at h2
        split at h2
        · next t ht =>
          cases h2
          exact ⟨ls, vs, h, by simp only [pm_stepB]; rw [if_pos c1]; simp only [ht], hl, s2, hH⟩
        · cases h2
    · cases hx
  case lookupswitch dflt ps =>
    refine ⟨rfl, ?_⟩
    simp only [am_stepB] at hx; split at hx
    · next a r =>
      obtain ⟨h1, h2⟩ := am_cond hx
      rw [Bool.and_eq_true] at h1
      obtain ⟨v, vs, rfl, s1, s2⟩ := hs.c
      obtain ⟨x, rfl, g⟩ := s1.int (am_bq h1.1)
      have e : x.toInt = a.2.1 := by have := am_isc_iff.mp h1.2; have := g.1; have := g.2.1; omega
      split at h2
      · next hc =>
        split at h2
        · next t ht =>
          cases h2
          exact ⟨ls, vs, h, by simp only [pm_stepB]; rw [if_pos hc]; simp only [e, ht], hl, s2, hH⟩
        · cases h2
      · cases h2
    · cases hx
  case ldc j =>
    refine ⟨rfl, ?_⟩
    simp only [am_stepB] at hx; split at hx
    · next x hg => cases hx; exact ⟨ls, .int x :: st, h, by simp only [pm_stepB, hg], hl, ⟨.ofI rfl (am_c_ok x), hs⟩, hH⟩
    · next x hg => cases hx; exact ⟨ls, .ref x :: st, h, by simp only [pm_stepB, hg], hl, ⟨.ofR rfl rfl, hs⟩, hH⟩
    · cases hx
  case ldc2_w j =>
    refine ⟨rfl, ?_⟩
    simp only [am_stepB] at hx; split at hx
    · next x hg => cases hx; exact ⟨ls, .long x :: st, h, by simp only [pm_stepB, hg], hl, ⟨.ofJ rfl (am_j_ok x), hs⟩, hH⟩
    · cases hx
  case getfield j =>
    refine ⟨rfl, ?_⟩
    simp only [am_stepB] at hx; split at hx
    · next a r =>
      obtain ⟨h1, h2⟩ := am_cond hx
      rw [Bool.and_eq_true] at h1
      obtain ⟨h1, h1b⟩ := h1
      obtain ⟨v, vs, rfl, s1, s2⟩ := hs.c
      obtain ⟨q, rfl, hq⟩ := s1.ref (am_bq h1)
      rw [hq, Int.toNat_natCast] at h2 h1b
      have hq9 : ¬ 2001 ≤ q := by have := am_blt h1b; omega
      split at h2
      · next ci f t n d ov hf hlk =>
        obtain ⟨h3, h4⟩ := am_cond h2
        rw [Bool.and_eq_true, Bool.and_eq_true] at h3
        cases h4
        obtain ⟨⟨t', n', F⟩, hy, e1, e2, e3⟩ := hH.2 _ _ hlk
        dsimp only at e1 e2 e3
        subst e1 e2
        have h5 := am_bq h3.1.1
        have hf : pm_fld m j = some (ci, f) := hf
        exact ⟨ls, F f :: vs, h, by simp only [pm_stepB]; rw [if_neg hq9]; simp only [hf, hy, if_pos h5], hl, ⟨am_rdn (e3 f (am_blt h3.1.2)) h3.2, s2⟩, hH⟩
      · cases h2
    · cases hx
  case putfield j =>
    refine ⟨rfl, ?_⟩
    simp only [am_stepB] at hx; split at hx
    · next a b r =>
      obtain ⟨h1, h2⟩ := am_cond hx
      obtain ⟨v, vs, rfl, s1, s2⟩ := hs.c
      obtain ⟨w, vs, rfl, s3, s4⟩ := s2.c
      obtain ⟨q, rfl, hq⟩ := s3.ref (am_bq h1)
      rw [hq, Int.toNat_natCast] at h2
      split at h2
      · next ci f t n d ov hf hlk =>
        obtain ⟨h3, h4⟩ := am_cond h2
        rw [Bool.and_eq_true, Bool.and_eq_true] at h3
        cases h4
        obtain ⟨⟨t', n', F⟩, hy, e⟩ := hH.2 _ _ hlk
        have e1 := e.1
        have e2 := e.2.1
        dsimp only at e1 e2
        subst e1 e2
        have h5 := am_bq h3.1.1
        have hf : pm_fld m j = some (ci, f) := hf
        have hfin : pm_fin ci f = false ∨ (pm_in m = 1 ∧ ci = pm_oc m) := by
          have := h3.2
          rw [Bool.or_eq_true, Bool.and_eq_true, Bool.not_eq_true'] at this
          exact this.imp id (fun z => ⟨am_bq z.1, am_bq z.2⟩)
        exact ⟨ls, vs, h.set q (t', n', pm_upd F f v), by simp only [pm_stepB, hf, hy]; rw [if_pos ⟨h5, am_okv_ok h3.1.2 s1, hfin⟩], hl, s4, hH.set hlk (e.upd s1)⟩
      · cases h2
    · cases hx
  case iaload =>
    refine ⟨rfl, ?_⟩
    simp only [am_stepB] at hx; split at hx
    · next a b r =>
      cases hc : Nat.beq b.1 2 && am_ieq b.2.1 2000
      · rw [hc] at hx
        obtain ⟨j, q, rr, t, n, f, rfl, hy, ht, hj, hsk, rfl, rfl, rfl, rfl, rfl⟩ := am_ald_ok hs hH hx
        have ht : t = 20 := ht.elim id id
        have hq : ¬ q = 2000 := by
          rintro rfl
          obtain ⟨v, vs, hv, s1, s2⟩ := hs.c
          obtain ⟨w, vs, hw, s3, s4⟩ := s2.c
          cases hv
          cases hw
          rcases s3 with ⟨_, x, z, _⟩ | ⟨_, x, z, _⟩ | ⟨hb, x, z, hx⟩ | ⟨_, z⟩
          · cases z
          · cases z
          · cases z
            rw [hb, am_ieq_iff.mpr (show b.2.1 = 2000 from hx)] at hc
            cases hc
          · cases z
        exact ⟨ls, f j.toNatClampNeg :: rr, h, by simp only [pm_stepB]; rw [if_neg hq]; simp only [hy]; rw [if_pos ⟨ht, hj⟩], hl, hsk, hH⟩
      · rw [hc] at hx
        rw [Bool.and_eq_true, am_ieq_iff] at hc
        simp only [cond_true] at hx
        split at hx
        · next x =>
          split at hx
          · next i hi =>
            split at hx
            · next aa haa =>
              cases hx
              obtain ⟨v, vs, rfl, s1, s2⟩ := hs.c
              obtain ⟨w, vs, rfl, s3, s4⟩ := s2.c
              obtain ⟨f, rfl, hf⟩ := hX _ rfl
              obtain ⟨y, rfl, g1, g2, g3, -⟩ := am_ix_ok hi s1
              obtain ⟨q, rfl, hq⟩ := s3.ref (am_bq hc.1)
              have hq : q = 2000 := by omega
              exact ⟨ls, .int (f y.toNatClampNeg) :: vs, h, by simp only [pm_stepB]; rw [if_pos hq]; simp only [g1, if_true], hl, ⟨by rw [g2]; exact hf _ _ haa, s4⟩, hH⟩
            · cases hx
          · cases hx
        · cases hx
    · cases hx
  case laload =>
    refine ⟨rfl, ?_⟩
    obtain ⟨j, q, rr, t, n, f, rfl, hy, ht, hj, hsk, rfl, rfl, rfl, rfl, rfl⟩ := am_ald_ok hs hH hx
    have ht : t = 21 := ht.elim id id
    exact ⟨ls, f j.toNatClampNeg :: rr, h, by simp only [pm_stepB, hy]; rw [if_pos ⟨ht, hj⟩], hl, hsk, hH⟩
  case baload => cases hx
  case aaload =>
    refine ⟨rfl, ?_⟩
    obtain ⟨j, q, rr, t, n, f, rfl, hy, ht, hj, hsk, rfl, rfl, rfl, rfl, rfl⟩ := am_ald_ok hs hH hx
    exact ⟨ls, f j.toNatClampNeg :: rr, h, by simp only [pm_stepB, hy]; rw [if_pos ⟨ht, hj⟩], hl, hsk, hH⟩
  case iastore =>
    refine ⟨rfl, ?_⟩
    obtain ⟨v, j, q, r, n, F, a, rfl, ha, ha0, hy, hj, hsk, hH', rfl, rfl, rfl, rfl⟩ := am_ast_ok (g := fun v => v) (fun a v _ hv => hv) hs hH hx
    obtain ⟨x, rfl, _⟩ := ha.int ha0
    exact ⟨ls, _, _, by simp only [pm_stepB, hy, hj, and_self, if_true], hl, hsk, hH'⟩
  case lastore =>
    refine ⟨rfl, ?_⟩
    obtain ⟨v, j, q, r, n, F, a, rfl, ha, ha0, hy, hj, hsk, hH', rfl, rfl, rfl, rfl⟩ := am_ast_ok (g := fun v => v) (fun a v _ hv => hv) hs hH hx
    obtain ⟨x, rfl, _⟩ := ha.long ha0
    exact ⟨ls, _, _, by simp only [pm_stepB, hy, hj, and_self, if_true], hl, hsk, hH'⟩
  case bastore =>
    refine ⟨rfl, ?_⟩
    obtain ⟨v, j, q, r, n, F, a, rfl, ha, ha0, hy, hj, hsk, hH', rfl, rfl, rfl, rfl⟩ := am_ast_ok (g := fun v => match v with
      | .int x => .int (x &&& 1)
      | v => v) (fun a v h0 hv => by
        obtain ⟨x, rfl, hx⟩ := hv.int h0
        exact .ofI (am_and_tag _ _) (am_and_ok hx (am_c_ok 1))) hs hH hx
    obtain ⟨x, rfl, _⟩ := ha.int ha0
    exact ⟨ls, _, _, by simp only [pm_stepB, hy, hj, and_self, if_true], hl, hsk, hH'⟩
  case arraylength =>
    refine ⟨rfl, ?_⟩
    simp only [am_stepB] at hx; split at hx
    · next a r =>
      obtain ⟨h1, h2⟩ := am_cond hx
      obtain ⟨v, vs, rfl, s1, s2⟩ := hs.c
      obtain ⟨q, rfl, hq⟩ := s1.ref (am_bq h1)
      cases hc : am_ieq a.2.1 2000
      · rw [hc] at h2
        have hq2 : ¬ q = 2000 := by
          rintro rfl
          rw [am_ieq_iff.mpr (show a.2.1 = 2000 from hq)] at hc
          cases hc
        simp only [cond_false] at h2
        obtain ⟨h2b, h2⟩ := am_cond h2
        rw [hq, Int.toNat_natCast] at h2 h2b
        have hq9 : ¬ 2101 ≤ q := by have := am_blt h2b; omega
        split at h2
        · next t n d hlk =>
          obtain ⟨h3, h4⟩ := am_cond h2
          cases h4
          rw [Bool.and_eq_true, Bool.or_eq_true] at h3
          obtain ⟨⟨t', n', F⟩, hy, e1, e2, e3⟩ := hH.2 _ _ hlk
          dsimp only at e1 e2 e3
          subst e1 e2
          exact ⟨ls, .int (Int32.ofNat n') :: vs, h, by simp only [pm_stepB]; rw [if_neg hq2, if_neg hq9]; simp only [hy]; rw [if_pos (h3.1.imp am_bq am_bq)], hl, ⟨.ofI rfl (am_ofN h3.2), s2⟩, hH⟩
        · cases h2
      · rw [hc] at h2
        have hc := am_ieq_iff.mp hc
        have hq2 : q = 2000 := by omega
        simp only [cond_true] at h2
        split at h2
        · next x =>
          obtain ⟨h3, h4⟩ := am_cond h2
          cases h4
          obtain ⟨f, rfl, hf⟩ := hX _ rfl
          exact ⟨ls, .int (Int32.ofNat x.1) :: vs, h, by simp only [pm_stepB]; rw [if_pos hq2], hl, ⟨.ofI rfl (am_ofN h3), s2⟩, hH⟩
        · cases h2
    · cases hx
  case new j =>
    refine ⟨rfl, ?_⟩
    simp only [am_stepB] at hx; split at hx
    · next ci hn =>
      split at hx
      · next q hq =>
        obtain ⟨h1, h2⟩ := am_cond hx
        cases h2
        rw [Bool.and_eq_true, Bool.and_eq_true] at h1
        obtain ⟨p1, p2⟩ := am_new_ok hs hH (am_obj_ok (ρ := ρ) ci q.2.2)
        exact ⟨ls, .ref h.length :: st, h ++ [pm_obj ci q.2.2], by simp only [pm_stepB, hn, hq]; rw [if_pos ⟨Nat.le_of_ble_eq_true h1.1.1, Nat.le_of_ble_eq_true h1.1.2, by rw [hH.1]; exact am_blt h1.2⟩], hl, p1, p2⟩
      · cases hx
    · cases hx
  case newarray ty =>
    refine ⟨rfl, ?_⟩
    simp only [am_stepB] at hx; split at hx
    · next a r =>
      split at hx
      · next n hn =>
        obtain ⟨h1, h2⟩ := am_cond hx
        rw [Bool.and_eq_true, Bool.and_eq_true] at h1
        obtain ⟨v, vs, rfl, s1, s2⟩ := hs.c
        obtain ⟨x, rfl, g1, g2, g3, g4⟩ := am_ix_ok hn s1
        have hc : 0 ≤ x ∧ x.toNatClampNeg ≤ 100000 ∧ c + 1 ≤ pm_mc m ∧ k + x.toNatClampNeg ≤ pm_ms m ∧ h.length < 900 := ⟨g4, by omega, Nat.le_of_ble_eq_true h1.1.1, by rw [g2]; exact Nat.le_of_ble_eq_true h1.1.2, by rw [hH.1]; exact am_blt h1.2⟩
        cases ty <;> simp only at h2
        case int =>
          cases h2
          obtain ⟨p1, p2⟩ := am_new_ok s2 hH (am_mk_ok (t := 20) (n := n) (.ofI rfl (am_c_ok (ρ := ρ) 0)) (by decide))
          refine ⟨ls, .ref h.length :: vs, h ++ [pm_mk 20 n (.int 0)], by simp only [pm_stepB]; rw [if_pos hc, g2], hl, p1, p2⟩
        case long =>
          cases h2
          obtain ⟨p1, p2⟩ := am_new_ok s2 hH (am_mk_ok (t := 21) (n := n) (.ofJ rfl (am_j_ok (ρ := ρ) 0)) (by decide))
          refine ⟨ls, .ref h.length :: vs, h ++ [pm_mk 21 n (.long 0)], by simp only [pm_stepB]; rw [if_pos hc, g2], hl, p1, p2⟩
        case boolean =>
          cases h2
          obtain ⟨p1, p2⟩ := am_new_ok s2 hH (am_mk_ok (t := 22) (n := n) (.ofI rfl (am_c_ok (ρ := ρ) 0)) (by decide))
          refine ⟨ls, .ref h.length :: vs, h ++ [pm_mk 22 n (.int 0)], by simp only [pm_stepB]; rw [if_pos hc, g2], hl, p1, p2⟩
        all_goals cases h2
      · cases hx
    · cases hx
  case multianewarray j d =>
    refine ⟨rfl, ?_⟩
    simp only [am_stepB] at hx; split at hx
    · next a b r =>
      split at hx
      · next t k1 n1 ht hk hn =>
        obtain ⟨h1, h2⟩ := am_cond hx
        rw [Bool.and_eq_true, Bool.and_eq_true, Bool.and_eq_true, Bool.and_eq_true, Bool.or_eq_true] at h1
        cases h2
        obtain ⟨⟨⟨⟨q1, q2⟩, q3⟩, q4⟩, q5⟩ := h1
        obtain ⟨v, vs, rfl, s1, s2⟩ := hs.c
        obtain ⟨w, vs, rfl, s3, s4⟩ := s2.c
        obtain ⟨x, rfl, g1, g2, g3, g4⟩ := am_ix_ok hk s1
        obtain ⟨y, rfl, f1, f2, f3, f4⟩ := am_ix_ok hn s3
        have q1 := am_bq q1
        have q5 : t = 20 ∨ t = 21 := q5.imp am_bq am_bq
        have hc : d = 2 ∧ 0 ≤ y ∧ 0 ≤ x ∧ y.toNatClampNeg ≤ 1000 ∧ x.toNatClampNeg ≤ 1000 ∧ c + (1 + y.toNatClampNeg) ≤ pm_mc m ∧ k + (y.toNatClampNeg + y.toNatClampNeg * x.toNatClampNeg) ≤ pm_ms m ∧ h.length < 900 ∧ (t = 20 ∨ t = 21) := ⟨q1, f4, g4, by omega, by omega, by rw [f2]; exact Nat.le_of_ble_eq_true q2, by rw [f2, g2]; exact Nat.le_of_ble_eq_true q3, by rw [hH.1]; exact am_blt q4, q5⟩
        have hd : am_v ρ (cond (Nat.beq t 20) (am_c 0) (am_j 0)) (if t = 20 then .int 0 else .long 0) ∧ (cond (Nat.beq t 20) (am_c 0) (am_j 0)).1 ≠ 4 := by
          rcases q5 with rfl | rfl
          · exact ⟨.ofI rfl (am_c_ok 0), by decide⟩
          · exact ⟨.ofJ rfl (am_j_ok 0), by decide⟩
        refine ⟨ls, .ref h.length :: vs, h ++ (pm_rows (t + 3) n1 (h.length + 1) :: List.replicate n1 (pm_mk t k1 (if t = 20 then .int 0 else .long 0))), by simp only [pm_stepB, ht]; rw [if_pos hc, f2, g2], hl, ⟨.ofR rfl (by show ((ah.1 : Nat) : Int) = _; rw [hH.1]), s4⟩, hH.mna hd.1 hd.2⟩
      · cases hx
    · cases hx
  all_goals exact absurd hx (by simp [am_stepB])
end AMD
