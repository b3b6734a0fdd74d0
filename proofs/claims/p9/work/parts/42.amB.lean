/-! THE BOX MACHINE IS SOUND: steps without the heap -/
section AMB
variable {ρ : Nat → Int32} {F : aF} {m : Nat} {pc pc' : Nat} {als als' : aL} {ast ast' : List aV} {ls : pmL} {st : List Value} {hh : pmH} {c k : Nat}
def am_A (ρ : Nat → Int32) (m : Nat) (i : Instr) (pc : Nat) (ls : pmL) (st : List Value) (hh : pmH) (c k : Nat) (pc' : Nat) (als' : aL) (ast' : List aV) : Prop :=
  ∃ ls' st', pm_stepA m i pc ls st hh c k = some (pc', ls', st', hh, c, k) ∧ am_ls ρ als' ls' ∧ am_sk ρ ast' st'
theorem am_ld_ok {j t q : Nat} (hl : am_ls ρ als ls) (hs : am_sk ρ ast st) (h : am_ld als ast j t q = some (pc', als', ast')) : ∃ v a, pm_get ls j = some v ∧ a.1 = t ∧ am_v ρ a v ∧ pc' = q ∧ als' = als ∧ ast' = a :: ast := by
  unfold am_ld at h
  split at h
  · next a ha =>
    obtain ⟨h1, h2⟩ := am_cond h
    cases h2
    obtain ⟨v, h3, h4⟩ := am_look hl ha
    exact ⟨v, a, h3, am_bq h1, h4, rfl, rfl, rfl⟩
  · cases h
theorem am_blt {a b : Nat} (h : Nat.blt a b = true) : a < b := Nat.le_of_ble_eq_true h
theorem am_sto_ok {ml j t q : Nat} (hl : am_ls ρ als ls) (hs : am_sk ρ ast st) (h : am_sto ml als ast j t q = some (pc', als', ast')) : ∃ v vs a, st = v :: vs ∧ a.1 = t ∧ am_v ρ a v ∧ j < ml ∧ pc' = q ∧ am_ls ρ als' (pm_st1 ls j v) ∧ am_sk ρ ast' vs := by
  unfold am_sto at h
  split at h
  · next a r =>
    obtain ⟨h1, h2⟩ := am_cond h
    rw [Bool.and_eq_true] at h1
    cases h2
    obtain ⟨v, vs, rfl, h3, h4⟩ := hs.c
    exact ⟨v, vs, a, rfl, am_bq h1.1, h3, am_blt h1.2, rfl, am_st1_ok hl h3, h4⟩
  · cases h
theorem am_stl_ok {ml j q : Nat} (hl : am_ls ρ als ls) (hs : am_sk ρ ast st) (h : am_stl ml als ast j q = some (pc', als', ast')) : ∃ x vs, st = .long x :: vs ∧ j + 1 < ml ∧ pc' = q ∧ am_ls ρ als' (pm_st2 ls j (.long x)) ∧ am_sk ρ ast' vs := by
  unfold am_stl at h
  split at h
  · next a r =>
    obtain ⟨h1, h2⟩ := am_cond h
    rw [Bool.and_eq_true] at h1
    cases h2
    obtain ⟨v, vs, rfl, h3, h4⟩ := hs.c
    obtain ⟨x, rfl, _⟩ := h3.long (am_bq h1.1)
    exact ⟨x, vs, rfl, am_blt h1.2, rfl, am_st2_ok hl h3, h4⟩
  · cases h
theorem am_bin_ok {t u : Nat} {f : aV → aV → aV} (hs : am_sk ρ ast st) (h : am_bin als ast pc t u f = some (pc', als', ast')) : ∃ v w vs a b r, st = w :: v :: vs ∧ b.1 = t ∧ a.1 = u ∧ am_v ρ a v ∧ am_v ρ b w ∧ am_sk ρ r vs ∧ pc' = pc + 1 ∧ als' = als ∧ ast' = f a b :: r := by
  unfold am_bin at h
  split at h
  · next y x r =>
    obtain ⟨h1, h2⟩ := am_cond h
    rw [Bool.and_eq_true] at h1
    cases h2
    obtain ⟨w, vs, rfl, h3, h4⟩ := hs.c
    obtain ⟨v, vs, rfl, h5, h6⟩ := h4.c
    exact ⟨v, w, vs, x, y, r, rfl, am_bq h1.1, am_bq h1.2, h5, h3, h6, rfl, rfl, rfl⟩
  · cases h
theorem am_bII {f : aV → aV → aV} {g : Int32 → Int32 → Int32} {i : Instr} (hf : ∀ a b, a.1 = 0 → b.1 = 0 → (f a b).1 = 0) (hfg : ∀ a b x y, am_I ρ a x → am_I ρ b y → am_I ρ (f a b) (g x y)) (hg : ∀ x y r, pm_stepA m i pc ls (.int y :: .int x :: r) hh c k = some (pc + 1, ls, .int (g x y) :: r, hh, c, k)) (hl : am_ls ρ als ls) (hs : am_sk ρ ast st) (h : am_bin als ast pc 0 0 f = some (pc', als', ast')) : am_A ρ m i pc ls st hh c k pc' als' ast' := by
  obtain ⟨v, w, vs, a, b, r, rfl, hb, ha, hv, hw, hr, rfl, rfl, rfl⟩ := am_bin_ok hs h
  obtain ⟨x, rfl, hx⟩ := hv.int ha
  obtain ⟨y, rfl, hy⟩ := hw.int hb
  exact ⟨_, _, hg x y vs, hl, .ofI (hf a b ha hb) (hfg a b x y hx hy), hr⟩
theorem am_bJJ {f : aV → aV → aV} {g : Int64 → Int64 → Int64} {i : Instr} (hf : ∀ a b, (f a b).1 = 1) (hfg : ∀ a b x y, am_J ρ a x → am_J ρ b y → am_J ρ (f a b) (g x y)) (hg : ∀ x y r, pm_stepA m i pc ls (.long y :: .long x :: r) hh c k = some (pc + 1, ls, .long (g x y) :: r, hh, c, k)) (hl : am_ls ρ als ls) (hs : am_sk ρ ast st) (h : am_bin als ast pc 1 1 f = some (pc', als', ast')) : am_A ρ m i pc ls st hh c k pc' als' ast' := by
  obtain ⟨v, w, vs, a, b, r, rfl, hb, ha, hv, hw, hr, rfl, rfl, rfl⟩ := am_bin_ok hs h
  obtain ⟨x, rfl, hx⟩ := hv.long ha
  obtain ⟨y, rfl, hy⟩ := hw.long hb
  exact ⟨_, _, hg x y vs, hl, .ofJ (hf a b) (hfg a b x y hx hy), hr⟩
theorem am_bJI {f : aV → aV → aV} {g : Int64 → Int32 → Int64} {i : Instr} (hf : ∀ a b, (f a b).1 = 1) (hfg : ∀ a b x y, am_J ρ a x → am_I ρ b y → am_J ρ (f a b) (g x y)) (hg : ∀ x y r, pm_stepA m i pc ls (.int y :: .long x :: r) hh c k = some (pc + 1, ls, .long (g x y) :: r, hh, c, k)) (hl : am_ls ρ als ls) (hs : am_sk ρ ast st) (h : am_bin als ast pc 0 1 f = some (pc', als', ast')) : am_A ρ m i pc ls st hh c k pc' als' ast' := by
  obtain ⟨v, w, vs, a, b, r, rfl, hb, ha, hv, hw, hr, rfl, rfl, rfl⟩ := am_bin_ok hs h
  obtain ⟨x, rfl, hx⟩ := hv.long ha
  obtain ⟨y, rfl, hy⟩ := hw.int hb
  exact ⟨_, _, hg x y vs, hl, .ofJ (hf a b) (hfg a b x y hx hy), hr⟩
theorem am_br_ok {ob : Option Bool} {off : Int} {r : aS} (h : am_br ob pc off als ast = some r) : ∃ b t, ob = some b ∧ pm_tgt pc off = some t ∧ r = (cond b t (pc + 3), als, ast) := by
  unfold am_br at h
  split at h
  · next b t ht => exact ⟨b, t, rfl, ht, (Option.some.inj h).symm⟩
  · cases h
theorem am_not_ok {o : Option Bool} {b : Bool} (h : am_not o = some b) : o = some (!b) := by
  unfold am_not at h
  split at h
  · next b' => cases h; rw [Bool.not_not]
  · cases h
theorem am_brr {b' : Bool} {ob : Option Bool} {off : Int} {i : Instr} {r : List Value} (hl : am_ls ρ als ls) (hr : am_sk ρ ast r) (h : am_br ob pc off als ast = some (pc', als', ast')) (hb : ∀ b, ob = some b → b' = b) (hg : pm_stepA m i pc ls st hh c k = pm_br b' pc off ls r hh c k) : am_A ρ m i pc ls st hh c k pc' als' ast' := by
  obtain ⟨b, t, h1, h2, h3⟩ := am_br_ok h
  cases h3
  refine ⟨ls, r, ?_, hl, hr⟩
  rw [hg, hb b h1]
  unfold pm_br
  rw [h2]
theorem am_k2_tag (f : Int32 → Int32 → Int32) (a b : aV) : (am_k2 f a b).1 = 0 := by unfold am_k2; cases am_isc a && am_isc b <;> rfl
theorem am_l2_tag (f : Int64 → Int64 → Int64) (a b : aV) : (am_l2 f a b).1 = 1 := by unfold am_l2; cases am_isc a && am_isc b <;> rfl
theorem am_l3_tag (f : Int64 → Int32 → Int64) (a b : aV) : (am_l3 f a b).1 = 1 := by unfold am_l3; cases am_isc a && am_isc b <;> rfl
theorem am_add_tag (a b : aV) : (am_add a b).1 = 0 := by unfold am_add; cases am_in32 (a.2.1 + b.2.1) && am_in32 (a.2.2.1 + b.2.2.1) <;> rfl
theorem am_sub_tag (a b : aV) : (am_sub a b).1 = 0 := by unfold am_sub; cases am_in32 (a.2.1 - b.2.2.1) && am_in32 (a.2.2.1 - b.2.1) <;> rfl
theorem am_ne0 {a : aV} {y : Int32} (hy : am_I ρ a y) (h : (am_le 1 a.2.1 || am_le a.2.2.1 (-1)) = true) : ¬ y = 0 := by
  rw [Bool.or_eq_true, am_le_iff, am_le_iff] at h
  have h1 := hy.1; have h2 := hy.2.1
  rintro rfl
  have : (0 : Int32).toInt = 0 := rfl
  omega
theorem am_c0 : am_I ρ (am_c 0) 0 := am_c_ok 0
theorem am_le32 {x y : Int32} : decide (y ≤ x) = !decide (x < y) := by
  rw [← decide_not]
  exact decide_eq_decide.mpr Int32.not_lt.symm
theorem am_nq {x y : Int32} : decide (¬ x = y) = !decide (x = y) := decide_not
set_option maxHeartbeats 4000000 in
theorem am_stA (hF : am_Fo ρ F) {i : Instr} (hl : am_ls ρ als ls) (hs : am_sk ρ ast st) (h : am_stepA F (pm_maxL m) i pc als ast = some (pc', als', ast')) : am_A ρ m i pc ls st hh c k pc' als' ast' := by
  cases i
  case iconst n => simp only [am_stepA] at h; obtain ⟨h1, h2⟩ := am_cond h; cases h2; exact ⟨_, _, rfl, hl, .ofI rfl (am_c_of h1), hs⟩
  case bipush n =>
    simp only [am_stepA] at h; obtain ⟨h1, h2⟩ := am_cond h; cases h2
    rw [Bool.and_eq_true, am_le_iff, am_le_iff] at h1
    have e : (Int8.ofInt n).toInt32.toInt = n := by rw [Int8.toInt_toInt32]; exact Int8.toInt_ofInt_of_le h1.1 (by have := h1.2; omega)
    refine ⟨_, _, rfl, hl, .ofI rfl ?_, hs⟩
    have := am_c_ok (ρ := ρ) (Int8.ofInt n).toInt32
    rwa [e] at this
  case sipush n =>
    simp only [am_stepA] at h; obtain ⟨h1, h2⟩ := am_cond h; cases h2
    rw [Bool.and_eq_true, am_le_iff, am_le_iff] at h1
    have e : (Int16.ofInt n).toInt32.toInt = n := by rw [Int16.toInt_toInt32]; exact Int16.toInt_ofInt_of_le h1.1 (by have := h1.2; omega)
    refine ⟨_, _, rfl, hl, .ofI rfl ?_, hs⟩
    have := am_c_ok (ρ := ρ) (Int16.ofInt n).toInt32
    rwa [e] at this
  case lconst n =>
    simp only [am_stepA] at h; obtain ⟨h1, h2⟩ := am_cond h; cases h2
    have h1 := Nat.le_of_ble_eq_true h1
    refine ⟨_, _, rfl, hl, .ofJ rfl ?_, hs⟩
    have e : (Int64.ofNat n).toInt = (n : Nat) := by
      have : (n : Nat) = 0 ∨ (n : Nat) = 1 := by omega
      rcases this with z | z <;> (rw [z]; rfl)
    have := am_j_ok (ρ := ρ) (Int64.ofNat n)
    rwa [e] at this
  case iload_n j =>
    simp only [am_stepA] at h
    obtain ⟨v, a, h1, h2, h3, rfl, rfl, rfl⟩ := am_ld_ok hl hs h
    obtain ⟨x, rfl, hx⟩ := h3.int h2
    exact ⟨ls, .int x :: st, by simp only [pm_stepA, h1], hl, h3, hs⟩
  case iload j =>
    simp only [am_stepA] at h
    obtain ⟨v, a, h1, h2, h3, rfl, rfl, rfl⟩ := am_ld_ok hl hs h
    obtain ⟨x, rfl, hx⟩ := h3.int h2
    exact ⟨ls, .int x :: st, by simp only [pm_stepA, h1], hl, h3, hs⟩
  case lload_n j =>
    simp only [am_stepA] at h
    obtain ⟨v, a, h1, h2, h3, rfl, rfl, rfl⟩ := am_ld_ok hl hs h
    obtain ⟨x, rfl, hx⟩ := h3.long h2
    exact ⟨ls, .long x :: st, by simp only [pm_stepA, h1], hl, h3, hs⟩
  case lload j =>
    simp only [am_stepA] at h
    obtain ⟨v, a, h1, h2, h3, rfl, rfl, rfl⟩ := am_ld_ok hl hs h
    obtain ⟨x, rfl, hx⟩ := h3.long h2
    exact ⟨ls, .long x :: st, by simp only [pm_stepA, h1], hl, h3, hs⟩
  case aload_n j =>
    simp only [am_stepA] at h
    obtain ⟨v, a, h1, h2, h3, rfl, rfl, rfl⟩ := am_ld_ok hl hs h
    obtain ⟨x, rfl, hx⟩ := h3.ref h2
    exact ⟨ls, .ref x :: st, by simp only [pm_stepA, h1], hl, h3, hs⟩
  case aload j =>
    simp only [am_stepA] at h
    obtain ⟨v, a, h1, h2, h3, rfl, rfl, rfl⟩ := am_ld_ok hl hs h
    obtain ⟨x, rfl, hx⟩ := h3.ref h2
    exact ⟨ls, .ref x :: st, by simp only [pm_stepA, h1], hl, h3, hs⟩
  case istore_n j =>
    simp only [am_stepA] at h
    obtain ⟨v, vs, a, rfl, h2, h3, h4, rfl, h5, h6⟩ := am_sto_ok hl hs h
    obtain ⟨x, rfl, hx⟩ := h3.int h2
    exact ⟨_, _, by simp only [pm_stepA, if_pos h4], h5, h6⟩
  case istore j =>
    simp only [am_stepA] at h
    obtain ⟨v, vs, a, rfl, h2, h3, h4, rfl, h5, h6⟩ := am_sto_ok hl hs h
    obtain ⟨x, rfl, hx⟩ := h3.int h2
    exact ⟨_, _, by simp only [pm_stepA, if_pos h4], h5, h6⟩
  case lstore_n j =>
    simp only [am_stepA] at h
    obtain ⟨x, vs, rfl, h4, rfl, h5, h6⟩ := am_stl_ok hl hs h
    exact ⟨_, _, by simp only [pm_stepA, if_pos h4], h5, h6⟩
  case lstore j =>
    simp only [am_stepA] at h
    obtain ⟨x, vs, rfl, h4, rfl, h5, h6⟩ := am_stl_ok hl hs h
    exact ⟨_, _, by simp only [pm_stepA, if_pos h4], h5, h6⟩
  case astore_n j =>
    simp only [am_stepA] at h
    obtain ⟨v, vs, a, rfl, h2, h3, h4, rfl, h5, h6⟩ := am_sto_ok hl hs h
    obtain ⟨x, rfl, hx⟩ := h3.ref h2
    exact ⟨_, _, by simp only [pm_stepA, if_pos h4], h5, h6⟩
  case astore j =>
    simp only [am_stepA] at h
    obtain ⟨v, vs, a, rfl, h2, h3, h4, rfl, h5, h6⟩ := am_sto_ok hl hs h
    obtain ⟨x, rfl, hx⟩ := h3.ref h2
    exact ⟨_, _, by simp only [pm_stepA, if_pos h4], h5, h6⟩
  case iinc j n =>
    simp only [am_stepA] at h; split at h
    · next a ha =>
      obtain ⟨h1, h2⟩ := am_cond h
      cases h2
      rw [Bool.and_eq_true, Bool.and_eq_true] at h1
      obtain ⟨v, h3, h4⟩ := am_look hl ha
      obtain ⟨x, rfl, hx⟩ := h4.int (am_bq h1.1.1)
      have h3 : pm_get ls j = some (.int x) := h3
      exact ⟨_, _, by simp only [pm_stepA, h3, if_pos (am_blt h1.1.2)], am_st1_ok hl (.ofI (am_add_tag _ _) (am_add_ok hx (am_c_of h1.2))), hs⟩
    · cases h
  case dup =>
    simp only [am_stepA] at h; split at h
    · next a r =>
      obtain ⟨h1, h2⟩ := am_cond h
      cases h2
      obtain ⟨v, vs, rfl, h3, h4⟩ := hs.c
      rw [Bool.or_eq_true] at h1
      rcases h1 with h1 | h1
      · obtain ⟨x, rfl, hx⟩ := h3.int (am_bq h1)
        exact ⟨_, _, rfl, hl, h3, h3, h4⟩
      · obtain ⟨x, rfl, hx⟩ := h3.ref (am_bq h1)
        exact ⟨_, _, rfl, hl, h3, h3, h4⟩
    · cases h
  case dup2 =>
    simp only [am_stepA] at h; split at h
    · next a b r =>
      obtain ⟨h1, h2⟩ := am_cond h
      cases h2
      obtain ⟨v, vs, rfl, h3, h4⟩ := hs.c
      obtain ⟨w, vs, rfl, h5, h6⟩ := h4.c
      rw [Bool.and_eq_true] at h1
      obtain ⟨x, rfl, hx⟩ := h3.int (am_bq h1.1)
      obtain ⟨y, rfl, hy⟩ := h5.ref (am_bq h1.2)
      exact ⟨_, _, rfl, hl, h3, h5, h3, h5, h6⟩
    · cases h
  case iadd => exact am_bII (g := fun x y => x + y) (fun a b _ _ => am_add_tag a b) (fun a b x y => am_add_ok) (fun x y r => rfl) hl hs h
  case isub => exact am_bII (g := fun x y => x - y) (fun a b _ _ => am_sub_tag a b) (fun a b x y => am_sub_ok) (fun x y r => rfl) hl hs h
  case imul => exact am_bII (g := fun x y => x * y) (fun a b _ _ => am_k2_tag _ a b) (fun a b x y => am_k2_ok) (fun x y r => rfl) hl hs h
  case idiv =>
    simp only [am_stepA] at h; split at h
    · next y x r =>
      obtain ⟨h1, h2⟩ := am_cond h
      cases h2
      rw [Bool.and_eq_true, Bool.and_eq_true] at h1
      obtain ⟨v, vs, rfl, h3, h4⟩ := hs.c
      obtain ⟨w, vs, rfl, h5, h6⟩ := h4.c
      obtain ⟨y', rfl, hy⟩ := h3.int (am_bq h1.1.1)
      obtain ⟨x', rfl, hx⟩ := h5.int (am_bq h1.1.2)
      exact ⟨ls, .int (x' / y') :: vs, by simp only [pm_stepA, if_neg (am_ne0 hy h1.2)], hl, .ofI (am_k2_tag _ _ _) (am_k2_ok (f := fun x y => x / y) hx hy), h6⟩
    · cases h
  case irem =>
    simp only [am_stepA] at h; split at h
    · next y x r =>
      obtain ⟨h1, h2⟩ := am_cond h
      cases h2
      rw [Bool.and_eq_true, Bool.and_eq_true] at h1
      obtain ⟨v, vs, rfl, h3, h4⟩ := hs.c
      obtain ⟨w, vs, rfl, h5, h6⟩ := h4.c
      obtain ⟨y', rfl, hy⟩ := h3.int (am_bq h1.1.1)
      obtain ⟨x', rfl, hx⟩ := h5.int (am_bq h1.1.2)
      exact ⟨ls, .int (x' - x' / y' * y') :: vs, by simp only [pm_stepA, if_neg (am_ne0 hy h1.2)], hl, .ofI (am_k2_tag _ _ _) (am_k2_ok (f := fun x y => x - x / y * y) hx hy), h6⟩
    · cases h
  case iand => exact am_bII (g := fun x y => x &&& y) (fun a b _ _ => am_and_tag a b) (fun a b x y => am_and_ok) (fun x y r => rfl) hl hs h
  case ior => exact am_bII (g := fun x y => x ||| y) (fun a b _ _ => am_k2_tag _ a b) (fun a b x y => am_k2_ok) (fun x y r => rfl) hl hs h
  case ishl => exact am_bII (g := fun x y => x <<< (y &&& 31)) (fun a b _ _ => am_k2_tag _ a b) (fun a b x y => am_k2_ok) (fun x y r => rfl) hl hs h
  case ishr => exact am_bII (g := fun x y => x >>> (y &&& 31)) (fun a b _ _ => am_k2_tag _ a b) (fun a b x y => am_k2_ok) (fun x y r => rfl) hl hs h
  case iushr => exact am_bII (g := fun x y => (x.toUInt32 >>> (y.toUInt32 &&& Int32.toUInt32 31)).toInt32) (fun a b _ _ => am_k2_tag _ a b) (fun a b x y => am_k2_ok) (fun x y r => rfl) hl hs h
  case ladd => exact am_bJJ (g := fun x y => x + y) (fun a b => am_l2_tag _ a b) (fun a b x y => am_l2_ok) (fun x y r => rfl) hl hs h
  case lsub => exact am_bJJ (g := fun x y => x - y) (fun a b => am_l2_tag _ a b) (fun a b x y => am_l2_ok) (fun x y r => rfl) hl hs h
  case lmul => exact am_bJJ (g := fun x y => x * y) (fun a b => am_l2_tag _ a b) (fun a b x y => am_l2_ok) (fun x y r => rfl) hl hs h
  case land => exact am_bJJ (g := fun x y => x &&& y) (fun a b => am_l2_tag _ a b) (fun a b x y => am_l2_ok) (fun x y r => rfl) hl hs h
  case lor => exact am_bJJ (g := fun x y => x ||| y) (fun a b => am_l2_tag _ a b) (fun a b x y => am_l2_ok) (fun x y r => rfl) hl hs h
  case lxor => exact am_bJJ (g := fun x y => x ^^^ y) (fun a b => am_l2_tag _ a b) (fun a b x y => am_l2_ok) (fun x y r => rfl) hl hs h
  case lshl => exact am_bJI (g := fun x y => x <<< (y.toInt64 &&& 63)) (fun a b => am_l3_tag _ a b) (fun a b x y => am_l3_ok) (fun x y r => rfl) hl hs h
  case lshr => exact am_bJI (g := fun x y => x >>> (y.toInt64 &&& 63)) (fun a b => am_l3_tag _ a b) (fun a b x y => am_l3_ok) (fun x y r => rfl) hl hs h
  case lushr => exact am_bJI (g := fun x y => (x.toUInt64 >>> (y.toInt64.toUInt64 &&& Int64.toUInt64 63)).toInt64) (fun a b => am_l3_tag _ a b) (fun a b x y => am_l3_ok) (fun x y r => rfl) hl hs h
  case i2l =>
    simp only [am_stepA] at h; split at h
    · next a r =>
      obtain ⟨h1, h2⟩ := am_cond h
      cases h2
      obtain ⟨v, vs, rfl, h3, h4⟩ := hs.c
      obtain ⟨x, rfl, hx⟩ := h3.int (am_bq h1)
      refine ⟨_, _, rfl, hl, .ofJ rfl ⟨?_, ?_, ?_⟩, h4⟩
      · show a.2.1 ≤ _; rw [Int32.toInt_toInt64]; exact hx.1
      · show _ ≤ a.2.2.1; rw [Int32.toInt_toInt64]; exact hx.2.1
      · show (cond (am_ieq a.2.2.2.2 0) a.2.2.2.1 0) = 0 ∨ _
        cases ho : am_ieq a.2.2.2.2 0
        · exact Or.inl rfl
        · rcases hx.sym with z | z
          · exact Or.inl z
          · exact Or.inr ⟨rfl, by rw [Int32.toInt_toInt64]; exact z (am_ieq_iff.mp ho)⟩
    · cases h
  case l2i =>
    simp only [am_stepA] at h; split at h
    · next a r =>
      obtain ⟨h1, h2⟩ := am_cond h
      cases h2
      obtain ⟨v, vs, rfl, h3, h4⟩ := hs.c
      obtain ⟨x, rfl, hx⟩ := h3.long (am_bq h1)
      refine ⟨_, _, rfl, hl, ?_, h4⟩
      cases hc : am_isc a
      · exact .ofI rfl (am_top_ok _)
      · rw [hx.const hc]
        exact .ofI rfl (am_c_ok _)
    · cases h
  case lcmp =>
    simp only [am_stepA] at h
    obtain ⟨v, w, vs, a, b, r, rfl, hb, ha, hv, hw, hr, rfl, rfl, rfl⟩ := am_bin_ok hs h
    obtain ⟨x, rfl, hx⟩ := hv.long ha
    obtain ⟨y, rfl, hy⟩ := hw.long hb
    exact ⟨_, _, rfl, hl, .ofI rfl (am_lcmp_ok hF hx hy), hr⟩
  case goto off =>
    simp only [am_stepA] at h; split at h
    · next t ht => cases h; exact ⟨_, _, by simp only [pm_stepA, ht], hl, hs⟩
    · cases h
  case if_icmp cd off =>
    simp only [am_stepA] at h; split at h
    · next y x r =>
      obtain ⟨h1, h2⟩ := am_cond h
      rw [Bool.and_eq_true] at h1
      obtain ⟨v, vs, rfl, h3, h4⟩ := hs.c
      obtain ⟨w, vs, rfl, h5, h6⟩ := h4.c
      obtain ⟨y', rfl, hy⟩ := h3.int (am_bq h1.1)
      obtain ⟨x', rfl, hx⟩ := h5.int (am_bq h1.2)
      cases cd <;> simp only at h2
      case eq => exact am_brr (b' := decide (x' = y')) hl h6 h2 (fun b hb => am_eqI hF hx hy hb) rfl
      case ne => exact am_brr (b' := decide (¬ x' = y')) hl h6 h2 (fun b hb => by rw [am_nq, am_eqI hF hx hy (am_not_ok hb), Bool.not_not]) rfl
      case lt => exact am_brr (b' := decide (x' < y')) hl h6 h2 (fun b hb => am_ltI hF hx hy hb) rfl
      case ge => exact am_brr (b' := decide (y' ≤ x')) hl h6 h2 (fun b hb => by rw [am_le32, am_ltI hF hx hy (am_not_ok hb), Bool.not_not]) rfl
      case gt => exact am_brr (b' := decide (y' < x')) hl h6 h2 (fun b hb => am_ltI hF hy hx hb) rfl
      case le => exact am_brr (b' := decide (x' ≤ y')) hl h6 h2 (fun b hb => by rw [am_le32, am_ltI hF hy hx (am_not_ok hb), Bool.not_not]) rfl
    · cases h
  case ifCond cd off =>
    simp only [am_stepA] at h; split at h
    · next x r =>
      obtain ⟨h1, h2⟩ := am_cond h
      obtain ⟨w, vs, rfl, h5, h6⟩ := hs.c
      obtain ⟨x', rfl, hx⟩ := h5.int (am_bq h1)
      have hy := am_c0 (ρ := ρ)
      cases cd <;> simp only at h2
      case eq => exact am_brr (b' := decide (x' = 0)) hl h6 h2 (fun b hb => am_eqI hF hx hy hb) rfl
      case ne => exact am_brr (b' := decide (¬ x' = 0)) hl h6 h2 (fun b hb => by rw [am_nq, am_eqI hF hx hy (am_not_ok hb), Bool.not_not]) rfl
      case lt => exact am_brr (b' := decide (x' < 0)) hl h6 h2 (fun b hb => am_ltI hF hx hy hb) rfl
      case ge => exact am_brr (b' := decide (0 ≤ x')) hl h6 h2 (fun b hb => by rw [am_le32, am_ltI hF hx hy (am_not_ok hb), Bool.not_not]) rfl
      case gt => exact am_brr (b' := decide (0 < x')) hl h6 h2 (fun b hb => am_ltI hF hy hx hb) rfl
      case le => exact am_brr (b' := decide (x' ≤ 0)) hl h6 h2 (fun b hb => by rw [am_le32, am_ltI hF hy hx (am_not_ok hb), Bool.not_not]) rfl
    · cases h
  all_goals exact absurd h (by simp [am_stepA])
end AMB
