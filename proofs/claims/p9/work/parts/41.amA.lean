/-! THE BOX MACHINE IS SOUND, first half: numbers, locals, stack -/
def am_I (ρ : Nat → Int32) (a : aV) (x : Int32) : Prop := a.2.1 ≤ x.toInt ∧ x.toInt ≤ a.2.2.1 ∧ (a.2.2.2.1 = 0 ∨ x = ρ a.2.2.2.1 + Int32.ofInt a.2.2.2.2)
def am_J (ρ : Nat → Int32) (a : aV) (x : Int64) : Prop := a.2.1 ≤ x.toInt ∧ x.toInt ≤ a.2.2.1 ∧ (a.2.2.2.1 = 0 ∨ (a.2.2.2.2 = 0 ∧ x.toInt = (ρ a.2.2.2.1).toInt))
def am_v (ρ : Nat → Int32) (a : aV) (v : Value) : Prop := (a.1 = 0 ∧ ∃ x, v = .int x ∧ am_I ρ a x) ∨ (a.1 = 1 ∧ ∃ x, v = .long x ∧ am_J ρ a x) ∨ (a.1 = 2 ∧ ∃ n : Nat, v = .ref n ∧ a.2.1 = (n : Int)) ∨ (a.1 = 3 ∧ v = .null)
def am_all {α β : Type} (R : α → β → Prop) : List α → List β → Prop
  | [], [] => True
  | a :: as, b :: bs => R a b ∧ am_all R as bs
  | [], _ :: _ => False
  | _ :: _, [] => False
abbrev am_ls (ρ : Nat → Int32) (a : aL) (l : pmL) : Prop := am_all (fun p q => p.1 = q.1 ∧ am_v ρ p.2 q.2) a l
abbrev am_sk (ρ : Nat → Int32) (a : List aV) (l : List Value) : Prop := am_all (am_v ρ) a l
def am_Fo (ρ : Nat → Int32) (F : aF) : Prop := ∀ e ∈ F, (e.1 = 0 → (e.2.2.2 = true ↔ ρ e.2.1 = ρ e.2.2.1)) ∧ (e.1 = 1 → (e.2.2.2 = true ↔ (ρ e.2.1).toInt < (ρ e.2.2.1).toInt))
theorem am_le_iff {a b : Int} : am_le a b = true ↔ a ≤ b := match a, b with
  | .ofNat x, .ofNat y => by show Nat.ble x y = true ↔ (x : Int) ≤ (y : Int); rw [Nat.ble_eq]; omega
  | .negSucc x, .ofNat y => ⟨fun _ => by show Int.negSucc x ≤ (y : Int); omega, fun _ => rfl⟩
  | .ofNat x, .negSucc y => ⟨fun h => (by cases h), fun h => by have h : (x : Int) ≤ Int.negSucc y := h; omega⟩
  | .negSucc x, .negSucc y => by show Nat.ble y x = true ↔ Int.negSucc x ≤ Int.negSucc y; rw [Nat.ble_eq]; omega
theorem am_ieq_iff {a b : Int} : am_ieq a b = true ↔ a = b := by
  simp only [am_ieq, Bool.and_eq_true, am_le_iff]; omega
theorem am_in32_iff {n : Int} : am_in32 n = true ↔ -2147483648 ≤ n ∧ n ≤ 2147483647 := by
  simp only [am_in32, Bool.and_eq_true, am_le_iff]
theorem am_isc_iff {a : aV} : am_isc a = true ↔ a.2.1 = a.2.2.1 := am_ieq_iff
theorem am_cond {α : Type} {b : Bool} {x : Option α} {r : α} (h : cond b x none = some r) : b = true ∧ x = some r := by
  cases b
  · cases h
  · exact ⟨rfl, h⟩
theorem am_bq {a b : Nat} (h : Nat.beq a b = true) : a = b := Nat.eq_of_beq_eq_true h
theorem am_lo32 (x : Int32) : -2147483648 ≤ x.toInt := x.le_toInt
theorem am_hi32 (x : Int32) : x.toInt ≤ 2147483647 := by have := x.toInt_lt; omega
theorem am_lo64 (x : Int64) : -9223372036854775808 ≤ x.toInt := x.le_toInt
theorem am_hi64 (x : Int64) : x.toInt ≤ 9223372036854775807 := by have := x.toInt_lt; omega
theorem am_of32 {n : Int} (h : -2147483648 ≤ n ∧ n ≤ 2147483647) : (Int32.ofInt n).toInt = n := Int32.toInt_ofInt_of_le h.1 (by have := h.2; omega)
section AMA
variable {ρ : Nat → Int32} {F : aF}
theorem am_v.int {a : aV} {v : Value} (h : am_v ρ a v) (t : a.1 = 0) : ∃ x, v = .int x ∧ am_I ρ a x := by
  rcases h with ⟨_, h⟩ | ⟨h, _⟩ | ⟨h, _⟩ | ⟨h, _⟩
  · exact h
  all_goals omega
theorem am_v.long {a : aV} {v : Value} (h : am_v ρ a v) (t : a.1 = 1) : ∃ x, v = .long x ∧ am_J ρ a x := by
  rcases h with ⟨h, _⟩ | ⟨_, h⟩ | ⟨h, _⟩ | ⟨h, _⟩
  · omega
  · exact h
  all_goals omega
theorem am_v.ref {a : aV} {v : Value} (h : am_v ρ a v) (t : a.1 = 2) : ∃ n : Nat, v = .ref n ∧ a.2.1 = (n : Int) := by
  rcases h with ⟨h, _⟩ | ⟨h, _⟩ | ⟨_, h⟩ | ⟨h, _⟩
  · omega
  · omega
  · exact h
  · omega
theorem am_v.ofI {a : aV} {x : Int32} (t : a.1 = 0) (h : am_I ρ a x) : am_v ρ a (.int x) := Or.inl ⟨t, x, rfl, h⟩
theorem am_v.ofJ {a : aV} {x : Int64} (t : a.1 = 1) (h : am_J ρ a x) : am_v ρ a (.long x) := Or.inr (Or.inl ⟨t, x, rfl, h⟩)
theorem am_v.ofR {a : aV} {n : Nat} (t : a.1 = 2) (h : a.2.1 = (n : Int)) : am_v ρ a (.ref n) := Or.inr (Or.inr (Or.inl ⟨t, n, rfl, h⟩))
theorem am_v.cat {a : aV} {v : Value} (h : am_v ρ a v) : v.category = am_cat a := by
  obtain ⟨t, r⟩ := a
  rcases h with ⟨h, x, rfl, _⟩ | ⟨h, x, rfl, _⟩ | ⟨h, x, rfl, _⟩ | ⟨h, rfl⟩ <;> (dsimp only at h; subst h; rfl)
theorem am_all.c {α β : Type} {R : α → β → Prop} {a : α} {as : List α} {l : List β} (h : am_all R (a :: as) l) : ∃ v vs, l = v :: vs ∧ R a v ∧ am_all R as vs := by
  cases l with
  | nil => exact h.elim
  | cons v vs => exact ⟨v, vs, rfl, h.1, h.2⟩
theorem am_all.n {α β : Type} {R : α → β → Prop} {l : List β} (h : am_all R [] l) : l = [] := by
  cases l with
  | nil => rfl
  | cons v vs => exact h.elim
theorem am_all.len {α β : Type} {R : α → β → Prop} : ∀ {a : List α} {l : List β}, am_all R a l → a.length = l.length
  | [], [], _ => rfl
  | _ :: _, _ :: _, h => by rw [List.length_cons, List.length_cons, h.2.len]
  | [], _ :: _, h => h.elim
  | _ :: _, [], h => h.elim
theorem am_all.app {α β : Type} {R : α → β → Prop} : ∀ {a a2 : List α} {l l2 : List β}, am_all R a l → am_all R a2 l2 → am_all R (a ++ a2) (l ++ l2)
  | [], _, [], _, _, h2 => h2
  | _ :: _, _, _ :: _, _, h, h2 => ⟨h.1, h.2.app h2⟩
  | [], _, _ :: _, _, h, _ => h.elim
  | _ :: _, _, [], _, h, _ => h.elim
theorem am_all.rev {α β : Type} {R : α → β → Prop} : ∀ {a : List α} {l : List β}, am_all R a l → am_all R a.reverse l.reverse
  | [], [], _ => trivial
  | a :: as, b :: bs, h => by
    rw [List.reverse_cons, List.reverse_cons]
    exact h.2.rev.app ⟨h.1, trivial⟩
  | [], _ :: _, h => h.elim
  | _ :: _, [], h => h.elim
theorem am_all.take {α β : Type} {R : α → β → Prop} : ∀ {a : List α} {l : List β} (n : Nat), am_all R a l → am_all R (a.take n) (l.take n)
  | _, _, 0, _ => trivial
  | [], [], _ + 1, _ => trivial
  | _ :: _, _ :: _, n + 1, h => ⟨h.1, h.2.take n⟩
  | [], _ :: _, _ + 1, h => h.elim
  | _ :: _, [], _ + 1, h => h.elim
theorem am_all.drop {α β : Type} {R : α → β → Prop} : ∀ {a : List α} {l : List β} (n : Nat), am_all R a l → am_all R (a.drop n) (l.drop n)
  | _, _, 0, h => h
  | [], [], _ + 1, _ => trivial
  | _ :: _, _ :: _, n + 1, h => h.2.drop n
  | [], _ :: _, _ + 1, h => h.elim
  | _ :: _, [], _ + 1, h => h.elim
theorem am_cats : ∀ {a : List aV} {l : List Value}, am_sk ρ a l → (l.map fun v => v.category) = a.map am_cat
  | [], [], _ => rfl
  | _ :: _, _ :: _, h => by rw [List.map_cons, List.map_cons, h.1.cat, am_cats h.2]
  | [], _ :: _, h => h.elim
  | _ :: _, [], h => h.elim
theorem am_look {j : Nat} {x : aV} : ∀ {a : aL} {l : pmL}, am_ls ρ a l → pm_look a j = some x → ∃ v, pm_look l j = some v ∧ am_v ρ x v
  | [], [], _, h => by simp [pm_look] at h
  | (i, y) :: as, (i2, w) :: bs, hl, h => by
    obtain ⟨⟨h1, h2⟩, h3⟩ := hl
    dsimp only at h1 h2
    subst h1
    unfold pm_look at h ⊢
    split at h
    · next e => cases h; rw [if_pos e]; exact ⟨w, rfl, h2⟩
    · next e => rw [if_neg e]; exact am_look h3 h
  | [], _ :: _, h, _ => h.elim
  | _ :: _, [], h, _ => h.elim
theorem am_filter {f : Nat × aV → Bool} {g : Nat × Value → Bool} (hfg : ∀ p q, p.1 = q.1 ∧ am_v ρ p.2 q.2 → f p = g q) : ∀ {a : aL} {l : pmL}, am_ls ρ a l → am_ls ρ (a.filter f) (l.filter g)
  | [], [], _ => trivial
  | p :: as, q :: bs, h => by
    rw [List.filter_cons, List.filter_cons, hfg p q h.1]
    split
    · exact ⟨h.1, am_filter hfg h.2⟩
    · exact am_filter hfg h.2
  | [], _ :: _, h => h.elim
  | _ :: _, [], h => h.elim
theorem am_st1_ok {a : aL} {l : pmL} {i : Nat} {x : aV} {v : Value} (hl : am_ls ρ a l) (hv : am_v ρ x v) : am_ls ρ (am_st1 a i x) (pm_st1 l i v) :=
  ⟨⟨rfl, hv⟩, am_filter (fun p q h => by rw [h.1, h.2.cat]) hl⟩
theorem am_st2_ok {a : aL} {l : pmL} {i : Nat} {x : aV} {v : Value} (hl : am_ls ρ a l) (hv : am_v ρ x v) : am_ls ρ (am_st2 a i x) (pm_st2 l i v) :=
  ⟨⟨rfl, hv⟩, am_filter (fun p q h => by rw [h.1, h.2.cat]) hl⟩
/-! numbers -/
theorem am_I.const {a : aV} {x : Int32} (h : am_I ρ a x) (hc : am_isc a = true) : x = Int32.ofInt a.2.1 := by
  have := am_isc_iff.mp hc
  have h1 : x.toInt = a.2.1 := by have := h.1; have := h.2.1; omega
  rw [← h1, Int32.ofInt_toInt]
theorem am_J.const {a : aV} {x : Int64} (h : am_J ρ a x) (hc : am_isc a = true) : x = Int64.ofInt a.2.1 := by
  have := am_isc_iff.mp hc
  have h1 : x.toInt = a.2.1 := by have := h.1; have := h.2.1; omega
  rw [← h1, Int64.ofInt_toInt]
theorem am_c_ok (x : Int32) : am_I ρ (am_c x.toInt) x := ⟨Int.le_refl _, Int.le_refl _, Or.inl rfl⟩
theorem am_c_of {n : Int} (h : am_in32 n = true) : am_I ρ (am_c n) (Int32.ofInt n) := by
  have := am_of32 (am_in32_iff.mp h)
  refine ⟨?_, ?_, Or.inl rfl⟩ <;> (show _ ≤ _; rw [this]; exact Int.le_refl _)
theorem am_j_ok (x : Int64) : am_J ρ (am_j x.toInt) x := ⟨Int.le_refl _, Int.le_refl _, Or.inl rfl⟩
theorem am_top_ok (x : Int32) : am_I ρ am_top x := ⟨am_lo32 x, am_hi32 x, Or.inl rfl⟩
theorem am_ltop_ok (x : Int64) : am_J ρ am_ltop x := ⟨am_lo64 x, am_hi64 x, Or.inl rfl⟩
theorem am_ids_ok {a b : aV} {x y : Int32} (hx : am_I ρ a x) (hy : am_I ρ b y) : (am_ids a b).1 = 0 ∨ x + y = ρ (am_ids a b).1 + Int32.ofInt (am_ids a b).2 := by
  unfold am_ids
  cases hb : am_isc b
  · cases ha : am_isc a
    · exact Or.inl rfl
    · rcases hy.2.2 with h | h
      · exact Or.inl h
      · right
        rw [hx.const ha]
        show Int32.ofInt a.2.1 + y = ρ b.2.2.2.1 + Int32.ofInt (b.2.2.2.2 + a.2.1)
        rw [Int32.ofInt_add, ← Int32.add_assoc, ← h, Int32.add_comm]
  · rcases hx.2.2 with h | h
    · exact Or.inl h
    · right
      rw [hy.const hb]
      show x + Int32.ofInt b.2.1 = ρ a.2.2.2.1 + Int32.ofInt (a.2.2.2.2 + b.2.1)
      rw [Int32.ofInt_add, ← Int32.add_assoc, ← h]
theorem am_add_ok {a b : aV} {x y : Int32} (hx : am_I ρ a x) (hy : am_I ρ b y) : am_I ρ (am_add a b) (x + y) := by
  have hid := am_ids_ok hx hy
  unfold am_add
  cases hc : am_in32 (a.2.1 + b.2.1) && am_in32 (a.2.2.1 + b.2.2.1)
  · exact ⟨am_lo32 _, am_hi32 _, hid⟩
  · rw [Bool.and_eq_true, am_in32_iff, am_in32_iff] at hc
    have h1 := hx.1; have h2 := hx.2.1; have h3 := hy.1; have h4 := hy.2.1
    have he : (x + y).toInt = x.toInt + y.toInt := by
      rw [Int32.toInt_add]
      exact Int.bmod_eq_of_le (by omega) (by omega)
    exact ⟨by show a.2.1 + b.2.1 ≤ _; omega, by show _ ≤ a.2.2.1 + b.2.2.1; omega, hid⟩
theorem am_sub_ok {a b : aV} {x y : Int32} (hx : am_I ρ a x) (hy : am_I ρ b y) : am_I ρ (am_sub a b) (x - y) := by
  unfold am_sub
  cases hc : am_in32 (a.2.1 - b.2.2.1) && am_in32 (a.2.2.1 - b.2.1)
  · exact am_top_ok _
  · rw [Bool.and_eq_true, am_in32_iff, am_in32_iff] at hc
    have h1 := hx.1; have h2 := hx.2.1; have h3 := hy.1; have h4 := hy.2.1
    have he : (x - y).toInt = x.toInt - y.toInt := by
      rw [Int32.toInt_sub]
      exact Int.bmod_eq_of_le (by omega) (by omega)
    exact ⟨by show a.2.1 - b.2.2.1 ≤ _; omega, by show _ ≤ a.2.2.1 - b.2.1; omega, Or.inl rfl⟩
theorem am_k2_ok {f : Int32 → Int32 → Int32} {a b : aV} {x y : Int32} (hx : am_I ρ a x) (hy : am_I ρ b y) : am_I ρ (am_k2 f a b) (f x y) := by
  unfold am_k2
  cases hc : am_isc a && am_isc b
  · exact am_top_ok _
  · rw [Bool.and_eq_true] at hc
    rw [hx.const hc.1, hy.const hc.2]
    exact am_c_ok _
theorem am_l2_ok {f : Int64 → Int64 → Int64} {a b : aV} {x y : Int64} (hx : am_J ρ a x) (hy : am_J ρ b y) : am_J ρ (am_l2 f a b) (f x y) := by
  unfold am_l2
  cases hc : am_isc a && am_isc b
  · exact am_ltop_ok _
  · rw [Bool.and_eq_true] at hc
    rw [hx.const hc.1, hy.const hc.2]
    exact am_j_ok _
theorem am_l3_ok {f : Int64 → Int32 → Int64} {a b : aV} {x : Int64} {y : Int32} (hx : am_J ρ a x) (hy : am_I ρ b y) : am_J ρ (am_l3 f a b) (f x y) := by
  unfold am_l3
  cases hc : am_isc a && am_isc b
  · exact am_ltop_ok _
  · rw [Bool.and_eq_true] at hc
    rw [hx.const hc.1, hy.const hc.2]
    exact am_j_ok _
theorem am_and_le {x y : Int32} (h : 0 ≤ y.toInt) : 0 ≤ (x &&& y).toInt ∧ (x &&& y).toInt ≤ y.toInt := by
  have e : ∀ z : Int32, z.toInt = z.toBitVec.toInt := fun z => rfl
  rw [e y] at h
  rw [e y, e (x &&& y), Int32.toBitVec_and]
  have hy : y.toBitVec.toInt = y.toBitVec.toNat := by
    rw [BitVec.toInt_eq_toNat_cond] at h ⊢
    have := y.toBitVec.isLt
    split
    · rfl
    · next hn => rw [if_neg hn] at h; omega
  have hle : (x.toBitVec &&& y.toBitVec).toNat ≤ y.toBitVec.toNat := by rw [BitVec.toNat_and]; exact Nat.and_le_right
  have hz : (x.toBitVec &&& y.toBitVec).toInt = (x.toBitVec &&& y.toBitVec).toNat := by
    rw [BitVec.toInt_eq_toNat_cond, if_pos]
    rw [BitVec.toInt_eq_toNat_cond] at hy
    have := y.toBitVec.isLt
    split at hy
    · omega
    · omega
  rw [hy, hz]
  omega
theorem am_and_ok {a b : aV} {x y : Int32} (hx : am_I ρ a x) (hy : am_I ρ b y) : am_I ρ (am_and a b) (x &&& y) := by
  unfold am_and
  cases hc : am_isc b && am_le 0 b.2.1 && !(am_isc a)
  · exact am_k2_ok (f := fun x y => x &&& y) hx hy
  · rw [Bool.and_eq_true, Bool.and_eq_true, am_le_iff] at hc
    have hb := am_isc_iff.mp hc.1.1
    have h1 := hy.1; have h2 := hy.2.1
    have := am_and_le (x := x) (y := y) (by omega)
    exact ⟨this.1, by show _ ≤ b.2.1; omega, Or.inl rfl⟩
theorem am_and_tag (a b : aV) : (am_and a b).1 = 0 := by
  unfold am_and am_k2
  cases am_isc b && am_le 0 b.2.1 && !(am_isc a)
  · cases am_isc a && am_isc b <;> rfl
  · rfl
theorem am_fact_ok {r i j : Nat} {t : Bool} : ∀ {F : aF}, am_Fo ρ F → am_fact F r i j = some t → (r, i, j, t) ∈ F
  | [], _, h => by simp [am_fact] at h
  | (r', i', j', t') :: G, hF, h => by
    unfold am_fact at h
    cases hc : Nat.beq r r' && Nat.beq i i' && Nat.beq j j'
    · rw [hc] at h
      exact List.mem_cons_of_mem _ (am_fact_ok (fun e he => hF e (List.mem_cons_of_mem _ he)) h)
    · rw [hc] at h
      rw [Bool.and_eq_true, Bool.and_eq_true] at hc
      cases h
      rw [am_bq hc.1.1, am_bq hc.1.2, am_bq hc.2]
      exact List.mem_cons_self
theorem am_lt_ok (hF : am_Fo ρ F) {a b : aV} {X Y : Int} {t : Bool} (h1 : a.2.1 ≤ X ∧ X ≤ a.2.2.1) (h2 : b.2.1 ≤ Y ∧ Y ≤ b.2.2.1) (h3 : a.2.2.2.1 = 0 ∨ (a.2.2.2.2 = 0 → X = (ρ a.2.2.2.1).toInt)) (h4 : b.2.2.2.1 = 0 ∨ (b.2.2.2.2 = 0 → Y = (ρ b.2.2.2.1).toInt)) (h : am_lt F a b = some t) : t = true ↔ X < Y := by
  unfold am_lt at h
  cases hc : am_le (a.2.2.1 + 1) b.2.1
  · rw [hc] at h
    cases hd : am_le b.2.2.1 a.2.1
    · rw [hd] at h
      cases he : (Nat.beq a.2.2.2.1 0 || Nat.beq b.2.2.2.1 0 || !(am_ieq a.2.2.2.2 0) || !(am_ieq b.2.2.2.2 0))
      · rw [he] at h
        simp only [Bool.or_eq_false_iff, Bool.not_eq_false', am_ieq_iff] at he
        obtain ⟨⟨⟨e1, e2⟩, e3⟩, e4⟩ := he
        have e1 : a.2.2.2.1 ≠ 0 := fun z => by rw [z] at e1; cases e1
        have e2 : b.2.2.2.1 ≠ 0 := fun z => by rw [z] at e2; cases e2
        have hm := (hF _ (am_fact_ok hF h)).2 rfl
        dsimp only at hm
        rw [hm, h3.resolve_left e1 e3, h4.resolve_left e2 e4]
      · rw [he] at h
        cases h
    · rw [hd] at h
      cases h
      rw [am_le_iff] at hd
      constructor
      · intro z; cases z
      · intro z; omega
  · rw [hc] at h
    cases h
    rw [am_le_iff] at hc
    constructor
    · intro _; omega
    · intro _; rfl
theorem am_ofInt0 : Int32.ofInt 0 = 0 := rfl
theorem am_I.sym {a : aV} {x : Int32} (h : am_I ρ a x) : a.2.2.2.1 = 0 ∨ (a.2.2.2.2 = 0 → x.toInt = (ρ a.2.2.2.1).toInt) := by
  rcases h.2.2 with h | h
  · exact Or.inl h
  · refine Or.inr (fun z => ?_)
    rw [h, z, am_ofInt0, Int32.add_zero]
theorem am_J.sym {a : aV} {x : Int64} (h : am_J ρ a x) : a.2.2.2.1 = 0 ∨ (a.2.2.2.2 = 0 → x.toInt = (ρ a.2.2.2.1).toInt) := by
  rcases h.2.2 with h | h
  · exact Or.inl h
  · exact Or.inr (fun _ => h.2)
theorem am_ltI (hF : am_Fo ρ F) {a b : aV} {x y : Int32} {t : Bool} (hx : am_I ρ a x) (hy : am_I ρ b y) (h : am_lt F a b = some t) : decide (x < y) = t := by
  have := am_lt_ok hF ⟨hx.1, hx.2.1⟩ ⟨hy.1, hy.2.1⟩ hx.sym hy.sym h
  rw [← Int32.lt_iff_toInt_lt] at this
  cases t
  · exact decide_eq_false (fun z => by have := this.mpr z; cases this)
  · exact decide_eq_true (this.mp rfl)
theorem am_eqI (hF : am_Fo ρ F) {a b : aV} {x y : Int32} {t : Bool} (hx : am_I ρ a x) (hy : am_I ρ b y) (h : am_eq F a b = some t) : decide (x = y) = t := by
  have h1 := hx.1; have h2 := hx.2.1; have h3 := hy.1; have h4 := hy.2.1
  unfold am_eq at h
  cases hc : am_isc a && am_isc b && am_ieq a.2.1 b.2.1
  · rw [hc] at h
    cases hd : am_le (a.2.2.1 + 1) b.2.1 || am_le (b.2.2.1 + 1) a.2.1
    · rw [hd] at h
      cases he : Nat.beq a.2.2.2.1 0 || Nat.beq b.2.2.2.1 0
      · rw [he] at h
        rw [Bool.or_eq_false_iff] at he
        have e1 : a.2.2.2.1 ≠ 0 := fun z => by rw [z] at he; cases he.1
        have e2 : b.2.2.2.1 ≠ 0 := fun z => by rw [z] at he; cases he.2
        cases hg : Nat.beq a.2.2.2.1 b.2.2.2.1 && am_ieq a.2.2.2.2 b.2.2.2.2
        · rw [hg] at h
          obtain ⟨g1, g2⟩ := am_cond h
          rw [Bool.and_eq_true, am_ieq_iff, am_ieq_iff] at g1
          have hm := (hF _ (am_fact_ok hF g2)).1 rfl
          dsimp only at hm
          have q1 := hx.2.2.resolve_left e1
          have q2 := hy.2.2.resolve_left e2
          rw [g1.1, am_ofInt0, Int32.add_zero] at q1
          rw [g1.2, am_ofInt0, Int32.add_zero] at q2
          rw [← q1, ← q2] at hm
          cases t
          · exact decide_eq_false (fun z => by have := hm.mpr z; cases this)
          · exact decide_eq_true (hm.mp rfl)
        · rw [hg] at h
          rw [Bool.and_eq_true, am_ieq_iff] at hg
          cases h
          refine decide_eq_true ?_
          rw [hx.2.2.resolve_left e1, hy.2.2.resolve_left e2, am_bq hg.1, hg.2]
      · rw [he] at h
        cases h
    · rw [hd] at h
      cases h
      rw [Bool.or_eq_true, am_le_iff, am_le_iff] at hd
      refine decide_eq_false (fun z => ?_)
      subst z
      omega
  · rw [hc] at h
    cases h
    rw [Bool.and_eq_true, Bool.and_eq_true, am_ieq_iff] at hc
    refine decide_eq_true ?_
    rw [hx.const hc.1.1, hy.const hc.1.2, hc.2]
theorem am_lcmp_ok (hF : am_Fo ρ F) {a b : aV} {x y : Int64} (hx : am_J ρ a x) (hy : am_J ρ b y) : am_I ρ (am_lcmp F a b) (lg_cmp x y) := by
  have L : ∀ t, am_lt F a b = some t → (t = true ↔ x.toInt < y.toInt) := fun t h => am_lt_ok hF ⟨hx.1, hx.2.1⟩ ⟨hy.1, hy.2.1⟩ hx.sym hy.sym h
  have G : ∀ t, am_lt F b a = some t → (t = true ↔ y.toInt < x.toInt) := fun t h => am_lt_ok hF ⟨hy.1, hy.2.1⟩ ⟨hx.1, hx.2.1⟩ hy.sym hx.sym h
  have hv : (lg_cmp x y).toInt = if y.toInt < x.toInt then 1 else if x.toInt = y.toInt then 0 else -1 := by
    unfold lg_cmp
    simp only [gt_iff_lt, Int64.lt_iff_toInt_lt, ← Int64.toInt_inj]
    split
    · rfl
    · split <;> rfl
  have L1 : am_lt F a b = some true → x.toInt < y.toInt := fun h => (L _ h).mp rfl
  have L0 : am_lt F a b = some false → ¬ x.toInt < y.toInt := fun h z => Bool.noConfusion ((L _ h).mpr z)
  have G1 : am_lt F b a = some true → y.toInt < x.toInt := fun h => (G _ h).mp rfl
  have G0 : am_lt F b a = some false → ¬ y.toInt < x.toInt := fun h z => Bool.noConfusion ((G _ h).mpr z)
  unfold am_lcmp am_I
  rw [hv]
  refine ⟨?_, ?_, Or.inl rfl⟩ <;> dsimp only
  · rcases ha : am_lt F a b with _ | _ | _ <;> rcases hb : am_lt F b a with _ | _ | _ <;> dsimp only <;> (try have l1 := L1 ha) <;> (try have l0 := L0 ha) <;> (try have g1 := G1 hb) <;> (try have g0 := G0 hb) <;> (repeat' split) <;> omega
  · rcases ha : am_lt F a b with _ | _ | _ <;> rcases hb : am_lt F b a with _ | _ | _ <;> dsimp only <;> (try have l1 := L1 ha) <;> (try have l0 := L0 ha) <;> (try have g1 := G1 hb) <;> (try have g0 := G0 hb) <;> (repeat' split) <;> omega
end AMA
