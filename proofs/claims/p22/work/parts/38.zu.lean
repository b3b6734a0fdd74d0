/-! met: pictures that an ask is true of -/
section XDN
variable {X : pmX} {m pc : Nat} {ls : pmL} {r : List Value} {s : xS} {c k : Nat} {P : xS → Option Value → Prop} {len : Nat} {a b : Int}
theorem dn_min : Int32.minValue.toInt = -2147483648 := by decide
theorem dn_max : Int32.maxValue.toInt = 2147483647 := by decide
theorem dn_div (ha : 0 ≤ a ∧ a ≤ 2147483647) (hb : 0 < b ∧ b ≤ 2147483647) : Int32.ofInt a / Int32.ofInt b = Int32.ofInt (a / b) := by
  have h1 := dn_min
  have h2 := dn_max
  rw [← Int.tdiv_eq_ediv_of_nonneg ha.1, Int32.ofInt_tdiv (by omega) (by omega) (by omega) (by omega)]
theorem x_idiv_n (hk : pm_look (pm_kl m) pc = some (.idiv, len)) (ha : 0 ≤ a ∧ a ≤ 2147483647) (hb : 0 < b ∧ b ≤ 2147483647) (kk : xe X m (pc + 1) ls (vi (a / b) :: r) s c k P) : xe X m pc ls (vi b :: vi a :: r) s c k P := fun h hr =>
  x_A hk (fun h => by simp only [pm_stepA, if_neg (x_ne0 (show in32 b from ⟨by omega, by omega⟩) (show b ≠ 0 by omega))]; rw [dn_div ha hb]) kk h hr
theorem x_irem_n (hk : pm_look (pm_kl m) pc = some (.irem, len)) (ha : 0 ≤ a ∧ a ≤ 2147483647) (hb : 0 < b ∧ b ≤ 2147483647) (kk : xe X m (pc + 1) ls (vi (a % b) :: r) s c k P) : xe X m pc ls (vi b :: vi a :: r) s c k P := fun h hr => by
  have e : Int32.ofInt a - Int32.ofInt a / Int32.ofInt b * Int32.ofInt b = Int32.ofInt (a % b) := by
    rw [dn_div ha hb, ← Int32.ofInt_mul, ← Int32.ofInt_sub, Int.emod_def, Int.mul_comm]
  exact x_A hk (fun h => by simp only [pm_stepA, if_neg (x_ne0 (show in32 b from ⟨by omega, by omega⟩) (show b ≠ 0 by omega))]; rw [e]) kk h hr
end XDN
theorem all_bits {t z : Int} {n : Nat} (hn : n < 64) (g : ∀ k : Nat, k < 64 → bt t k = decide (k = n)) (u : un z = ((18446744073709551616 - un 1) + un t) % 18446744073709551616) : ∀ k : Nat, k < 64 → (bt z k = true ↔ k < n) := by
  have lt : un t < 2 ^ 64 := (Int64.ofInt t).toBitVec.isLt
  have et : un t = 2 ^ n := by
    apply Nat.eq_of_testBit_eq
    intro i
    rw [Nat.testBit_two_pow]
    by_cases hi : i < 64
    · rw [← bt_un, g i hi]
      exact decide_eq_decide.mpr ⟨fun q => q.symm, fun q => q.symm⟩
    · rw [Nat.testBit_lt_two_pow (Nat.lt_of_lt_of_le lt (Nat.pow_le_pow_right (by decide) (by omega))), decide_eq_false (by omega)]
  have e1 : un 1 = 1 := by decide
  have p1 : 1 ≤ 2 ^ n := Nat.one_le_two_pow
  have p2 : 2 ^ n < 2 ^ 64 := Nat.pow_lt_pow_right (by decide) hn
  have p3 : (2 : Nat) ^ 64 = 18446744073709551616 := by decide
  have ez : un z = 2 ^ n - 1 := by rw [u, e1, et]; omega
  intro k _
  rw [bt_un, ez, Nat.testBit_two_pow_sub_one, decide_eq_true_eq]
/-- a code's depth, place by place -/
def dpF (f : Nat → Int) : Nat → Int
  | 0 => 0
  | k + 1 => dpF f k + (if f k < 6000 then 1 else if 9000 ≤ f k then 0 else -1)
def okF (f : Nat → Int) (n : Nat) : Prop := ∀ k : Nat, k < n → okc (f k) ∧ (6000 ≤ f k → 1 ≤ dpF f k) ∧ (6000 ≤ f k → f k < 9000 → 2 ≤ dpF f k)
theorem stl_ok {f : Nat → Int} : ∀ {l : List Int}, stl f l → wfl l → okF f l.length ∧ dpF f l.length = dpl l := by
  intro l
  induction l with
  | nil => intro _ _; exact ⟨fun k hk => absurd hk (Nat.not_lt_zero k), rfl⟩
  | cons x l ih =>
    intro h w
    obtain ⟨i1, i2⟩ := ih h.2 w.1
    have e : f l.length = x := h.1
    rw [List.length_cons]
    refine ⟨fun k hk => ?_, ?_⟩
    · by_cases q : k = l.length
      · rw [q, e, i2]; exact w.2
      · exact i1 k (by omega)
    · show dpF f l.length + _ = dpl l + _
      rw [e, i2]
/-- the pile of what holds -/
def evN : List (Int → Prop) → List (Int → Prop)
  | x :: S => (fun p => ¬ x p) :: S
  | [] => []
def evB (c : Int) : List (Int → Prop) → List (Int → Prop)
  | y :: x :: S => (fun p => (8000 ≤ c ∧ x p ∧ y p) ∨ (c < 8000 ∧ (x p ∨ y p))) :: S
  | S => S
def evs (P : Int → Int → Prop) (c : Int) (S : List (Int → Prop)) : List (Int → Prop) := if c < 6000 then P c :: S else if 9000 ≤ c then evN S else evB c S
def ev (P : Int → Int → Prop) (f : Nat → Int) : Nat → List (Int → Prop)
  | 0 => []
  | k + 1 => evs P (f k) (ev P f k)
theorem ev_len {P : Int → Int → Prop} {f : Nat → Int} {n : Nat} (h : okF f n) : ∀ k : Nat, k ≤ n → ((ev P f k).length : Int) = dpF f k := by
  intro k
  induction k with
  | zero => intro _; rfl
  | succ k ih =>
    intro hk
    have e := ih (by omega)
    obtain ⟨-, h1, h2⟩ := h k (by omega)
    show (((evs P (f k) (ev P f k)).length : Nat) : Int) = dpF f k + _
    generalize ev P f k = S at e
    unfold evs
    by_cases c1 : f k < 6000
    · rw [if_pos c1, if_pos c1, List.length_cons]; omega
    · rw [if_neg c1, if_neg c1]
      by_cases c2 : 9000 ≤ f k
      · rw [if_pos c2, if_pos c2]
        cases S with
        | nil => rw [List.length_nil] at e; have := h1 (by omega); omega
        | cons x S => unfold evN; rw [List.length_cons] at e ⊢; omega
      · rw [if_neg c2, if_neg c2]
        have q := h2 (by omega) (by omega)
        cases S with
        | nil => rw [List.length_nil] at e; omega
        | cons y S =>
          cases S with
          | nil => rw [List.length_cons, List.length_nil] at e; omega
          | cons x S => unfold evB; rw [List.length_cons, List.length_cons] at e; rw [List.length_cons]; omega
theorem ev_cg {P : Int → Int → Prop} {f g : Nat → Int} {n : Nat} (h : ∀ k : Nat, k < n → f k = g k) : ∀ k : Nat, k ≤ n → ev P f k = ev P g k := by
  intro k
  induction k with
  | zero => intro _; rfl
  | succ k ih =>
    intro hk
    show evs P (f k) (ev P f k) = evs P (g k) (ev P g k)
    rw [ih (by omega), h k (by omega)]
/-- what holds behind a whole row -/
def evT (P : Int → Int → Prop) (f : Nat → Int) (n : Nat) (p : Int) : Prop := ∃ X : Int → Prop, ev P f n = [X] ∧ X p
/-! the class: sets of pictures -/
def stB (N : Int) (g : Nat → Int) : List (Int → Prop) → Prop
  | [] => True
  | X :: S => (∀ k : Nat, k < 64 → (bt (g S.length) k = true ↔ (k : Int) < N ∧ X (k : Int))) ∧ stB N g S
theorem stB.cg {N : Int} {g g' : Nat → Int} : ∀ {S : List (Int → Prop)}, stB N g S → (∀ j : Nat, j < S.length → g' j = g j) → stB N g' S := by
  intro S
  induction S with
  | nil => intro _ _; trivial
  | cons x S ih =>
    intro h e
    exact ⟨fun k hk => by rw [e S.length (by rw [List.length_cons]; omega)]; exact h.1 k hk, ih h.2 (fun j hj => e j (by rw [List.length_cons]; omega))⟩
def EvC (P : Int → Int → Prop) (f : Nat → Int) (N : Int) (g : Nat → Int) (t i : Int) : Prop := t = ((ev P f i.toNat).length : Int) ∧ stB N g (ev P f i.toNat)
theorem EvC_0 {P : Int → Int → Prop} {f : Nat → Int} {N : Int} {g : Nat → Int} : EvC P f N g 0 0 := ⟨rfl, trivial⟩
section EVC
variable {P : Int → Int → Prop} {f : Nat → Int} {N : Int} {g g' : Nat → Int} {t i c z : Int}
theorem EvC.lf (h : EvC P f N g t i) (hi : 0 ≤ i) (hc : f i.toNat = c) (hc2 : c < 6000) (hz : ∀ k : Nat, k < 64 → (bt z k = true ↔ (k : Int) < N ∧ P c (k : Int))) (e : ∀ j : Nat, g' j = if j = t.toNat then z else g j) : EvC P f N g' (t + 1) (i + 1) := by
  obtain ⟨h1, h2⟩ := h
  have es : ev P f (i + 1).toNat = P c :: ev P f i.toNat := by
    rw [show (i + 1).toNat = i.toNat + 1 by omega]
    show evs P (f i.toNat) (ev P f i.toNat) = _
    rw [hc]; unfold evs; rw [if_pos hc2]
  unfold EvC
  rw [es, List.length_cons]
  refine ⟨by omega, fun k hk => ?_, h2.cg (fun j hj => by rw [e, if_neg (by omega)])⟩
  rw [e, if_pos (by omega)]
  exact hz k hk
theorem EvC.no {x al w : Int} (h : EvC P f N g t i) (hi : 0 ≤ i) (hc : f i.toNat = c) (hc2 : 9000 ≤ c) (ht : 1 ≤ t) (hx : g (t - 1).toNat = x) (ga : ∀ k : Nat, k < 64 → (bt al k = true ↔ (k : Int) < N)) (gw : ∀ k : Nat, k < 64 → bt w k = !bt x k) (gz : ∀ k, bt z k = (bt al k && bt w k)) (e : ∀ j : Nat, g' j = if j = (t - 1).toNat then z else g j) : EvC P f N g' t (i + 1) := by
  obtain ⟨h1, h2⟩ := h
  have es : ev P f (i + 1).toNat = evN (ev P f i.toNat) := by
    rw [show (i + 1).toNat = i.toNat + 1 by omega]
    show evs P (f i.toNat) (ev P f i.toNat) = _
    rw [hc]; unfold evs; rw [if_neg (by omega), if_pos hc2]
  unfold EvC
  rw [es]
  generalize ev P f i.toNat = S at h1 h2
  cases S with
  | nil => rw [List.length_nil] at h1; omega
  | cons X S =>
    rw [List.length_cons] at h1
    refine ⟨by show t = (((fun p => ¬ X p) :: S : List (Int → Prop)).length : Int); rw [List.length_cons]; omega, fun k hk => ?_, h2.2.cg (fun j hj => by rw [e, if_neg (by omega)])⟩
    have q := h2.1 k hk
    rw [show S.length = (t - 1).toNat by omega, hx] at q
    rw [show S.length = (t - 1).toNat by omega, e, if_pos rfl, gz k, Bool.and_eq_true, ga k hk, gw k hk, Bool.not_eq_true', ← Bool.not_eq_true, q]
    exact ⟨fun u => ⟨u.1, fun v => u.2 ⟨u.1, v⟩⟩, fun u => ⟨u.1, fun v => u.2 v.2⟩⟩
theorem EvC.bi {x y : Int} (h : EvC P f N g t i) (hi : 0 ≤ i) (hc : f i.toNat = c) (hc2 : 6000 ≤ c ∧ c < 9000) (ht : 2 ≤ t) (hy : g (t - 1).toNat = y) (hx : g (t - 2).toNat = x) (gz : (8000 ≤ c ∧ ∀ k, bt z k = (bt x k && bt y k)) ∨ (c < 8000 ∧ ∀ k, bt z k = (bt x k || bt y k))) (e : ∀ j : Nat, g' j = if j = (t - 2).toNat then z else g j) : EvC P f N g' (t - 1) (i + 1) := by
  obtain ⟨h1, h2⟩ := h
  have es : ev P f (i + 1).toNat = evB c (ev P f i.toNat) := by
    rw [show (i + 1).toNat = i.toNat + 1 by omega]
    show evs P (f i.toNat) (ev P f i.toNat) = _
    rw [hc]; unfold evs; rw [if_neg (by omega), if_neg (by omega)]
  unfold EvC
  rw [es]
  generalize ev P f i.toNat = S at h1 h2
  cases S with
  | nil => rw [List.length_nil] at h1; omega
  | cons Y S =>
    cases S with
    | nil => rw [List.length_cons, List.length_nil] at h1; omega
    | cons X S =>
      rw [List.length_cons, List.length_cons] at h1
      refine ⟨by show t - 1 = (((fun p => (8000 ≤ c ∧ X p ∧ Y p) ∨ (c < 8000 ∧ (X p ∨ Y p))) :: S : List (Int → Prop)).length : Int); rw [List.length_cons]; omega, fun k hk => ?_, h2.2.2.cg (fun j hj => by rw [e, if_neg (by omega)])⟩
      have qy := h2.1 k hk
      have qx := h2.2.1 k hk
      rw [List.length_cons, show S.length + 1 = (t - 1).toNat by omega, hy] at qy
      rw [show S.length = (t - 2).toNat by omega, hx] at qx
      rw [show S.length = (t - 2).toNat by omega, e, if_pos rfl]
      rcases gz with ⟨c8, gz⟩ | ⟨c8, gz⟩
      · rw [gz k, Bool.and_eq_true, qx, qy]
        exact ⟨fun u => ⟨u.1.1, Or.inl ⟨c8, u.1.2, u.2.2⟩⟩, fun u => u.2.elim (fun v => ⟨⟨u.1, v.2.1⟩, u.1, v.2.2⟩) (fun v => by omega)⟩
      · rw [gz k, Bool.or_eq_true, qx, qy]
        exact ⟨fun u => u.elim (fun v => ⟨v.1, Or.inr ⟨c8, Or.inl v.2⟩⟩) (fun v => ⟨v.1, Or.inr ⟨c8, Or.inr v.2⟩⟩), fun u => u.2.elim (fun v => by omega) (fun v => v.2.elim (fun w => Or.inl ⟨u.1, w⟩) (fun w => Or.inr ⟨u.1, w⟩))⟩
theorem EvC.fin {n : Nat} (h : EvC P f N g t i) (hi : i.toNat = n) (ht : t = 1) : ∀ k : Nat, k < 64 → (bt (g 0) k = true ↔ (k : Int) < N ∧ evT P f n (k : Int)) := by
  obtain ⟨h1, h2⟩ := h
  rw [hi] at h1 h2
  intro k hk
  unfold evT
  generalize ev P f n = S at h1 h2
  cases S with
  | nil => rw [List.length_nil] at h1; omega
  | cons X S =>
    cases S with
    | cons Y S => rw [List.length_cons, List.length_cons] at h1; omega
    | nil =>
      rw [show bt (g 0) k = true ↔ (k : Int) < N ∧ X (k : Int) from h2.1 k hk]
      exact ⟨fun u => ⟨u.1, X, rfl, u.2⟩, fun ⟨u, Y, e, v⟩ => ⟨u, by injection e with e; rw [e]; exact v⟩⟩
end EVC
/-! the reference: one picture -/
def stP (p : Int) (g : Nat → Int) : List (Int → Prop) → Prop
  | [] => True
  | X :: S => ((g S.length = 1 ∧ X p) ∨ (g S.length = 0 ∧ ¬ X p)) ∧ stP p g S
theorem stP.cg {p : Int} {g g' : Nat → Int} : ∀ {S : List (Int → Prop)}, stP p g S → (∀ j : Nat, j < S.length → g' j = g j) → stP p g' S := by
  intro S
  induction S with
  | nil => intro _ _; trivial
  | cons x S ih =>
    intro h e
    exact ⟨by rw [e S.length (by rw [List.length_cons]; omega)]; exact h.1, ih h.2 (fun j hj => e j (by rw [List.length_cons]; omega))⟩
def EvR (P : Int → Int → Prop) (f : Nat → Int) (p : Int) (g : Nat → Int) (t i : Int) : Prop := t = ((ev P f i.toNat).length : Int) ∧ stP p g (ev P f i.toNat)
theorem EvR_0 {P : Int → Int → Prop} {f : Nat → Int} {p : Int} {g : Nat → Int} : EvR P f p g 0 0 := ⟨rfl, trivial⟩
section EVR
variable {P : Int → Int → Prop} {f : Nat → Int} {p : Int} {g g' : Nat → Int} {t i c z : Int}
theorem EvR.lf (h : EvR P f p g t i) (hi : 0 ≤ i) (hc : f i.toNat = c) (hc2 : c < 6000) (hz : (z = 1 ∧ P c p) ∨ (z = 0 ∧ ¬ P c p)) (e : ∀ j : Nat, g' j = if j = t.toNat then z else g j) : EvR P f p g' (t + 1) (i + 1) := by
  obtain ⟨h1, h2⟩ := h
  have es : ev P f (i + 1).toNat = P c :: ev P f i.toNat := by
    rw [show (i + 1).toNat = i.toNat + 1 by omega]
    show evs P (f i.toNat) (ev P f i.toNat) = _
    rw [hc]; unfold evs; rw [if_pos hc2]
  unfold EvR
  rw [es, List.length_cons]
  refine ⟨by omega, ?_, h2.cg (fun j hj => by rw [e, if_neg (by omega)])⟩
  rw [e, if_pos (by omega)]
  exact hz
theorem EvR.no {x : Int} (h : EvR P f p g t i) (hi : 0 ≤ i) (hc : f i.toNat = c) (hc2 : 9000 ≤ c) (ht : 1 ≤ t) (hx : g (t - 1).toNat = x) (hz : (x = 0 ∧ z = 1) ∨ (x ≠ 0 ∧ z = 0)) (e : ∀ j : Nat, g' j = if j = (t - 1).toNat then z else g j) : EvR P f p g' t (i + 1) := by
  obtain ⟨h1, h2⟩ := h
  have es : ev P f (i + 1).toNat = evN (ev P f i.toNat) := by
    rw [show (i + 1).toNat = i.toNat + 1 by omega]
    show evs P (f i.toNat) (ev P f i.toNat) = _
    rw [hc]; unfold evs; rw [if_neg (by omega), if_pos hc2]
  unfold EvR
  rw [es]
  generalize ev P f i.toNat = S at h1 h2
  cases S with
  | nil => rw [List.length_nil] at h1; omega
  | cons X S =>
    rw [List.length_cons] at h1
    have q := h2.1
    rw [show S.length = (t - 1).toNat by omega, hx] at q
    refine ⟨by show t = (((fun p => ¬ X p) :: S : List (Int → Prop)).length : Int); rw [List.length_cons]; omega, ?_, h2.2.cg (fun j hj => by rw [e, if_neg (by omega)])⟩
    rw [show S.length = (t - 1).toNat by omega, e, if_pos rfl]
    rcases q with ⟨q1, q2⟩ | ⟨q1, q2⟩
    · exact Or.inr ⟨by omega, fun w => w q2⟩
    · exact Or.inl ⟨by omega, q2⟩
theorem EvR.bi {x y : Int} (h : EvR P f p g t i) (hi : 0 ≤ i) (hc : f i.toNat = c) (hc2 : 6000 ≤ c ∧ c < 9000) (ht : 2 ≤ t) (hy : g (t - 1).toNat = y) (hx : g (t - 2).toNat = x) (hz : (8000 ≤ c ∧ ((x ≠ 0 ∧ y ≠ 0 ∧ z = 1) ∨ ((x = 0 ∨ y = 0) ∧ z = 0))) ∨ (c < 8000 ∧ (((x ≠ 0 ∨ y ≠ 0) ∧ z = 1) ∨ (x = 0 ∧ y = 0 ∧ z = 0)))) (e : ∀ j : Nat, g' j = if j = (t - 2).toNat then z else g j) : EvR P f p g' (t - 1) (i + 1) := by
  obtain ⟨h1, h2⟩ := h
  have es : ev P f (i + 1).toNat = evB c (ev P f i.toNat) := by
    rw [show (i + 1).toNat = i.toNat + 1 by omega]
    show evs P (f i.toNat) (ev P f i.toNat) = _
    rw [hc]; unfold evs; rw [if_neg (by omega), if_neg (by omega)]
  unfold EvR
  rw [es]
  generalize ev P f i.toNat = S at h1 h2
  cases S with
  | nil => rw [List.length_nil] at h1; omega
  | cons Y S =>
    cases S with
    | nil => rw [List.length_cons, List.length_nil] at h1; omega
    | cons X S =>
      rw [List.length_cons, List.length_cons] at h1
      have qy := h2.1
      have qx := h2.2.1
      rw [List.length_cons, show S.length + 1 = (t - 1).toNat by omega, hy] at qy
      rw [show S.length = (t - 2).toNat by omega, hx] at qx
      refine ⟨by show t - 1 = (((fun p => (8000 ≤ c ∧ X p ∧ Y p) ∨ (c < 8000 ∧ (X p ∨ Y p))) :: S : List (Int → Prop)).length : Int); rw [List.length_cons]; omega, ?_, h2.2.2.cg (fun j hj => by rw [e, if_neg (by omega)])⟩
      rw [show S.length = (t - 2).toNat by omega, e, if_pos rfl]
      have dX : (x ≠ 0 ↔ X p) := qx.elim (fun q => ⟨fun _ => q.2, fun _ => by omega⟩) (fun q => ⟨fun w => absurd q.1 w, fun w => absurd w q.2⟩)
      have dY : (y ≠ 0 ↔ Y p) := qy.elim (fun q => ⟨fun _ => q.2, fun _ => by omega⟩) (fun q => ⟨fun w => absurd q.1 w, fun w => absurd w q.2⟩)
      show (z = 1 ∧ ((8000 ≤ c ∧ X p ∧ Y p) ∨ (c < 8000 ∧ (X p ∨ Y p)))) ∨ (z = 0 ∧ ¬ ((8000 ≤ c ∧ X p ∧ Y p) ∨ (c < 8000 ∧ (X p ∨ Y p))))
      rw [← dX, ← dY]
      omega
theorem EvR.fin {n : Nat} (h : EvR P f p g t i) (hi : i.toNat = n) (ht : t = 1) : (g 0 = 1 ∧ evT P f n p) ∨ (g 0 = 0 ∧ ¬ evT P f n p) := by
  obtain ⟨h1, h2⟩ := h
  rw [hi] at h1 h2
  unfold evT
  generalize ev P f n = S at h1 h2
  cases S with
  | nil => rw [List.length_nil] at h1; omega
  | cons X S =>
    cases S with
    | cons Y S => rw [List.length_cons, List.length_cons] at h1; omega
    | nil =>
      have q : (g 0 = 1 ∧ X p) ∨ (g 0 = 0 ∧ ¬ X p) := h2.1
      rcases q with ⟨q1, q2⟩ | ⟨q1, q2⟩
      · exact Or.inl ⟨q1, X, rfl, q2⟩
      · exact Or.inr ⟨q1, fun ⟨Y, e, v⟩ => q2 (by injection e with e; rw [e]; exact v)⟩
end EVR
/-! what a leaf says of a picture -/
def wdC (s : xS) (e v p : Int) : Prop := ∃ m : Nat, m < 64 ∧ wms s (v / 100) (v % 100) (s 214 3) m ∧ shC s e p m
def mP (s : xS) (e c p : Int) : Prop :=
  (c < 2000 ∧ shC s e p (c - 1000)) ∨ ((2000 ≤ c ∧ c < 3000) ∧ wdC s e (c - 2000) p) ∨ ((3000 ≤ c ∧ c < 4000) ∧ hdC s (c - 3000) e p) ∨ ((4000 ≤ c ∧ c < 5000) ∧ s 47 p.toNat < c - 4000) ∨ (5000 ≤ c ∧ s 48 p.toNat = c - 5000)
section MPS
variable {s : xS} {e c p v : Int}
theorem mP1 (h : c < 2000) : mP s e c p ↔ shC s e p (c - 1000) := ⟨fun q => by rcases q with q | q | q | q | q <;> first | exact q.2 | (exfalso; omega), fun q => Or.inl ⟨h, q⟩⟩
theorem mP2 (h : 2000 ≤ c ∧ c < 3000) : mP s e c p ↔ wdC s e (c - 2000) p := ⟨fun q => by rcases q with q | q | q | q | q <;> first | exact q.2 | (exfalso; omega), fun q => Or.inr (Or.inl ⟨h, q⟩)⟩
theorem mP3 (h : 3000 ≤ c ∧ c < 4000) : mP s e c p ↔ hdC s (c - 3000) e p := ⟨fun q => by rcases q with q | q | q | q | q <;> first | exact q.2 | (exfalso; omega), fun q => Or.inr (Or.inr (Or.inl ⟨h, q⟩))⟩
theorem mP4 (h : 4000 ≤ c ∧ c < 5000) : mP s e c p ↔ s 47 p.toNat < c - 4000 := ⟨fun q => by rcases q with q | q | q | q | q <;> first | exact q.2 | (exfalso; omega), fun q => Or.inr (Or.inr (Or.inr (Or.inl ⟨h, q⟩)))⟩
theorem mP5 (h : 5000 ≤ c) : mP s e c p ↔ s 48 p.toNat = c - 5000 := ⟨fun q => by rcases q with q | q | q | q | q <;> first | exact q.2 | (exfalso; omega), fun q => Or.inr (Or.inr (Or.inr (Or.inr ⟨h, q⟩)))⟩
end MPS
def LMP : List Nat := 512 :: 576 :: 896 :: 2244 :: 2304 :: 2368 :: 2432 :: LVE
theorem mP_fl {L : List Nat} {s s' : xS} (f : FL L s s') (hG : GI s) (hL : ∀ x ∈ LMP, x ∉ L) (b : Int) : mP s' b = mP s b := by
  have v := f.ve hG (fun x hx => hL x (by revert x; decide))
  have e7 : s' 47 = s 47 := funext fun i => f 47 i (hL 512 (by decide))
  have e8 : s' 48 = s 48 := funext fun i => f 48 i (hL 576 (by decide))
  have e53 : s' 53 = s 53 := funext fun i => f 53 i (hL 896 (by decide))
  have w4 : s' 214 3 = s 214 3 := f 214 3 (hL 2244 (by decide))
  have w5 : s' 215 = s 215 := funext fun i => f 215 i (hL 2304 (by decide))
  have w6 : s' 216 = s 216 := funext fun i => f 216 i (hL 2368 (by decide))
  have w7 : s' 217 = s 217 := funext fun i => f 217 i (hL 2432 (by decide))
  funext c p
  have k1 : shC s' b p (c - 1000) ↔ shC s b p (c - 1000) := v.sh _ _ _
  have k2 : wdC s' b (c - 2000) p ↔ wdC s b (c - 2000) p := by
    unfold wdC wms
    rw [w4, w5, w6, w7]
    exact exists_congr (fun m => and_congr Iff.rfl (and_congr Iff.rfl (v.sh _ _ _)))
  have k3 : hdC s' (c - 3000) b p ↔ hdC s (c - 3000) b p := hdC.cg v e53 _ _ _
  unfold mP
  rw [k1, k2, k3, e7, e8]
/-- the row of an ask, as the class holds it -/
def MetP (s : xS) (e a p : Int) : Prop := evT (mP s e) (s (220 + 1 + a.toNat)) (s 219 a.toNat).toNat p
def okA (s : xS) (a : Int) : Prop := okF (s (220 + 1 + a.toNat)) (s 219 a.toNat).toNat ∧ dpF (s (220 + 1 + a.toNat)) (s 219 a.toNat).toNat = 1
/-- the asks of both -/
def Q1 (s : xS) : Prop := s 218 6 ≤ 8 ∧ ∀ a : Nat, (a : Int) < s 218 6 → ∃ row : List Int, s 219 a = row.length ∧ (row.length : Int) ≤ 100 ∧ stl (s (220 + 1 + a)) row ∧ s 286 a = row.length ∧ stl (rkF s a) row ∧ wfl row ∧ dpl row = 1
def LQ1 : List Nat := [2503, 2560, 2688, 6016, 6080, 6144]
theorem Q1.fl {L : List Nat} {s s' : xS} (h : Q1 s) (f : FL L s s') (hL : ∀ x ∈ LQ1, x ∉ L) : Q1 s' := by
  have e6 : s' 218 6 = s 218 6 := f 218 6 (hL 2503 (by decide))
  have e9 : s' 219 = s 219 := funext fun i => f 219 i (hL 2560 (by decide))
  have b6 : s' 286 = s 286 := funext fun i => f 286 i (hL 6016 (by decide))
  have b7 : s' 287 = s 287 := funext fun i => f 287 i (hL 6080 (by decide))
  have b8 : s' 288 = s 288 := funext fun i => f 288 i (hL 6144 (by decide))
  have er := rowsA f (hL 2688 (by decide))
  obtain ⟨h0, h⟩ := h
  unfold Q1
  rw [e6, e9, b6]
  refine ⟨h0, fun a ha => ?_⟩
  obtain ⟨row, h1, h2, h3, h4, h5, h6, h7⟩ := h a ha
  exact ⟨row, h1, h2, h3.cg (fun j _ => er a j (by omega)), h4, h5.cg (fun j _ => by unfold rkF; rw [b7, b8]), h6, h7⟩
theorem Q1.up {s : xS} {q i : Nat} {v : Int} (h : Q1 s) (hL : x_pl q i ∉ LQ1) : Q1 (x_up s q i v) := h.fl FL.one (fun x hx hm => hL (by rw [← List.mem_singleton.mp hm]; exact hx))
theorem Q1.ask {L1 L2 : List Nat} {s s1 s2 : xS} {z1 z2 : Int} (h : Q1 s) (x : X1 s) (hG : GI s) (f1 : FL L1 s s1) (f2 : FL L2 s1 s2) (hL1 : ∀ x ∈ [4131, 5824, 4140, 6016, 6080, 6144], x ∉ L1) (hL2 : ∀ x ∈ [2503, 2560, 2688], x ∉ L2) (c : AkC s s1 z1 ∧ AkX s s1 z1) (r : AkR s1 s2 z2 ∧ ArX s1 s2 z2) (ez : z1 = z2) : Q1 s2 := by
  obtain ⟨x1, x2, x3, x4, x5⟩ := x
  obtain ⟨c1, c2, c3⟩ := c
  obtain ⟨r1, r2, r3, r4⟩ := r
  obtain ⟨h0, h⟩ := h
  have gn : (0 : Int) ≤ s 177 1 ∧ s 177 1 ≤ 160 := hG 177 1
  have g6 : (0 : Int) ≤ s 218 6 ∧ s 218 6 ≤ 8 := hG 218 6
  have a1 : s1 256 34 = s 256 34 := f1 256 34 (hL1 4131 (by decide))
  have a2 : s1 283 = s 283 := funext fun i => f1 283 i (hL1 5824 (by decide))
  have a3 : s1 256 43 = s 256 43 := f1 256 43 (hL1 4140 (by decide))
  have a6 : s1 286 = s 286 := funext fun i => f1 286 i (hL1 6016 (by decide))
  have a7 : s1 287 = s 287 := funext fun i => f1 287 i (hL1 6080 (by decide))
  have a8 : s1 288 = s 288 := funext fun i => f1 288 i (hL1 6144 (by decide))
  have e6 : s2 218 6 = s1 218 6 := f2 218 6 (hL2 2503 (by decide))
  have e9 : s2 219 = s1 219 := funext fun i => f2 219 i (hL2 2560 (by decide))
  have er := rowsA f2 (hL2 2688 (by decide))
  have old : ∀ a : Nat, (a : Int) < s 218 6 → ∃ row : List Int, s2 219 a = row.length ∧ (row.length : Int) ≤ 100 ∧ stl (s2 (220 + 1 + a)) row ∧ s2 286 a = row.length ∧ stl (rkF s2 a) row ∧ wfl row ∧ dpl row = 1 := fun a ha => by
    obtain ⟨row, h1, h2, h3, h4, h5, h6, h7⟩ := h a ha
    obtain ⟨k1, k2⟩ := c2 a (by omega) (by omega)
    refine ⟨row, by rw [e9, k1]; exact h1, h2, h3.cg (fun j _ => (er a j (by omega)).trans (k2 j)), ?_, h5.cg (fun j hj => ?_), h6, h7⟩
    · rw [r3 a (by omega), a6]; exact h4
    · have q := r2 (110 * a + j) (by rw [a3, ← x4]; omega)
      unfold rkF
      rw [q.1, q.2, a7, a8]
  have key : s1 218 6 = s 218 6 ∨ (s1 218 6 = s 218 6 + 1 ∧ 0 ≤ z1 ∧ s 177 1 ≤ 100 ∧ s 218 6 < 8) := by
    unfold AkC at c1
    rcases c1 with ⟨k1, k2, k3⟩ | ⟨k1, k2, k3, k4⟩ | ⟨k1, k2, k3, k4⟩
    · rw [k3]; exact Or.inl rfl
    · rw [k4]; exact Or.inl rfl
    · rcases k4 with ⟨q1, q2, q3, q4⟩ | ⟨q1, q2, q3, q4, q5⟩
      · exact Or.inr ⟨q3, by omega, k1, k2⟩
      · exact Or.inl q4
  rcases key with k | ⟨k, kz, kn, k8⟩
  · exact ⟨by omega, fun a ha => old a (by omega)⟩
  · refine ⟨by omega, fun a ha => ?_⟩
    by_cases q : (a : Int) < s 218 6
    · exact old a q
    · obtain ⟨row, p1, p2, p3⟩ := c3 kz
      obtain ⟨row2, q1, q2, q3⟩ := r4 (by omega)
      rw [a2, a1, ← x2, ← x1] at q1
      have e := ADX_u p1 q1
      subst e
      have ea : a = (s 218 6).toNat := by omega
      have eb : a = (s1 256 43).toNat := by rw [a3, ← x4]; exact ea
      obtain ⟨w1, w2, w3⟩ := p1.ok (by omega)
      refine ⟨row, ?_, by omega, ?_, ?_, ?_, w1, w2⟩
      · rw [e9, ea]; exact p2
      · rw [ea]; exact p3.cg (fun j _ => er _ j (by omega))
      · rw [eb]; exact q2
      · rw [eb]; exact q3
/-- one row in both -/
theorem Q1.row {s : xS} {a : Int} (h : Q1 s) (ha : 0 ≤ a ∧ a < s 218 6) : okA s a ∧ (0 ≤ s 219 a.toNat ∧ s 219 a.toNat ≤ 100) ∧ s 286 a.toNat = s 219 a.toNat ∧ ∀ k : Nat, (k : Int) < s 219 a.toNat → s (220 + 1 + a.toNat) k = rkF s a.toNat k := by
  obtain ⟨row, h1, h2, h3, h4, h5, h6, h7⟩ := h.2 a.toNat (by omega)
  obtain ⟨w1, w2⟩ := stl_ok h3 h6
  have e : (s 219 a.toNat).toNat = row.length := by omega
  refine ⟨⟨by rw [e]; exact w1, by rw [e, w2]; exact h7⟩, by omega, by omega, fun k hk => h3.eq h5 k (by omega)⟩
/-- met's answer -/
def MtS (s : xS) (a b d z : Int) : Prop := (¬ (0 ≤ a ∧ a < s 218 6) ∧ z = -1001) ∨ ((0 ≤ a ∧ a < s 218 6) ∧ ¬ (0 ≤ b ∧ b ≤ s 0 10) ∧ z = -1002) ∨ ((0 ≤ a ∧ a < s 218 6) ∧ (0 ≤ b ∧ b ≤ s 0 10) ∧ pkS (fun k => MetP s b a (k : Int)) (s 46 3).toNat d z)
theorem MtS.u {s : xS} {a b d z1 z2 : Int} (h1 : MtS s a b d z1) (h2 : MtS s a b d z2) : z1 = z2 := by
  rcases h1 with ⟨a1, a2⟩ | ⟨a1, a2, a3⟩ | ⟨a1, a2, a3⟩ <;> rcases h2 with ⟨b1, b2⟩ | ⟨b1, b2, b3⟩ | ⟨b1, b2, b3⟩
  case inr.inr.inr.inr => exact a3.u b3
  all_goals omega
theorem MtS.fl {L : List Nat} {s s' : xS} {a b d z : Int} (h : MtS s' a b d z) (hG : GI s) (f : FL L s s') (hL : ∀ x ∈ 452 :: 512 :: 576 :: 896 :: 2244 :: 2304 :: 2368 :: 2432 :: 2503 :: 2560 :: 2688 :: LVQ, x ∉ L) : MtS s a b d z := by
  have v := f.ve hG (fun x hx => hL x (by revert x; decide))
  have g6 : (0 : Int) ≤ s 218 6 ∧ s 218 6 ≤ 8 := hG 218 6
  have e2 : s' 0 10 = s 0 10 := f 0 10 (hL 11 (by decide))
  have e3 : s' 46 3 = s 46 3 := f 46 3 (hL 452 (by decide))
  have q6 : s' 218 6 = s 218 6 := f 218 6 (hL 2503 (by decide))
  have q9 : s' 219 = s 219 := funext fun i => f 219 i (hL 2560 (by decide))
  have er := rowsA f (hL 2688 (by decide))
  have em := mP_fl f hG (fun x hx => hL x (by revert x; decide)) b
  unfold MtS at h ⊢
  rw [q6, e2, e3] at h
  rcases h with h | h | ⟨h1, h2, h3⟩
  · exact Or.inl h
  · exact Or.inr (Or.inl h)
  · refine Or.inr (Or.inr ⟨h1, h2, h3.cg (fun k _ => ?_)⟩)
    unfold MetP
    rw [em, q9, show s' (220 + 1 + a.toNat) = s (220 + 1 + a.toNat) from funext fun i => er a.toNat i (by omega)]
/-- a giving that counts names a picture -/
def PN (s : xS) : Prop := ∀ g : Int, 0 ≤ g → g < s 50 6 → s 51 g.toNat < s 46 3
theorem PN.fl {L : List Nat} {s s' : xS} (h : PN s) (f : FL L s s') (hL : ∀ x ∈ [452, 711, 768], x ∉ L) : PN s' := fun g g0 g1 => by
  rw [f 51 g.toNat (hL 768 (by decide)), f 46 3 (hL 452 (by decide))]
  rw [f 50 6 (hL 711 (by decide))] at g1
  exact h g g0 g1
theorem G3.pn {s : xS} (h : G3 s) (hG : GI s) : PN s := fun g g0 g1 => by
  have gg : (0 : Int) ≤ s 50 6 ∧ s 50 6 ≤ 120 := hG 50 6
  exact (h.2 g g0 (by omega) g1).2.1
theorem VL.bo {L : List Nat} {s s' : xS} {e : Int} (h : VL s s e) (hG : GI s) (f : FL L s s') (hL : ∀ x ∈ LVE, x ∉ L) (hL2 : ∀ x ∈ [3904, 3968, 4032], x ∉ L) : VL s' s' e := by
  have v := (f.ve hG hL).sy
  have a3 : s' 253 = s 253 := funext fun i => f 253 i (hL2 3904 (by decide))
  have a4 : s' 254 = s 254 := funext fun i => f 254 i (hL2 3968 (by decide))
  have a5 : s' 255 = s 255 := funext fun i => f 255 i (hL2 4032 (by decide))
  have q := h.cg v
  unfold VL at q ⊢
  rw [a3, a4, a5]
  exact q
/-! the class's leaves -/
section MPC
variable {s : xS} {e b c z m : Int}
theorem mP_1 (pn : PN s) (hz : ∀ k : Nat, k < 64 → (bt z k = true ↔ shC s e (k : Int) b)) (hc : c = 1000 + b) (hb : 0 ≤ b ∧ b ≤ 999) : ∀ k : Nat, k < 64 → (bt z k = true ↔ (k : Int) < s 46 3 ∧ mP s e c (k : Int)) := fun k hk => by
  rw [hz k hk, mP1 (by omega), show c - 1000 = b by omega]
  refine ⟨fun w => ⟨?_, w⟩, fun w => w.2⟩
  obtain ⟨g, g1, g2, -⟩ := w
  rw [← g2]
  exact pn g g1.1 g1.2
theorem mP_2 (pn : PN s) (l : VL s s e) (hm : ∀ j : Nat, j < 64 → (bt m j = true ↔ wms s (b / 100) (b % 100) (s 214 3) (j : Int))) (hz : ∀ k : Nat, k < 64 → (bt z k = true ↔ (k : Int) < 40 ∧ ∃ j : Nat, j < 64 ∧ bt (s 255 k) j = true ∧ bt m j = true)) (hG : GI s) (hc : c = 2000 + b) (hb : 0 ≤ b ∧ b ≤ 999) : ∀ k : Nat, k < 64 → (bt z k = true ↔ (k : Int) < s 46 3 ∧ mP s e c (k : Int)) := fun k hk => by
  have g46 : (0 : Int) ≤ s 46 3 ∧ s 46 3 ≤ 40 := hG 46 3
  rw [hz k hk, mP2 (by omega), show c - 2000 = b by omega]
  unfold wdC
  constructor
  · rintro ⟨h1, j, h2, h3, h4⟩
    have q := (l.2 (k : Int) (by omega) (by omega) j h2).mp (by rw [Int.toNat_natCast]; exact h3)
    refine ⟨?_, j, h2, (hm j h2).mp h4, q⟩
    obtain ⟨g, g1, g2, -⟩ := q
    rw [← g2]
    exact pn g g1.1 g1.2
  · rintro ⟨h1, j, h2, h3, h4⟩
    have q := (l.2 (k : Int) (by omega) (by omega) j h2).mpr h4
    rw [Int.toNat_natCast] at q
    exact ⟨by omega, j, h2, q, (hm j h2).mpr h3⟩
theorem mP_3 (pn : PN s) (hz : ∀ k : Nat, k < 64 → (bt z k = true ↔ hdC s b e (k : Int))) (hc : c = 3000 + b) (hb : 0 ≤ b ∧ b ≤ 999) : ∀ k : Nat, k < 64 → (bt z k = true ↔ (k : Int) < s 46 3 ∧ mP s e c (k : Int)) := fun k hk => by
  rw [hz k hk, mP3 (by omega), show c - 3000 = b by omega]
  refine ⟨fun w => ⟨?_, w⟩, fun w => w.2⟩
  obtain ⟨g, g1, -, g2⟩ := w
  rw [← g2]
  exact pn g g1.1 g1.2
theorem mP_4 (hG : GI s) {b1 : Int} (hz : ∀ k : Nat, k < 64 → (bt z k = true ↔ (k : Int) < s 46 3 ∧ 0 ≤ s 47 k ∧ s 47 k ≤ b1)) (hb1 : b1 = b - 1) (hc : c = 4000 + b) (hb : 0 ≤ b ∧ b ≤ 999) : ∀ k : Nat, k < 64 → (bt z k = true ↔ (k : Int) < s 46 3 ∧ mP s e c (k : Int)) := fun k hk => by
  have g47 : (0 : Int) ≤ s 47 k ∧ s 47 k ≤ 999 := hG 47 k
  rw [hz k hk, mP4 (by omega), Int.toNat_natCast]
  omega
theorem mP_5 (hz : ∀ k : Nat, k < 64 → (bt z k = true ↔ (k : Int) < s 46 3 ∧ s 48 k = b)) (hc : c = 5000 + b) (hb : 0 ≤ b ∧ b ≤ 999) : ∀ k : Nat, k < 64 → (bt z k = true ↔ (k : Int) < s 46 3 ∧ mP s e c (k : Int)) := fun k hk => by
  rw [hz k hk, mP5 (by omega), Int.toNat_natCast]
  omega
end MPC
/-! the reference's leaves -/
def swR (s : xS) (p v : Int) : Prop := ∃ i : Int, (0 ≤ i ∧ i < s 256 40) ∧ s 284 i.toNat = v ∧ shR s p (s 285 i.toNat)
theorem swR_of {s : xS} {e p v : Int} (z : FdZ s s e) (w : W1 s) (hG : GI s) (hp : 0 ≤ p ∧ p < s 256 6) (hv : 0 ≤ v) : swR s p v ↔ wdC s e v p := by
  obtain ⟨w1, w2, -⟩ := w
  unfold swR wdC wms
  constructor
  · rintro ⟨i, hi, h1, h2⟩
    obtain ⟨q1, q2⟩ := w2 i hi.1 hi.2
    have g6 : (0 : Int) ≤ s 216 i.toNat ∧ s 216 i.toNat ≤ 99 := hG 216 i.toNat
    have g7 : (0 : Int) ≤ s 217 i.toNat ∧ s 217 i.toNat ≤ 39 := hG 217 i.toNat
    rw [q2] at h2
    refine ⟨(s 217 i.toNat).toNat, by omega, ⟨i, by omega, ⟨by omega, by omega⟩, by omega⟩, ?_⟩
    rw [show (((s 217 i.toNat).toNat : Nat) : Int) = s 217 i.toNat by omega]
    exact (z.sh hp (by omega)).mp h2
  · rintro ⟨m, hm, ⟨i, hi, ⟨h1, h2⟩, h3⟩, h4⟩
    obtain ⟨q1, q2⟩ := w2 i hi.1 (by omega)
    have g7 : (0 : Int) ≤ s 217 i.toNat ∧ s 217 i.toNat ≤ 39 := hG 217 i.toNat
    refine ⟨i, by omega, by omega, ?_⟩
    rw [q2, h3]
    exact (z.sh hp (by omega)).mpr h4
theorem swR.eq {s s' : xS} (h2 : s' 282 = s 282) (h0 : s' 256 40 = s 256 40) (h4 : s' 284 = s 284) (h5 : s' 285 = s 285) (p v : Int) : swR s' p v = swR s p v := by
  unfold swR shR
  rw [h2, h0, h4, h5]
/-- a row's step, as the reference holds it -/
theorem Q1.at {s : xS} {a k : Int} (h : Q1 s) (ha : 0 ≤ a ∧ a < s 218 6) (hk : 0 ≤ k ∧ k < s 286 a.toNat) : s (220 + 1 + a.toNat) k.toNat = dc (s 287 (110 * a + k).toNat) (s 288 (110 * a + k).toNat) := by
  obtain ⟨-, -, h3, h4⟩ := h.row ha
  rw [h4 k.toNat (by omega)]
  unfold rkF
  rw [show (110 * a + k).toNat = 110 * a.toNat + k.toNat by omega]
