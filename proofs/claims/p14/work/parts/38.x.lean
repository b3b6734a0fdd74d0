/-! both trees: how many are below a mark that ends -/
theorem onp_cg {s s' : xS} (h4 : s' 1 4 = s 1 4) (h40 : s 1 4 ≤ 40) (hr : ∀ r j : Nat, 6 ≤ r → r ≤ 45 → s' r j = s r j) {e k : Int} : ∀ (n : Nat) (x : Int), onp s' e n x k ↔ onp s e n x k := by
  intro n
  induction n with
  | zero => intro x; exact Iff.rfl
  | succ n ih =>
    intro x
    show ((0 ≤ x ∧ x < s' 1 4) ∧ (x = k ∨ onp s' e n (parC s' e x) k)) ↔ ((0 ≤ x ∧ x < s 1 4) ∧ (x = k ∨ onp s e n (parC s e x) k))
    rw [h4, ih]
    by_cases hx : 0 ≤ x ∧ x < s 1 4
    · have hp : parC s' e x = parC s e x := by
        unfold parC
        rw [h4, hr (5 + 1 + x.toNat) e.toNat (by omega) (by omega)]
      rw [hp]
    · exact ⟨fun w => absurd w.1 hx, fun w => absurd w.1 hx⟩
theorem onp_ct {s s' : xS} (h4 : s' 1 4 = s 1 4) (h40 : s 1 4 ≤ 40) (hr : ∀ r j : Nat, 6 ≤ r → r ≤ 45 → s' r j = s r j) (e a : Int) :
    ctp (fun k => (0 ≤ a ∧ a < s' 1 4) ∧ onp s' e 40 (k : Int) a) (s' 1 4).toNat = ctp (fun k => (0 ≤ a ∧ a < s 1 4) ∧ onp s e 40 (k : Int) a) (s 1 4).toNat := by
  rw [h4]
  exact ctp_cg _ (fun k _ => and_congr Iff.rfl (onp_cg h4 h40 hr 40 (k : Int)))
theorem xup_ct {s s' : xS} (h1 : s' 256 1 = s 256 1) (h7 : s' 257 = s 257) (h0 : s' 260 = s 260) (e a : Int) :
    ctp (fun k => (((k : Int) < s' 256 1 ∧ s' 257 k ≤ e) ∧ a < s' 256 1 ∧ s' 257 a.toNat ≤ e) ∧ ∃ j, xup s' e j (k : Int) = a) (s' 256 1).toNat = ctp (fun k => (((k : Int) < s 256 1 ∧ s 257 k ≤ e) ∧ a < s 256 1 ∧ s 257 a.toNat ≤ e) ∧ ∃ j, xup s e j (k : Int) = a) (s 256 1).toNat := by
  rw [h1, h7]
  exact ctp_cg _ (fun k _ => and_congr Iff.rfl (exists_congr (fun j => by rw [xup_eq h0])))
/-- what the class's end answers -/
def EzC (s : xS) (a b z : Int) : Prop :=
  (¬ ((0 ≤ a ∧ a < s 1 4) ∧ (b = -1 ∨ (0 ≤ b ∧ b < s 1 4))) ∧ z = -1001) ∨
  (((0 ≤ a ∧ a < s 1 4) ∧ (b = -1 ∨ (0 ≤ b ∧ b < s 1 4))) ∧ ¬ (a ≠ 0 ∧ a ≠ b ∧ (s 2 a.toNat ≤ s 0 10 ∧ ¬ (s 3 a.toNat ≠ -1 ∧ s 3 a.toNat ≤ s 0 10)) ∧ (b = -1 ∨ (s 2 b.toNat ≤ s 0 10 ∧ ¬ (s 3 b.toNat ≠ -1 ∧ s 3 b.toNat ≤ s 0 10)))) ∧ z = -1003) ∨
  (((0 ≤ a ∧ a < s 1 4) ∧ (b = -1 ∨ (0 ≤ b ∧ b < s 1 4))) ∧ (a ≠ 0 ∧ a ≠ b ∧ (s 2 a.toNat ≤ s 0 10 ∧ ¬ (s 3 a.toNat ≠ -1 ∧ s 3 a.toNat ≤ s 0 10)) ∧ (b = -1 ∨ (s 2 b.toNat ≤ s 0 10 ∧ ¬ (s 3 b.toNat ≠ -1 ∧ s 3 b.toNat ≤ s 0 10)))) ∧ z = ctp (fun k => (0 ≤ a ∧ a < s 1 4) ∧ onp s (s 0 10) 40 (k : Int) a) (s 1 4).toNat - 1)
/-- what the reference's end answers -/
def EzR (s : xS) (a b z : Int) : Prop :=
  (¬ ((0 ≤ a ∧ a < s 256 1) ∧ (b = -1 ∨ (0 ≤ b ∧ b < s 256 1))) ∧ z = -1001) ∨
  (((0 ≤ a ∧ a < s 256 1) ∧ (b = -1 ∨ (0 ≤ b ∧ b < s 256 1))) ∧ ¬ (a ≠ 0 ∧ a ≠ b ∧ (s 257 a.toNat ≤ s 256 0 ∧ (s 258 a.toNat < 0 ∨ s 256 0 < s 258 a.toNat)) ∧ (b = -1 ∨ (s 257 b.toNat ≤ s 256 0 ∧ (s 258 b.toNat < 0 ∨ s 256 0 < s 258 b.toNat)))) ∧ z = -1003) ∨
  (((0 ≤ a ∧ a < s 256 1) ∧ (b = -1 ∨ (0 ≤ b ∧ b < s 256 1))) ∧ (a ≠ 0 ∧ a ≠ b ∧ (s 257 a.toNat ≤ s 256 0 ∧ (s 258 a.toNat < 0 ∨ s 256 0 < s 258 a.toNat)) ∧ (b = -1 ∨ (s 257 b.toNat ≤ s 256 0 ∧ (s 258 b.toNat < 0 ∨ s 256 0 < s 258 b.toNat)))) ∧ z = ctp (fun k => (((k : Int) < s 256 1 ∧ s 257 k ≤ s 256 0) ∧ a < s 256 1 ∧ s 257 a.toNat ≤ s 256 0) ∧ ∃ j, xup s (s 256 0) j (k : Int) = a) (s 256 1).toNat - 1)
theorem P1.ct {s : xS} (h : P1 s) (t : T0 s) (hJ : J s) (hG : GI s) {a : Int} (ha : 0 ≤ a ∧ a < s 256 1) :
    ctp (fun k => (0 ≤ a ∧ a < s 1 4) ∧ onp s (s 0 10) 40 (k : Int) a) (s 1 4).toNat = ctp (fun k => (((k : Int) < s 256 1 ∧ s 257 k ≤ s 256 0) ∧ a < s 256 1 ∧ s 257 a.toNat ≤ s 256 0) ∧ ∃ j, xup s (s 256 0) j (k : Int) = a) (s 256 1).toNat := by
  have g1 : (1 : Int) ≤ s 256 1 ∧ s 256 1 ≤ 40 := hG 256 1
  rw [t.2.1]
  refine ctp_cg _ (fun k hk => ?_)
  have hk2 : (0 : Int) ≤ (k : Int) ∧ (k : Int) < s 256 1 := by omega
  have e1 := (h k hk2.1 hk2.2).1
  rw [show ((k : Int)).toNat = k from rfl] at e1
  have e2 := (h a ha.1 ha.2).1
  constructor
  · rintro ⟨w1, w2⟩
    exact ⟨⟨⟨hk2.2, e1⟩, ha.2, e2⟩, (h.way t hJ hG ha.1 hk2).mp w2⟩
  · rintro ⟨w1, w2⟩
    exact ⟨ha, (h.way t hJ hG ha.1 hk2).mpr w2⟩
theorem P1.endz {L1 : List Nat} {s s1 : xS} {a b z1 z2 : Int} (h : P1 s) (t : T0 s) (hJ : J s) (hG : GI s) (f1 : FL L1 s s1) (hL1 : ∀ x ∈ [4097, 4098, 4160, 4224, 4352], x ∉ L1) (x1 : EzC s a b z1) (x2 : EzR s1 a b z2) : z1 = z2 := by
  have g1 : (1 : Int) ≤ s 256 1 ∧ s 256 1 ≤ 40 := hG 256 1
  have a1 : s1 256 1 = s 256 1 := f1 256 1 (hL1 4098 (by decide))
  have a2 : s1 256 0 = s 256 0 := f1 256 0 (hL1 4097 (by decide))
  have b1 : s1 257 = s 257 := funext fun i => f1 257 i (hL1 4160 (by decide))
  have b0 : s1 258 = s 258 := funext fun i => f1 258 i (hL1 4224 (by decide))
  have b2 : s1 260 = s 260 := funext fun i => f1 260 i (hL1 4352 (by decide))
  have h0 := t.1
  have h1 := t.2.1
  have hk : ∀ a : Int, 0 ≤ a → a < s 256 1 → s 2 a.toNat = s 257 a.toNat ∧ s 3 a.toNat = s 258 a.toNat := fun a u v => (t.2.2 a u (by omega)).1 v
  have ha := hk a
  have hb := hk b
  have hg : -1 ≤ s 3 a.toNat ∧ s 3 a.toNat ≤ 9 := hG 3 a.toNat
  have hg2 : -1 ≤ s 3 b.toNat ∧ s 3 b.toNat ≤ 9 := hG 3 b.toNat
  unfold EzC at x1
  unfold EzR at x2
  have e := xup_ct a1 b1 b2 (s1 256 0) a
  rw [e, a1, a2, b1, b0] at x2
  rcases x1 with ⟨k1, k2⟩ | ⟨k1, k2, k3⟩ | ⟨k1, k2, k3⟩ <;> rcases x2 with ⟨m1, m2⟩ | ⟨m1, m2, m3⟩ | ⟨m1, m2, m3⟩
  case inr.inr.inr.inr =>
    rw [k3, m3, h.ct t hJ hG m1.1]
  all_goals omega
