/-! the class's looking -/
section VEF
variable {s σ : xS}
theorem VE.fjE (h : VE s σ) (e : Int) (n : Nat) (m : Int) : fjG (enC s e) (joC s) n m = fjG (enC σ e) (joC σ) n m := by
  rw [h.jo, show enC s e = enC σ e from funext fun m => propext (h.en e m)]
theorem VE.ftE (h : VE s σ) (e : Int) (n : Nat) (m : Int) : ftG (s 1 4) (thC s e) (parC s e) n m = ftG (σ 1 4) (thC σ e) (parC σ e) n m := by
  rw [h.pa, h.1.1, show thC s e = thC σ e from funext fun m => propext (h.th e m)]
theorem VE.raE (h : VE s σ) (e : Int) (n : Nat) (m : Int) : raG (parC s e) n m = raG (parC σ e) n m := by rw [h.pa]
end VEF
theorem VJ.fl {L : List Nat} {s s' σ : xS} (h : VJ s σ) (f : FL L s s') (hL : ∀ x ∈ [3712, 3776, 3840], x ∉ L) : VJ s' σ := by
  have b0 : s' 250 = s 250 := funext fun i => f 250 i (hL 3712 (by decide))
  have b1 : s' 251 = s 251 := funext fun i => f 251 i (hL 3776 (by decide))
  have b2 : s' 252 = s 252 := funext fun i => f 252 i (hL 3840 (by decide))
  unfold VJ at h ⊢
  rw [b0, b1, b2]
  exact h
theorem VJ.up {s σ : xS} {q i : Nat} {v : Int} (h : VJ s σ) (hL : x_pl q i ∉ [3712, 3776, 3840]) : VJ (x_up s q i v) σ := h.fl FL.one (fun x hx hm => hL (by rw [← List.mem_singleton.mp hm]; exact hx))
/-- the first n givings' meanings stand -/
def MEn (s σ : xS) (e n : Int) : Prop := ∀ g : Int, 0 ≤ g → g < n → s 253 g.toNat = meC σ e g ∧ (s 254 g.toNat = 1 ↔ loC σ e g)
def SHn (s σ : xS) (e n : Int) : Prop := ∀ p : Int, 0 ≤ p → p ≤ 39 → ∀ k : Nat, k < 64 → (bt (s 255 p.toNat) k = true ↔ ∃ g : Int, (0 ≤ g ∧ g < n) ∧ σ 51 g.toNat = p ∧ 0 ≤ meC σ e g ∧ onp σ e 40 (meC σ e g) k)
theorem MEn_0 {s σ : xS} {e : Int} : MEn s σ e 0 := fun g h0 h1 => by omega
theorem SHn_0 {s σ : xS} {e : Int} (h : ∀ j : Nat, (j : Int) < 40 → s 255 j = 0) : SHn s σ e 0 := fun p p0 p1 k hk => by
  rw [h p.toNat (by omega), bt_0]
  exact ⟨fun w => (by cases w), fun ⟨g, w, _⟩ => by omega⟩
theorem MEn.add {s s' σ : xS} {e n z : Int} (h : MEn s σ e n) (hn : 0 ≤ n) (h3 : ∀ j : Nat, s' 253 j = if j = n.toNat then z else s 253 j) (ez : z = meC σ e n) (h4 : s' 254 n.toNat = 1 ↔ loC σ e n) (h5 : ∀ j : Nat, j ≠ n.toNat → s' 254 j = s 254 j) : MEn s' σ e (n + 1) := fun g g0 g1 => by
  rw [h3]
  by_cases q : g = n
  · subst q; rw [if_pos rfl]; exact ⟨ez, h4⟩
  · rw [if_neg (by omega), h5 _ (by omega)]; exact h g g0 (by omega)
theorem SHn.no {s s' σ : xS} {e n : Int} (h : SHn s σ e n) (h5 : s' 255 = s 255) (hm : ¬ 0 ≤ meC σ e n) : SHn s' σ e (n + 1) := fun p p0 p1 k hk => by
  rw [h5, h p p0 p1 k hk]
  constructor
  · rintro ⟨g, q, w⟩; exact ⟨g, by omega, w⟩
  · rintro ⟨g, q, w⟩
    by_cases e1 : g = n
    · subst e1; exact absurd w.2.1 hm
    · exact ⟨g, by omega, w⟩
theorem SHn.yes {s s' σ : xS} {e n p v w u : Int} (h : SHn s σ e n) (hn : 0 ≤ n) (hp : 0 ≤ p ∧ p ≤ 39) (ep : σ 51 n.toNat = p) (h5 : ∀ j : Nat, s' 255 j = if j = p.toNat then v else s 255 j) (eu : u = s 255 p.toNat) (g1 : ∀ k, bt v k = (bt u k || bt w k)) (hw : ∀ k : Nat, k < 64 → (bt w k = true ↔ onp σ e 40 (meC σ e n) k)) (hm : 0 ≤ meC σ e n) : SHn s' σ e (n + 1) := fun q q0 q1 k hk => by
  rw [h5]
  by_cases z : q = p
  · subst z
    rw [if_pos rfl, g1 k, Bool.or_eq_true, eu, h q q0 q1 k hk, hw k hk]
    constructor
    · rintro (⟨g, a, b⟩ | a)
      · exact ⟨g, by omega, b⟩
      · exact ⟨n, by omega, ep, hm, a⟩
    · rintro ⟨g, a, b⟩
      by_cases e1 : g = n
      · subst e1; exact Or.inr b.2.2
      · exact Or.inl ⟨g, by omega, b⟩
  · rw [if_neg (by omega), h q q0 q1 k hk]
    constructor
    · rintro ⟨g, a, b⟩; exact ⟨g, by omega, b⟩
    · rintro ⟨g, a, b⟩
      by_cases e1 : g = n
      · subst e1; exact absurd (b.1.symm.trans ep) z
      · exact ⟨g, by omega, b⟩
theorem meC_n {s : xS} {e g : Int} (h : nuC s e g) : meC s e g = -1 := pIf_y h
theorem meC_y {s : xS} {e g : Int} (h : ¬ nuC s e g) : meC s e g = raG (parC s e) (raC s g).toNat (ftG (s 1 4) (thC s e) (parC s e) 40 (fiM s e g)) := pIf_n h
theorem loC_n {s : xS} {e g : Int} (h : nuC s e g) : ¬ loC s e g := fun w => w.1 h
theorem VL_of {s σ : xS} {e n : Int} (h1 : MEn s σ e n) (h2 : SHn s σ e n) (hn : n = σ 50 6) : VL s σ e := by
  subst hn; exact ⟨h1, h2⟩
theorem if_dd {p : Prop} [Decidable p] {x y w : Int} : (if p then x else if p then y else w) = if p then x else w := by
  by_cases h : p
  · rw [if_pos h, if_pos h]
  · rw [if_neg h, if_neg h, if_neg h]
