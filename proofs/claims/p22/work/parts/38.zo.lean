/-! queries over sets of pictures: together, along, split -/
/-- products, quotients as the machine makes them -/
noncomputable def jml (a b : Int) : Int := Classical.choose (in32_any (Int32.ofInt a * Int32.ofInt b))
theorem jml_s (a b : Int) : in32 (jml a b) ∧ Int32.ofInt a * Int32.ofInt b = Int32.ofInt (jml a b) := Classical.choose_spec (in32_any (Int32.ofInt a * Int32.ofInt b))
noncomputable def jdv (a b : Int) : Int := Classical.choose (in32_any (Int32.ofInt a / Int32.ofInt b))
theorem jdv_s (a b : Int) : in32 (jdv a b) ∧ Int32.ofInt a / Int32.ofInt b = Int32.ofInt (jdv a b) := Classical.choose_spec (in32_any (Int32.ofInt a / Int32.ofInt b))
section XJM
variable {X : pmX} {m pc : Nat} {ls : pmL} {r : List Value} {s : xS} {c k : Nat} {P : xS → Option Value → Prop} {len : Nat} {a b : Int}
theorem x_imul_f (hk : pm_look (pm_kl m) pc = some (.imul, len)) (kk : ∀ t, in32 t → t = jml a b → xe X m (pc + 1) ls (vi t :: r) s c k P) : xe X m pc ls (vi b :: vi a :: r) s c k P := fun h hr => by
  obtain ⟨ht, e⟩ := jml_s a b
  exact x_A hk (fun h => by simp only [pm_stepA]; rw [e]) (kk _ ht rfl) h hr
theorem x_idiv_f (hk : pm_look (pm_kl m) pc = some (.idiv, len)) (hb : in32 b) (h0 : b ≠ 0) (kk : ∀ t, in32 t → t = jdv a b → xe X m (pc + 1) ls (vi t :: r) s c k P) : xe X m pc ls (vi b :: vi a :: r) s c k P := fun h hr => by
  obtain ⟨ht, e⟩ := jdv_s a b
  exact x_A hk (fun h => by simp only [pm_stepA, if_neg (x_ne0 hb h0)]; rw [e]) (kk _ ht rfl) h hr
end XJM
theorem ctp_cut {P : Nat → Prop} {n m : Nat} (h : n ≤ m) (hp : ∀ k, n ≤ k → k < m → ¬ P k) : ctp P m = ctp P n := by
  obtain ⟨d, rfl⟩ := Nat.exists_eq_add_of_le h
  clear h
  induction d with
  | zero => rfl
  | succ d ih =>
    show ctp P (n + d) + @ite Int (P (n + d)) (Classical.propDecidable _) 1 0 = ctp P n
    rw [if_neg (hp (n + d) (by omega) (by omega)), ih (fun k k1 k2 => hp k k1 (by omega))]
    omega
theorem ctp_and (P Q : Nat → Prop) (n : Nat) : ctp (fun k => P k ∧ Q k) n + ctp (fun k => P k ∧ ¬ Q k) n = ctp P n := by
  induction n with
  | zero => rfl
  | succ n ih =>
    show ctp (fun k => P k ∧ Q k) n + @ite Int (P n ∧ Q n) (Classical.propDecidable _) 1 0 + (ctp (fun k => P k ∧ ¬ Q k) n + @ite Int (P n ∧ ¬ Q n) (Classical.propDecidable _) 1 0) = ctp P n + @ite Int (P n) (Classical.propDecidable _) 1 0
    by_cases h : P n
    · by_cases q : Q n
      · rw [if_pos ⟨h, q⟩, if_neg (fun w => w.2 q), if_pos h]; omega
      · rw [if_neg (fun w => q w.2), if_pos ⟨h, q⟩, if_pos h]; omega
    · rw [if_neg (fun w => h w.1), if_neg (fun w => h w.1), if_neg h]; omega
theorem ctp_mo {P : Nat → Prop} {n m : Nat} (h : n ≤ m) : ctp P n ≤ ctp P m := by
  obtain ⟨d, rfl⟩ := Nat.exists_eq_add_of_le h
  clear h
  induction d with
  | zero => exact Int.le_refl _
  | succ d ih =>
    show ctp P n ≤ ctp P (n + d) + @ite Int (P (n + d)) (Classical.propDecidable _) 1 0
    by_cases q : P (n + d)
    · rw [if_pos q]; omega
    · rw [if_neg q]; omega
theorem ctp_lt {P : Nat → Prop} {i j : Nat} (h : i < j) (hp : P i) : ctp P i < ctp P j := by
  have h1 : ctp P (i + 1) = ctp P i + 1 := by
    show ctp P i + @ite Int (P i) (Classical.propDecidable _) 1 0 = _
    rw [if_pos hp]
  have := ctp_mo (P := P) (show i + 1 ≤ j from h)
  omega
/-- the d-th of those below n; for d = -1 their number -/
def pkS (P : Nat → Prop) (n : Nat) (d z : Int) : Prop := (d = -1 ∧ z = ctp P n) ∨ (d ≠ -1 ∧ ((z = -1 ∧ ∀ i : Nat, i < n → P i → ctp P i ≠ d) ∨ ∃ i : Nat, i < n ∧ z = (i : Int) ∧ P i ∧ ctp P i = d))
theorem pkS.u {P : Nat → Prop} {n : Nat} {d z1 z2 : Int} (h1 : pkS P n d z1) (h2 : pkS P n d z2) : z1 = z2 := by
  rcases h1 with ⟨a1, a2⟩ | ⟨a1, ⟨a2, a3⟩ | ⟨i, a2, a3, a4, a5⟩⟩ <;> rcases h2 with ⟨b1, b2⟩ | ⟨b1, ⟨b2, b3⟩ | ⟨j, b2, b3, b4, b5⟩⟩
  case inr.inl.inr.inr => exact absurd b5 (a3 j b2 b4)
  case inr.inr.inr.inl => exact absurd a5 (b3 i a2 a4)
  case inr.inr.inr.inr =>
    rcases Nat.lt_trichotomy i j with q | q | q
    · have := ctp_lt q a4; omega
    · omega
    · have := ctp_lt q b4; omega
  all_goals omega
theorem pkS.cg {P Q : Nat → Prop} {n : Nat} {d z : Int} (h : pkS P n d z) (e : ∀ k, k < n → (P k ↔ Q k)) : pkS Q n d z := by
  have c : ∀ i : Nat, i ≤ n → ctp P i = ctp Q i := fun i hi => ctp_cg i (fun k hk => e k (by omega))
  rcases h with ⟨a1, a2⟩ | ⟨a1, ⟨a2, a3⟩ | ⟨i, a2, a3, a4, a5⟩⟩
  · exact Or.inl ⟨a1, by rw [a2, c n (Nat.le_refl _)]⟩
  · exact Or.inr ⟨a1, Or.inl ⟨a2, fun i hi hq => by rw [← c i (by omega)]; exact a3 i hi ((e i hi).mpr hq)⟩⟩
  · exact Or.inr ⟨a1, Or.inr ⟨i, a2, a3, (e i a2).mp a4, by rw [← c i (by omega)]; exact a5⟩⟩
/-- as the class's pick says it -/
def pkT (P : Nat → Prop) (d z : Int) : Prop := (d = -1 ∧ z = ctp P 64) ∨ (d ≠ -1 ∧ ((z = -1 ∧ ∀ i : Nat, i < 40 → P i → ctp P i ≠ d) ∨ ∃ i : Nat, i < 40 ∧ z = (i : Int) ∧ P i ∧ ctp P i = d))
theorem pkT.s {P Q : Nat → Prop} {n : Nat} {d z : Int} (h : pkT P d z) (hn : n ≤ 40) (e : ∀ k : Nat, k < 64 → (P k ↔ (k < n ∧ Q k))) : pkS Q n d z := by
  have hf : ∀ k, n ≤ k → k < 64 → ¬ P k := fun k k1 k2 w => by have := ((e k k2).mp w).1; omega
  refine pkS.cg (P := P) ?_ (fun k hk => (e k (by omega)).trans ⟨fun w => w.2, fun w => ⟨hk, w⟩⟩)
  rcases h with ⟨a1, a2⟩ | ⟨a1, ⟨a2, a3⟩ | ⟨i, a2, a3, a4, a5⟩⟩
  · exact Or.inl ⟨a1, by rw [a2]; exact ctp_cut (by omega) hf⟩
  · exact Or.inr ⟨a1, Or.inl ⟨a2, fun i hi => a3 i (by omega)⟩⟩
  · refine Or.inr ⟨a1, Or.inr ⟨i, ?_, a3, a4, a5⟩⟩
    by_cases q : i < n
    · exact q
    · exact absurd a4 (hf i (by omega) (by omega))
/-- a set of pictures, by its bits, that the class makes of what is shown -/
theorem VL.sw {s σ : xS} {e z a : Int} (l : VL s σ e) (hG : GI σ) (ha : 0 ≤ a ∧ a ≤ 39) (h : ∀ k : Nat, k < 64 → (bt z k = true ↔ (k : Int) < 40 ∧ bt (s 255 k) a.toNat = true)) : ∀ k : Nat, k < 64 → (bt z k = true ↔ shC σ e k a) := fun k hk => by
  rw [h k hk]
  have e1 : ((a.toNat : Nat) : Int) = a := by omega
  have key : (k : Int) < 40 → (bt (s 255 k) a.toNat = true ↔ shC σ e k a) := fun h40 => by
    have q := l.2 (k : Int) (by omega) (by omega) a.toNat (by omega)
    rw [e1, show ((k : Int)).toNat = k from rfl] at q
    exact q
  constructor
  · rintro ⟨w1, w2⟩; exact (key w1).mp w2
  · intro w
    have h40 : (k : Int) < 40 := by
      obtain ⟨g, g1, g2, -⟩ := w
      have gg : (0 : Int) ≤ σ 50 6 ∧ σ 50 6 ≤ 120 := hG 50 6
      have gp : (0 : Int) ≤ σ 51 g.toNat ∧ σ 51 g.toNat ≤ 39 := hG 51 g.toNat
      omega
    exact ⟨h40, (key h40).mpr w⟩
theorem shC.lt {s : xS} {e p k : Int} (g3 : G3 s) (hG : GI s) (w : shC s e p k) : 0 ≤ p ∧ p < s 46 3 := by
  obtain ⟨g, g1, g2, -⟩ := w
  have gg : (0 : Int) ≤ s 50 6 ∧ s 50 6 ≤ 120 := hG 50 6
  have gp : (0 : Int) ≤ s 51 g.toNat ∧ s 51 g.toNat ≤ 39 := hG 51 g.toNat
  have := (g3.2 g g1.1 (by omega) g1.2).2.1
  omega
/-- neither above the other -/
def apC (s : xS) (e m n : Int) : Prop := thC s e n ∧ ¬ onp s e 40 n m ∧ ¬ onp s e 40 m n
theorem VE.ap {s σ : xS} (h : VE s σ) (e m n : Int) : apC s e m n ↔ apC σ e m n := by unfold apC; rw [h.th, h.on, h.on]
/-- more often together than by chance -/
noncomputable def shX (s : xS) (e m : Int) : Int := ctp (fun p => shC s e (p : Int) m) 40
noncomputable def shZ (s : xS) (e m n : Int) : Int := ctp (fun p => shC s e (p : Int) m ∧ shC s e (p : Int) n) 40
noncomputable def shD (s : xS) (e m n : Int) : Int := ctp (fun p => shC s e (p : Int) m ∧ ¬ shC s e (p : Int) n) 40
def alC (s : xS) (e m n : Int) : Prop := apC s e m n ∧ jml (shX s e m) (shX s e n) < jml (shZ s e m n) (s 46 3)
theorem VE.shX {s σ : xS} (h : VE s σ) (e m : Int) : shX s e m = shX σ e m := ctp_cg _ (fun k _ => h.sh _ _ _)
theorem VE.shZ {s σ : xS} (h : VE s σ) (e m n : Int) : shZ s e m n = shZ σ e m n := ctp_cg _ (fun k _ => and_congr (h.sh _ _ _) (h.sh _ _ _))
theorem VE.shD {s σ : xS} (h : VE s σ) (e m n : Int) : shD s e m n = shD σ e m n := ctp_cg _ (fun k _ => and_congr (h.sh _ _ _) (not_congr (h.sh _ _ _)))
theorem VE.ag {s σ : xS} (h : VE s σ) (h46 : s 46 3 = σ 46 3) (e m n : Int) : alC s e m n ↔ alC σ e m n := by unfold alC; rw [h.ap, h.shX, h.shX, h.shZ, h46]
/-- counting the bits of a set -/
theorem bc_of {z y : Int} {P : Nat → Prop} (h : y = ctp (fun k => bt z k = true) 64) (e : ∀ k : Nat, k < 64 → (bt z k = true ↔ (k : Int) < 40 ∧ P k)) : y = ctp P 40 := by
  rw [h, ctp_cut (n := 40) (by omega) (fun k k1 k2 w => by have := ((e k k2).mp w).1; omega)]
  exact ctp_cg _ (fun k hk => (e k (by omega)).trans ⟨fun w => w.2, fun w => ⟨by omega, w⟩⟩)
theorem sh40 {s : xS} {e p a : Int} (hG : GI s) (w : shC s e p a) : p < 40 := by
  obtain ⟨g, g1, g2, -⟩ := w
  have gp : (0 : Int) ≤ s 51 g.toNat ∧ s 51 g.toNat ≤ 39 := hG 51 g.toNat
  omega
/-- greatest share that is left when one asks for n -/
noncomputable def grC (s : xS) (e m n : Int) : Int := if shD s e m n ≤ shZ s e m n then shZ s e m n else shD s e m n
theorem VE.gr {s σ : xS} (h : VE s σ) (e m n : Int) : grC s e m n = grC σ e m n := by unfold grC; rw [h.shZ, h.shD]
theorem grC_n (s : xS) (e m n : Int) : 0 ≤ grC s e m n := by
  have h1 := (ctp_ge (P := fun p => shC s e (p : Int) m ∧ shC s e (p : Int) n) 40).1
  have h2 := (ctp_ge (P := fun p => shC s e (p : Int) m ∧ ¬ shC s e (p : Int) n) 40).1
  unfold grC
  by_cases q : shD s e m n ≤ shZ s e m n
  · rw [if_pos q]; exact h1
  · rw [if_neg q]; exact h2
theorem shZD (s : xS) (e m n : Int) : shZ s e m n + shD s e m n = shX s e m := ctp_and _ _ 40
/-- the best mark to ask for, of the first N -/
def spB (s : xS) (e m N b l : Int) : Prop := (b = -1 ∧ l = -1 ∧ ∀ k : Int, 0 ≤ k → k < N → ¬ apC s e m k) ∨ ((0 ≤ b ∧ b < N) ∧ apC s e m b ∧ l = grC s e m b ∧ (∀ k : Int, 0 ≤ k → k < N → apC s e m k → l ≤ grC s e m k) ∧ ∀ k : Int, 0 ≤ k → k < b → apC s e m k → l < grC s e m k)
theorem spB_0 {s : xS} {e m : Int} : spB s e m 0 (-1) (-1) := Or.inl ⟨rfl, rfl, fun k k0 k1 => by omega⟩
theorem spB.no {s : xS} {e m N b l : Int} (h : spB s e m N b l) (q : ¬ apC s e m N) : spB s e m (N + 1) b l := by
  rcases h with ⟨h1, h2, h3⟩ | ⟨h1, h2, h3, h4, h5⟩
  · exact Or.inl ⟨h1, h2, no_si h3 q⟩
  · refine Or.inr ⟨by omega, h2, h3, fun k k0 k1 w => ?_, h5⟩
    by_cases z : k = N
    · rw [z] at w; exact absurd w q
    · exact h4 k k0 (by omega) w
theorem spB.keep {s : xS} {e m N b l : Int} (h : spB s e m N b l) (hb : b ≠ -1) (q : l ≤ grC s e m N) : spB s e m (N + 1) b l := by
  rcases h with ⟨h1, h2, h3⟩ | ⟨h1, h2, h3, h4, h5⟩
  · exact absurd h1 hb
  · refine Or.inr ⟨by omega, h2, h3, fun k k0 k1 w => ?_, h5⟩
    by_cases z : k = N
    · rw [z]; exact q
    · exact h4 k k0 (by omega) w
theorem spB.new {s : xS} {e m N b l l2 : Int} (h : spB s e m N b l) (hN : 0 ≤ N) (a : apC s e m N) (el : l2 = grC s e m N) (q : b = -1 ∨ l2 < l) : spB s e m (N + 1) N l2 := by
  subst el
  rcases h with ⟨h1, h2, h3⟩ | ⟨h1, h2, h3, h4, h5⟩
  · refine Or.inr ⟨by omega, a, rfl, fun k k0 k1 w => ?_, fun k k0 k1 w => absurd w (h3 k k0 k1)⟩
    by_cases z : k = N
    · rw [z]; exact Int.le_refl _
    · exact absurd w (h3 k k0 (by omega))
  · refine Or.inr ⟨by omega, a, rfl, fun k k0 k1 w => ?_, fun k k0 k1 w => by have := h4 k k0 k1 w; omega⟩
    by_cases z : k = N
    · rw [z]; exact Int.le_refl _
    · have := h4 k k0 (by omega) w; omega
theorem spB.u {s : xS} {e m N b1 l1 b2 l2 : Int} (h : spB s e m N b1 l1) (g : spB s e m N b2 l2) : b1 = b2 ∧ l1 = l2 := by
  rcases h with ⟨h1, h2, h3⟩ | ⟨h1, h2, h3, h4, h5⟩ <;> rcases g with ⟨g1, g2, g3⟩ | ⟨g1, g2, g3, g4, g5⟩
  · omega
  · exact absurd g2 (h3 b2 g1.1 g1.2)
  · exact absurd h2 (g3 b1 h1.1 h1.2)
  · by_cases q : b1 < b2
    · have k1 := g5 b1 h1.1 q h2
      have k2 := h4 b2 g1.1 g1.2 g2
      omega
    · by_cases q2 : b2 < b1
      · have k1 := h5 b2 g1.1 q2 g2
        have k2 := g4 b1 h1.1 h1.2 h2
        omega
      · have e : b1 = b2 := by omega
        subst e
        exact ⟨rfl, by rw [h3, g3]⟩
theorem spB.cg {s σ : xS} (v : VE s σ) {e m N b l : Int} (h : spB s e m N b l) : spB σ e m N b l := by
  unfold spB at h ⊢
  simp only [v.ap, v.gr] at h
  exact h
/-- split -/
def SpS (s : xS) (a b d z : Int) : Prop := (¬ (0 ≤ a ∧ a < s 1 4) ∧ z = -1001) ∨ ((0 ≤ a ∧ a < s 1 4) ∧ ¬ ((0 ≤ b ∧ b ≤ s 0 10) ∧ 0 ≤ d ∧ d ≤ 1) ∧ z = -1002) ∨ ((0 ≤ a ∧ a < s 1 4) ∧ ((0 ≤ b ∧ b ≤ s 0 10) ∧ 0 ≤ d ∧ d ≤ 1) ∧ ∃ x l, spB s b a (s 1 4) x l ∧ z = if d = 0 then x else l)
theorem SpS.u {s : xS} {a b d z1 z2 : Int} (h1 : SpS s a b d z1) (h2 : SpS s a b d z2) : z1 = z2 := by
  rcases h1 with ⟨a1, a2⟩ | ⟨a1, a2, a3⟩ | ⟨a1, a2, x, l, a3, a4⟩ <;> rcases h2 with ⟨b1, b2⟩ | ⟨b1, b2, b3⟩ | ⟨b1, b2, x2, l2, b3, b4⟩
  case inr.inr.inr.inr => obtain ⟨e1, e2⟩ := a3.u b3; rw [a4, b4, e1, e2]
  all_goals omega
theorem SpS.fl {L : List Nat} {s s' : xS} {a b d z : Int} (h : SpS s' a b d z) (hG : GI s) (f : FL L s s') (hL : ∀ x ∈ LVQ, x ∉ L) : SpS s a b d z := by
  have v := f.ve hG (fun x hx => hL x (by revert x; decide))
  have e2 : s' 0 10 = s 0 10 := f 0 10 (hL 11 (by decide))
  have e1 := v.1.1
  unfold SpS at h ⊢
  rw [e1, e2] at h
  rcases h with h | h | ⟨h1, h2, x, l, h3, h4⟩
  · exact Or.inl h
  · exact Or.inr (Or.inl h)
  · exact Or.inr (Or.inr ⟨h1, h2, x, l, h3.cg v, h4⟩)
/-- along -/
def AgS (s : xS) (a b d z : Int) : Prop := (¬ (0 ≤ a ∧ a < s 1 4) ∧ z = -1001) ∨ ((0 ≤ a ∧ a < s 1 4) ∧ ¬ (0 ≤ b ∧ b ≤ s 0 10) ∧ z = -1002) ∨ ((0 ≤ a ∧ a < s 1 4) ∧ (0 ≤ b ∧ b ≤ s 0 10) ∧ pkS (fun n => alC s b a (n : Int)) (s 1 4).toNat d z)
theorem AgS.u {s : xS} {a b d z1 z2 : Int} (h1 : AgS s a b d z1) (h2 : AgS s a b d z2) : z1 = z2 := by
  rcases h1 with ⟨a1, a2⟩ | ⟨a1, a2, a3⟩ | ⟨a1, a2, a3⟩ <;> rcases h2 with ⟨b1, b2⟩ | ⟨b1, b2, b3⟩ | ⟨b1, b2, b3⟩
  case inr.inr.inr.inr => exact a3.u b3
  all_goals omega
theorem AgS.fl {L : List Nat} {s s' : xS} {a b d z : Int} (h : AgS s' a b d z) (hG : GI s) (f : FL L s s') (hL : ∀ x ∈ 452 :: LVQ, x ∉ L) : AgS s a b d z := by
  have v := f.ve hG (fun x hx => hL x (by revert x; decide))
  have e2 : s' 0 10 = s 0 10 := f 0 10 (hL 11 (by decide))
  have e3 : s' 46 3 = s 46 3 := f 46 3 (hL 452 (by decide))
  have e1 := v.1.1
  unfold AgS at h ⊢
  rw [e1, e2] at h
  rcases h with h | h | ⟨h1, h2, h3⟩
  · exact Or.inl h
  · exact Or.inr (Or.inl h)
  · exact Or.inr (Or.inr ⟨h1, h2, h3.cg (fun k _ => v.ag e3 _ _ _)⟩)
/-- together -/
def yrC (s : xS) (f t p : Int) : Prop := p < s 46 3 ∧ f ≤ s 47 p.toNat ∧ s 47 p.toNat ≤ t
noncomputable def tgX (s : xS) (e m f t : Int) : Int := ctp (fun p => yrC s f t (p : Int) ∧ shC s e (p : Int) m) 40
noncomputable def tgZ (s : xS) (e m n f t : Int) : Int := ctp (fun p => yrC s f t (p : Int) ∧ shC s e (p : Int) m ∧ shC s e (p : Int) n) 40
noncomputable def tgN (s : xS) (f t : Int) : Int := ctp (fun p => yrC s f t (p : Int)) 40
noncomputable def tgS (s : xS) (e m n f t w : Int) : Int := if w = 0 then tgX s e m f t else if w = 1 then tgX s e n f t else if w = 2 then tgZ s e m n f t else if w = 3 then tgN s f t else pIf (jml (tgX s e m f t) (tgX s e n f t) < jml (tgZ s e m n f t) (tgN s f t)) 1 0
def TgS (s : xS) (a b d e h j z : Int) : Prop := (¬ ((0 ≤ a ∧ a < s 1 4) ∧ 0 ≤ b ∧ b < s 1 4) ∧ z = -1001) ∨ (((0 ≤ a ∧ a < s 1 4) ∧ 0 ≤ b ∧ b < s 1 4) ∧ ¬ ((0 ≤ d ∧ d ≤ s 0 10) ∧ (0 ≤ e ∧ e ≤ h ∧ h ≤ 999) ∧ 0 ≤ j ∧ j ≤ 4) ∧ z = -1002) ∨ (((0 ≤ a ∧ a < s 1 4) ∧ 0 ≤ b ∧ b < s 1 4) ∧ ((0 ≤ d ∧ d ≤ s 0 10) ∧ (0 ≤ e ∧ e ≤ h ∧ h ≤ 999) ∧ 0 ≤ j ∧ j ≤ 4) ∧ z = tgS s d a b e h j)
theorem TgS.u {s : xS} {a b d e h j z1 z2 : Int} (h1 : TgS s a b d e h j z1) (h2 : TgS s a b d e h j z2) : z1 = z2 := by
  unfold TgS at h1 h2
  omega
theorem TgS.fl {L : List Nat} {s s' : xS} {a b d e h j z : Int} (w : TgS s' a b d e h j z) (hG : GI s) (f : FL L s s') (hL : ∀ x ∈ 452 :: 512 :: LVQ, x ∉ L) : TgS s a b d e h j z := by
  have v := f.ve hG (fun x hx => hL x (by revert x; decide))
  have e2 : s' 0 10 = s 0 10 := f 0 10 (hL 11 (by decide))
  have e3 : s' 46 3 = s 46 3 := f 46 3 (hL 452 (by decide))
  have e4 : s' 47 = s 47 := funext fun i => f 47 i (hL 512 (by decide))
  have e1 := v.1.1
  have y : ∀ p : Int, yrC s' e h p ↔ yrC s e h p := fun p => by unfold yrC; rw [e3, e4]
  have k1 : ∀ m : Int, tgX s' d m e h = tgX s d m e h := fun m => ctp_cg _ (fun k _ => and_congr (y _) (v.sh _ _ _))
  have k2 : ∀ m n : Int, tgZ s' d m n e h = tgZ s d m n e h := fun m n => ctp_cg _ (fun k _ => and_congr (y _) (and_congr (v.sh _ _ _) (v.sh _ _ _)))
  have k3 : tgN s' e h = tgN s e h := ctp_cg _ (fun k _ => y _)
  unfold TgS tgS at w ⊢
  rw [e1, e2, k1, k1, k2, k3] at w
  exact w
/-- sets by their bits -/
theorem sa_0 {P : Nat → Prop} : ∀ k : Nat, k < 64 → (bt 0 k = true ↔ (k : Int) < 0 ∧ P k) := fun k _ => by
  rw [bt_0]
  exact ⟨fun q => (by cases q), fun q => by omega⟩
theorem sa_yes {set sh r x : Int} {P : Nat → Prop} (h0 : 0 ≤ x) (h : ∀ k : Nat, k < 64 → (bt set k = true ↔ (k : Int) < x ∧ P k)) (g1 : ∀ k : Nat, k < 64 → bt sh k = decide (k = x.toNat)) (g2 : ∀ k, bt r k = (bt set k || bt sh k)) (hp : P x.toNat) : ∀ k : Nat, k < 64 → (bt r k = true ↔ (k : Int) < x + 1 ∧ P k) := fun k hk => by
  rw [g2 k, g1 k hk, Bool.or_eq_true, decide_eq_true_eq, h k hk]
  constructor
  · rintro (⟨a, b⟩ | a)
    · exact ⟨by omega, b⟩
    · rw [a]; exact ⟨by omega, hp⟩
  · rintro ⟨a, b⟩
    by_cases q : k = x.toNat
    · exact Or.inr q
    · exact Or.inl ⟨by omega, b⟩
theorem sa_no {set x : Int} {P : Nat → Prop} (h0 : 0 ≤ x) (h : ∀ k : Nat, k < 64 → (bt set k = true ↔ (k : Int) < x ∧ P k)) (hp : ¬ P x.toNat) : ∀ k : Nat, k < 64 → (bt set k = true ↔ (k : Int) < x + 1 ∧ P k) := fun k hk => by
  rw [h k hk]
  constructor
  · rintro ⟨a, b⟩; exact ⟨by omega, b⟩
  · rintro ⟨a, b⟩
    by_cases q : k = x.toNat
    · rw [q] at b; exact absurd b hp
    · exact ⟨by omega, b⟩
theorem bt_mt {t a b : Int} (ht : in64 t) (g : ∀ k, bt t k = (bt a k && bt b k)) : (t = 0 ∧ ¬ ∃ j : Nat, j < 64 ∧ bt a j = true ∧ bt b j = true) ∨ (t ≠ 0 ∧ ∃ j : Nat, j < 64 ∧ bt a j = true ∧ bt b j = true) := by
  have e : t ≠ 0 ↔ ∃ j : Nat, j < 64 ∧ bt a j = true ∧ bt b j = true := by
    rw [bt_z ht]
    exact exists_congr (fun j => and_congr_right (fun _ => by rw [g j, Bool.and_eq_true]))
  by_cases q : t = 0
  · exact Or.inl ⟨q, fun w => e.mpr w q⟩
  · exact Or.inr ⟨q, e.mp q⟩
theorem bc_y {z y : Int} {P : Nat → Prop} (h : y = ctp (fun k => bt z k = true) 64) (e : ∀ k : Nat, k < 64 → (bt z k = true ↔ P k)) (l : ∀ k : Nat, P k → k < 40) : y = ctp P 40 := by
  rw [h, ctp_cut (n := 40) (by omega) (fun k k1 k2 w => by have := l k ((e k k2).mp w); omega)]
  exact ctp_cg _ (fun k hk => e k (by omega))
theorem bc_2 {x y : Int} {P Q : Nat → Prop} (ex : ∀ k : Nat, k < 64 → (bt x k = true ↔ P k)) (ey : ∀ k : Nat, k < 64 → (bt y k = true ↔ Q k)) (l : ∀ k : Nat, P k → k < 40) : ctp (fun k => bt x k = true ∧ bt y k = true) 64 = ctp (fun k => P k ∧ Q k) 40 := by
  rw [ctp_cut (n := 40) (by omega) (fun k k1 k2 w => by have := l k ((ex k k2).mp w.1); omega)]
  exact ctp_cg _ (fun k hk => and_congr (ex k (by omega)) (ey k (by omega)))
theorem al_of {s : xS} {e m n x y N : Int} (hG : GI s) (ex : ∀ k : Nat, k < 64 → (bt x k = true ↔ shC s e k m)) (ey : ∀ k : Nat, k < 64 → (bt y k = true ↔ shC s e k n)) (hN : N = s 46 3) : jml (ctp (fun k => bt x k = true) 64) (ctp (fun k => bt y k = true) 64) < jml (ctp (fun k => bt x k = true ∧ bt y k = true) 64) N ↔ jml (shX s e m) (shX s e n) < jml (shZ s e m n) (s 46 3) := by
  have l : ∀ (a : Int) (k : Nat), shC s e k a → k < 40 := fun a k w => by have := sh40 hG w; omega
  rw [bc_y rfl ex (l m), bc_y rfl ey (l n), bc_2 ex ey (l m), hN]
  exact Iff.rfl
/-- the reference's counts -/
theorem shR.eq {s σ : xS} (h : s 282 = σ 282) (p m : Int) : shR s p m ↔ shR σ p m := by unfold shR; rw [h]
def yrR (s : xS) (f t : Int) (p : Nat) : Prop := f ≤ s 261 p ∧ s 261 p ≤ t
noncomputable def rX (s : xS) (m f t : Int) : Int := ctp (fun p => yrR s f t p ∧ shR s (p : Int) m) (s 256 6).toNat
noncomputable def rZ (s : xS) (m n f t : Int) : Int := ctp (fun p => yrR s f t p ∧ shR s (p : Int) m ∧ shR s (p : Int) n) (s 256 6).toNat
noncomputable def rN (s : xS) (f t : Int) : Int := ctp (fun p => yrR s f t p) (s 256 6).toNat
/-- pictures of both -/
def Y1 (s : xS) : Prop := s 46 3 = s 256 6 ∧ ∀ p : Int, 0 ≤ p → p ≤ 39 → p < s 256 6 → (s 261 p.toNat = s 47 p.toNat ∧ s 262 p.toNat = s 48 p.toNat) ∧ (s 263 p.toNat < 0 → s 49 p.toNat = p) ∧ (0 ≤ s 263 p.toNat → s 263 p.toNat < p ∧ s 49 p.toNat = s 49 (s 263 p.toNat).toNat)
def LY1 : List Nat := [452, 4103, 512, 576, 640, 4416, 4480, 4544]
theorem Y1.cg {s s' : xS} (h : Y1 s) (a0 : s' 46 3 = s 46 3) (a1 : s' 256 6 = s 256 6) (b1 : s' 47 = s 47) (b2 : s' 48 = s 48) (b3 : s' 49 = s 49) (c1 : s' 261 = s 261) (c2 : s' 262 = s 262) (c3 : s' 263 = s 263) : Y1 s' := by
  unfold Y1 at h ⊢
  rw [a0, a1, b1, b2, b3, c1, c2, c3]
  exact h
theorem Y1.fl {L : List Nat} {s s' : xS} (h : Y1 s) (f : FL L s s') (hL : ∀ x ∈ LY1, x ∉ L) : Y1 s' :=
  h.cg (f 46 3 (hL 452 (by decide))) (f 256 6 (hL 4103 (by decide))) (funext fun i => f 47 i (hL 512 (by decide))) (funext fun i => f 48 i (hL 576 (by decide))) (funext fun i => f 49 i (hL 640 (by decide))) (funext fun i => f 261 i (hL 4416 (by decide))) (funext fun i => f 262 i (hL 4480 (by decide))) (funext fun i => f 263 i (hL 4544 (by decide)))
theorem Y1.up {s : xS} {q i : Nat} {v : Int} (h : Y1 s) (hL : x_pl q i ∉ LY1) : Y1 (x_up s q i v) := h.fl FL.one (fun x hx hm => hL (by rw [← List.mem_singleton.mp hm]; exact hx))
section TGO
variable {s σ : xS} {e m n f t : Int}
theorem yr_of (hy : Y1 σ) (hG : GI σ) (e1 : s 261 = σ 261) {k : Nat} (hk : (k : Int) < σ 46 3) : yrR s f t k ↔ yrC σ f t k := by
  have gg : (0 : Int) ≤ σ 46 3 ∧ σ 46 3 ≤ 40 := hG 46 3
  have q := (hy.2 (k : Int) (by omega) (by omega) (by rw [← hy.1]; exact hk)).1.1
  rw [show ((k : Int)).toNat = k from rfl] at q
  unfold yrR yrC
  rw [e1, q]
  exact ⟨fun w => ⟨hk, w⟩, fun w => w.2⟩
theorem tgX_of (z : FdZ s σ e) (hy : Y1 σ) (hG : GI σ) (e1 : s 261 = σ 261) (e6 : s 256 6 = σ 256 6) (hm : 0 ≤ m ∧ m ≤ 39) : rX s m f t = tgX σ e m f t := by
  have gg : (0 : Int) ≤ σ 46 3 ∧ σ 46 3 ≤ 40 := hG 46 3
  have h1 := hy.1
  unfold rX tgX
  rw [ctp_cut (n := (σ 46 3).toNat) (m := 40) (by omega) (fun k k1 _ w => by have := w.1.1; omega), e6, ← h1]
  exact ctp_cg _ (fun k hk => and_congr (yr_of hy hG e1 (by omega)) (z.sh ⟨by omega, by omega⟩ hm))
theorem tgZ_of (z : FdZ s σ e) (hy : Y1 σ) (hG : GI σ) (e1 : s 261 = σ 261) (e6 : s 256 6 = σ 256 6) (hm : 0 ≤ m ∧ m ≤ 39) (hn : 0 ≤ n ∧ n ≤ 39) : rZ s m n f t = tgZ σ e m n f t := by
  have gg : (0 : Int) ≤ σ 46 3 ∧ σ 46 3 ≤ 40 := hG 46 3
  have h1 := hy.1
  unfold rZ tgZ
  rw [ctp_cut (n := (σ 46 3).toNat) (m := 40) (by omega) (fun k k1 _ w => by have := w.1.1; omega), e6, ← h1]
  exact ctp_cg _ (fun k hk => and_congr (yr_of hy hG e1 (by omega)) (and_congr (z.sh ⟨by omega, by omega⟩ hm) (z.sh ⟨by omega, by omega⟩ hn)))
theorem tgN_of (hy : Y1 σ) (hG : GI σ) (e1 : s 261 = σ 261) (e6 : s 256 6 = σ 256 6) : rN s f t = tgN σ f t := by
  have gg : (0 : Int) ≤ σ 46 3 ∧ σ 46 3 ≤ 40 := hG 46 3
  have h1 := hy.1
  unfold rN tgN
  rw [ctp_cut (n := (σ 46 3).toNat) (m := 40) (by omega) (fun k k1 _ w => by have := w.1; omega), e6, ← h1]
  exact ctp_cg _ (fun k hk => yr_of hy hG e1 (by omega))
/-- all years -/
theorem yr_all (hG : GI σ) {k : Nat} : yrC σ 0 999 k ↔ (k : Int) < σ 46 3 := by
  have q : (0 : Int) ≤ σ 47 ((k : Int)).toNat ∧ σ 47 ((k : Int)).toNat ≤ 999 := hG 47 _
  unfold yrC
  exact ⟨fun w => w.1, fun w => ⟨w, q⟩⟩
theorem tgX_all (g3 : G3 σ) (hG : GI σ) : tgX σ e m 0 999 = shX σ e m := ctp_cg _ (fun k _ => (and_congr (yr_all hG) Iff.rfl).trans ⟨fun w => w.2, fun w => ⟨(w.lt g3 hG).2, w⟩⟩)
theorem tgZ_all (g3 : G3 σ) (hG : GI σ) : tgZ σ e m n 0 999 = shZ σ e m n := ctp_cg _ (fun k _ => (and_congr (yr_all hG) Iff.rfl).trans ⟨fun w => w.2, fun w => ⟨(w.1.lt g3 hG).2, w⟩⟩)
theorem tgN_all (hG : GI σ) : tgN σ 0 999 = σ 46 3 := by
  have gg : (0 : Int) ≤ σ 46 3 ∧ σ 46 3 ≤ 40 := hG 46 3
  unfold tgN
  rw [ctp_cut (n := (σ 46 3).toNat) (m := 40) (by omega) (fun k k1 _ w => by have := w.1; omega)]
  have key : ∀ j : Nat, (j : Int) ≤ σ 46 3 → ctp (fun p => yrC σ 0 999 (p : Int)) j = j := fun j => by
    induction j with
    | zero => intro _; rfl
    | succ j ih =>
      intro hj
      show ctp (fun p => yrC σ 0 999 (p : Int)) j + @ite Int (yrC σ 0 999 (j : Int)) (Classical.propDecidable _) 1 0 = _
      rw [if_pos ((yr_all hG).mpr (by omega)), ih (by omega)]
      omega
  rw [key _ (by omega)]
  omega
theorem al_ref (z : FdZ s σ e) (hy : Y1 σ) (g3 : G3 σ) (hG : GI σ) (e1 : s 261 = σ 261) (e6 : s 256 6 = σ 256 6) (hm : 0 ≤ m ∧ m ≤ 39) (hn : 0 ≤ n ∧ n ≤ 39) : jml (rX s m 0 999) (rX s n 0 999) < jml (rZ s m n 0 999) (rN s 0 999) ↔ jml (shX σ e m) (shX σ e n) < jml (shZ σ e m n) (σ 46 3) := by
  rw [tgX_of z hy hG e1 e6 hm, tgX_of z hy hG e1 e6 hn, tgZ_of z hy hG e1 e6 hm hn, tgN_of hy hG e1 e6, tgX_all g3 hG, tgX_all g3 hG, tgZ_all g3 hG, tgN_all hG]
end TGO
theorem cutZ {s : xS} {e m n : Int} (g3 : G3 s) (hG : GI s) : ctp (fun p => shC s e (p : Int) m ∧ shC s e (p : Int) n) (s 256 6).toNat = shZ s e m n := by
  have gg : (0 : Int) ≤ s 46 3 ∧ s 46 3 ≤ 40 := hG 46 3
  have h1 := g3.1
  exact (ctp_cut (by omega) (fun k k1 _ w => by have := w.1.lt g3 hG; omega)).symm
theorem cutD {s : xS} {e m n : Int} (g3 : G3 s) (hG : GI s) : ctp (fun p => shC s e (p : Int) m ∧ ¬ shC s e (p : Int) n) (s 256 6).toNat = shD s e m n := by
  have gg : (0 : Int) ≤ s 46 3 ∧ s 46 3 ≤ 40 := hG 46 3
  have h1 := g3.1
  exact (ctp_cut (by omega) (fun k k1 _ w => by have := w.1.lt g3 hG; omega)).symm
/-- the reference's word of two marks that are apart -/
theorem TR.bel2 {s : xS} (h : TR s) (hJ : J s) (hG : GI s) {e m n : Int} (he : 0 ≤ e ∧ e ≤ 9) (hm : 0 ≤ m ∧ m < s 1 4) (ht : thC s e n) : (((0 ≤ m ∧ m < s 256 1 ∧ s 257 m.toNat ≤ e) ∧ n < s 256 1 ∧ s 257 n.toNat ≤ e) ∧ ∃ k, xup s e k m = n) ↔ onp s e 40 m n := by
  have g1 : (1 : Int) ≤ s 1 4 ∧ s 1 4 ≤ 40 := hG 1 4
  by_cases q : tdC s e m
  · exact h.bel hJ hG he q ht.1.1
  · constructor
    · rintro ⟨⟨⟨w1, w2, w3⟩, -⟩, -⟩
      have := ((h.1.2.2 m w1 (by omega)).1 w2).1
      exact absurd (show tdC s e m from ⟨hm, by omega⟩) q
    · intro w
      exact absurd w (h.2.2.1.lone hG he hm q (fun z => q (by rw [z]; exact ht.td)))
