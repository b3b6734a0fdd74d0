/-! trees, as the views see them -/
def thC (s : xS) (e m : Int) : Prop := (0 ≤ m ∧ m < s 1 4) ∧ s 2 m.toNat ≤ e ∧ ¬ (s 3 m.toNat ≠ -1 ∧ s 3 m.toNat ≤ e)
def enC (s : xS) (e m : Int) : Prop := (0 ≤ m ∧ m < s 1 4) ∧ s 3 m.toNat ≠ -1 ∧ s 3 m.toNat ≤ e
def joC (s : xS) (m : Int) : Int := if (0 ≤ m ∧ m < s 1 4) ∧ 0 ≤ s 4 m.toNat ∧ s 4 m.toNat < s 1 4 then s 4 m.toNat else -1
section GEN
variable (N : Int) (en th : Int → Prop) (jo pg : Int → Int)
/-- along joins, n steps at most -/
noncomputable def fjG : Nat → Int → Int
  | 0, m => m
  | n + 1, m => @ite _ (en m ∧ 0 ≤ jo m) (Classical.propDecidable _) (fjG n (jo m)) m
/-- up to the first that is there -/
noncomputable def ftG : Nat → Int → Int
  | 0, m => m
  | n + 1, m => @ite _ ((0 ≤ m ∧ m < N) ∧ ¬ th m) (Classical.propDecidable _) (ftG n (pg m)) m
/-- so many times up, the root stays -/
def raG : Nat → Int → Int
  | 0, m => m
  | n + 1, m => if m = 0 then m else raG n (pg m)
end GEN
section GEM
variable {N : Int} {en th : Int → Prop} {jo pg : Int → Int}
theorem fjG_y {n : Nat} {m : Int} (h : en m ∧ 0 ≤ jo m) : fjG en jo (n + 1) m = fjG en jo n (jo m) := by rw [fjG, if_pos h]
theorem fjG_n {n : Nat} {m : Int} (h : ¬ (en m ∧ 0 ≤ jo m)) : fjG en jo n m = m := by
  cases n with
  | zero => rfl
  | succ n => rw [fjG, if_neg h]
theorem fjG_t : ∀ (n : Nat) (m x : Int), fjG en jo n m = x → (en x ∧ 0 ≤ jo x) → fjG en jo (n + 1) m = jo x := by
  intro n
  induction n with
  | zero => intro m x h hx; have h : m = x := h; subst h; rw [fjG_y hx]; rfl
  | succ n ih =>
    intro m x h hx
    by_cases q : en m ∧ 0 ≤ jo m
    · rw [fjG_y q] at h ⊢; exact ih _ _ h hx
    · rw [fjG_n q] at h; subst h; exact absurd hx q
theorem fjG_st : ∀ (n : Nat) (m : Int), ¬ (en (fjG en jo n m) ∧ 0 ≤ jo (fjG en jo n m)) → ∀ k, fjG en jo (n + k) m = fjG en jo n m := by
  intro n
  induction n with
  | zero => intro m h k; rw [Nat.zero_add]; exact fjG_n h
  | succ n ih =>
    intro m h k
    rw [show n + 1 + k = n + k + 1 by omega]
    by_cases q : en m ∧ 0 ≤ jo m
    · rw [fjG_y q] at h ⊢; rw [fjG_y q]; exact ih _ h k
    · rw [fjG_n q, fjG_n q]
theorem fjG_u {n n' : Nat} {m r r' : Int} (h : fjG en jo n m = r) (hr : ¬ (en r ∧ 0 ≤ jo r)) (h' : fjG en jo n' m = r') (hr' : ¬ (en r' ∧ 0 ≤ jo r')) : r = r' := by
  subst h; subst h'
  by_cases q : n ≤ n'
  · have := fjG_st n m hr (n' - n); rw [show n + (n' - n) = n' by omega] at this; exact this.symm
  · have := fjG_st n' m hr' (n - n'); rw [show n' + (n - n') = n by omega] at this; exact this
theorem ftG_y {n : Nat} {m : Int} (h : (0 ≤ m ∧ m < N) ∧ ¬ th m) : ftG N th pg (n + 1) m = ftG N th pg n (pg m) := by rw [ftG, if_pos h]
theorem ftG_n {n : Nat} {m : Int} (h : ¬ ((0 ≤ m ∧ m < N) ∧ ¬ th m)) : ftG N th pg n m = m := by
  cases n with
  | zero => rfl
  | succ n => rw [ftG, if_neg h]
theorem ftG_t : ∀ (n : Nat) (m x : Int), ftG N th pg n m = x → ((0 ≤ x ∧ x < N) ∧ ¬ th x) → ftG N th pg (n + 1) m = pg x := by
  intro n
  induction n with
  | zero => intro m x h hx; have h : m = x := h; subst h; rw [ftG_y hx]; rfl
  | succ n ih =>
    intro m x h hx
    by_cases q : (0 ≤ m ∧ m < N) ∧ ¬ th m
    · rw [ftG_y q] at h ⊢; exact ih _ _ h hx
    · rw [ftG_n q] at h; subst h; exact absurd hx q
theorem ftG_st : ∀ (n : Nat) (m : Int), ¬ ((0 ≤ ftG N th pg n m ∧ ftG N th pg n m < N) ∧ ¬ th (ftG N th pg n m)) → ∀ k, ftG N th pg (n + k) m = ftG N th pg n m := by
  intro n
  induction n with
  | zero => intro m h k; rw [Nat.zero_add]; exact ftG_n h
  | succ n ih =>
    intro m h k
    rw [show n + 1 + k = n + k + 1 by omega]
    by_cases q : (0 ≤ m ∧ m < N) ∧ ¬ th m
    · rw [ftG_y q] at h ⊢; rw [ftG_y q]; exact ih _ h k
    · rw [ftG_n q, ftG_n q]
theorem ftG_u {n n' : Nat} {m r r' : Int} (h : ftG N th pg n m = r) (hr : ¬ ((0 ≤ r ∧ r < N) ∧ ¬ th r)) (h' : ftG N th pg n' m = r') (hr' : ¬ ((0 ≤ r' ∧ r' < N) ∧ ¬ th r')) : r = r' := by
  subst h; subst h'
  by_cases q : n ≤ n'
  · have := ftG_st n m hr (n' - n); rw [show n + (n' - n) = n' by omega] at this; exact this.symm
  · have := ftG_st n' m hr' (n - n'); rw [show n' + (n - n') = n by omega] at this; exact this
theorem raG_t : ∀ (n : Nat) (m x : Int), raG pg n m = x → raG pg (n + 1) m = if x = 0 then x else pg x := by
  intro n
  induction n with
  | zero => intro m x h; have h : m = x := h; subst h; rfl
  | succ n ih =>
    intro m x h
    have e : raG pg (n + 1 + 1) m = if m = 0 then m else raG pg (n + 1) (pg m) := rfl
    have e1 : raG pg (n + 1) m = if m = 0 then m else raG pg n (pg m) := rfl
    rw [e1] at h
    by_cases q : m = 0
    · rw [if_pos q] at h; rw [e, if_pos q]; subst h; rw [if_pos q]
    · rw [if_neg q] at h; rw [e, if_neg q]; exact ih _ _ h
theorem raG_0 : ∀ n : Nat, raG pg n 0 = 0 := by
  intro n
  cases n with
  | zero => rfl
  | succ n => exact if_pos rfl
theorem raG_s {n : Nat} {m : Int} (h : m ≠ 0) : raG pg (n + 1) m = raG pg n (pg m) := if_neg h
/-- a way that goes on 40 times has gone through more than 40 -/
theorem way40 (C : Int → Prop) (nx : Int → Int) (f : Int → Nat) (v : Nat → Int) (hv : ∀ i, C (v i) → v (i + 1) = nx (v i)) (hin : ∀ m, C m → 0 ≤ m ∧ m < 40) (hf : ∀ m, C m → C (nx m) → f (nx m) < f m) : ∃ i, i ≤ 40 ∧ ¬ C (v i) := by
  by_cases q : ∃ i, i ≤ 40 ∧ ¬ C (v i)
  · exact q
  · exfalso
    have hc : ∀ i, i ≤ 40 → C (v i) := fun i hi => Classical.byContradiction (fun z => q ⟨i, hi, z⟩)
    obtain ⟨i, j, h1, h2, h3⟩ := pigeon 40 (fun i => (v i).toNat) (fun i hi => by have := hin _ (hc i hi); show (v i).toNat < 40; omega)
    have h3 : (v i).toNat = (v j).toNat := h3
    have e : v i = v j := by have := hin _ (hc i (by omega)); have := hin _ (hc j (by omega)); omega
    have hd : ∀ d, i + d + 1 ≤ 40 → f (v (i + d + 1)) < f (v i) := by
      intro d
      induction d with
      | zero => intro hd; have c := hc (i + 1) (by omega); rw [hv i (hc i (by omega))] at c; show f (v (i + 1)) < _; rw [hv i (hc i (by omega))]; exact hf _ (hc i (by omega)) c
      | succ d ih =>
        intro hd
        have c := hc (i + d + 1 + 1) (by omega)
        rw [hv _ (hc (i + d + 1) (by omega))] at c
        have := hf _ (hc (i + d + 1) (by omega)) c
        have := ih (by omega)
        show f (v (i + d + 1 + 1)) < _
        rw [hv _ (hc (i + d + 1) (by omega))]
        omega
    have := hd (j - i - 1) (by omega)
    rw [show i + (j - i - 1) + 1 = j by omega, e] at this
    omega
end GEM
theorem fjG_40 {en : Int → Prop} {jo : Int → Int} (f : Int → Nat) (hin : ∀ m, en m ∧ 0 ≤ jo m → 0 ≤ m ∧ m < 40) (hf : ∀ m, en m ∧ 0 ≤ jo m → en (jo m) ∧ 0 ≤ jo (jo m) → f (jo m) < f m) (m : Int) : ¬ (en (fjG en jo 40 m) ∧ 0 ≤ jo (fjG en jo 40 m)) := by
  obtain ⟨i, hi, h⟩ := way40 (fun m => en m ∧ 0 ≤ jo m) jo f (fun i => fjG en jo i m) (fun i hc => fjG_t i m _ rfl hc) hin hf
  have := fjG_st i m h (40 - i)
  rw [show i + (40 - i) = 40 by omega] at this
  rw [this]
  exact h
theorem ftG_40 {N : Int} {th : Int → Prop} {pg : Int → Int} (f : Int → Nat) (hN : N ≤ 40) (hf : ∀ m, ((0 ≤ m ∧ m < N) ∧ ¬ th m) → ((0 ≤ pg m ∧ pg m < N) ∧ ¬ th (pg m)) → f (pg m) < f m) (m : Int) : ¬ ((0 ≤ ftG N th pg 40 m ∧ ftG N th pg 40 m < N) ∧ ¬ th (ftG N th pg 40 m)) := by
  obtain ⟨i, hi, h⟩ := way40 (fun m => (0 ≤ m ∧ m < N) ∧ ¬ th m) pg f (fun i => ftG N th pg i m) (fun i hc => ftG_t i m _ rfl hc) (fun m hm => by omega) hf
  have := ftG_st i m h (40 - i)
  rw [show i + (40 - i) = 40 by omega] at this
  rw [this]
  exact h
/-- the class's parents: none ahead of the telling; those from then on are told -/
def Q2 (s : xS) : Prop := ∀ m e : Int, 0 ≤ m → m ≤ 39 → 0 ≤ e → e ≤ 9 → ((s 1 4 ≤ m ∨ e < s 2 m.toNat) → s (5 + 1 + m.toNat) e.toNat = -1) ∧ (m < s 1 4 → s 2 m.toNat ≤ e → 0 ≤ s (5 + 1 + m.toNat) e.toNat → s (5 + 1 + m.toNat) e.toNat < s 1 4 ∧ s 2 (s (5 + 1 + m.toNat) e.toNat).toNat ≤ e)
def LQ2 : List Nat := [69, 128, 384]
theorem Q2.fl {L : List Nat} {s s' : xS} (h : Q2 s) (f : FL L s s') (hL : ∀ x ∈ LQ2, x ∉ L) : Q2 s' := by
  have a1 : s' 1 4 = s 1 4 := f 1 4 (hL 69 (by decide))
  have a2 : s' 2 = s 2 := funext fun i => f 2 i (hL 128 (by decide))
  have a3 := rows40 f (hL 384 (by decide))
  intro m e m0 m1 e0 e1
  rw [a1, a2, a3 (5 + 1 + m.toNat) e.toNat (by omega) (by omega)]
  exact h m e m0 m1 e0 e1
theorem Q2.up {s : xS} {q i : Nat} {v : Int} (h : Q2 s) (hL : x_pl q i ∉ LQ2) : Q2 (x_up s q i v) := h.fl FL.one (fun x hx hm => hL (by rw [← List.mem_singleton.mp hm]; exact hx))
theorem Q2.mark {s s1 : xS} {a z : Int} (h : Q2 s) (hG : GI s) (x1 : MkC s s1 a z) (x2 : MkP s s1 a z) : Q2 s1 := by
  have g1 : (1 : Int) ≤ s 1 4 ∧ s 1 4 ≤ 40 := hG 1 4
  have g0 : (0 : Int) ≤ s 0 10 ∧ s 0 10 ≤ 9 := hG 0 10
  have neg : z < 0 → s1 1 4 = s 1 4 → s1 2 = s 2 → Q2 s1 := by
    intro zn e1 e2 m e m0 m1 e0 e3
    rw [e1, e2, x2.1 zn (5 + 1 + m.toNat) e.toNat (by omega) (by omega)]
    exact h m e m0 m1 e0 e3
  unfold MkC at x1
  rcases x1 with ⟨k1, k2, k3, k4⟩ | ⟨k1, k2, k3, k4, k5⟩ | ⟨k1, k2, k3, k4, k5, k6⟩ | ⟨k1, k2, k3, k4, k5, k6⟩
  · exact neg (by omega) k3 k4
  · exact neg (by omega) k4 k5
  · exact neg (by omega) k5 k6
  · have hr := x2.2 (by omega)
    intro m e m0 m1 e0 e1
    rw [k5, k6 m.toNat, hr (5 + 1 + m.toNat) e.toNat (by omega) (by omega)]
    have hm := h m e m0 m1 e0 e1
    by_cases q : m = s 1 4
    · rw [if_pos (show m.toNat = (s 1 4).toNat by omega)]
      by_cases qe : s 0 10 ≤ e
      · rw [if_pos ⟨by omega, by omega, by omega⟩]
        refine ⟨fun w => by omega, fun _ _ _ => ⟨by omega, ?_⟩⟩
        rw [k6 a.toNat, if_neg (by omega)]
        omega
      · rw [if_neg (by omega)]
        have := hm.1 (Or.inl (by omega))
        exact ⟨fun _ => this, fun _ w => by omega⟩
    · rw [if_neg (show ¬ m.toNat = (s 1 4).toNat by omega), if_neg (by omega)]
      refine ⟨fun w => hm.1 (by omega), fun w1 w2 w3 => ?_⟩
      obtain ⟨u1, u2⟩ := hm.2 (by omega) w2 w3
      refine ⟨by omega, ?_⟩
      rw [k6, if_neg (by omega)]
      exact u2
theorem Q2.move {s s1 : xS} {a b z : Int} (h : Q2 s) (hG : GI s) (e4 : s1 1 4 = s 1 4) (e2 : s1 2 = s 2) (x1 : MvC s s1 a b z) : Q2 s1 := by
  have g1 : (1 : Int) ≤ s 1 4 ∧ s 1 4 ≤ 40 := hG 1 4
  have g0 : (0 : Int) ≤ s 0 10 ∧ s 0 10 ≤ 9 := hG 0 10
  have same : (∀ r j : Nat, 6 ≤ r → r ≤ 45 → s1 r j = s r j) → Q2 s1 := by
    intro e3 m e m0 m1 e0 e1
    rw [e4, e2, e3 (5 + 1 + m.toNat) e.toNat (by omega) (by omega)]
    exact h m e m0 m1 e0 e1
  unfold MvC at x1
  rcases x1 with ⟨k1, k2, k3⟩ | ⟨k1, k2, k3, k4⟩ | ⟨k1, k2, k3, k4⟩
  · exact same k3
  · exact same k4
  · have k2 := k2.1
    intro m e m0 m1 e0 e1
    rw [e4, e2, k4 (5 + 1 + m.toNat) e.toNat (by omega) (by omega)]
    have hm := h m e m0 m1 e0 e1
    by_cases q : m = a ∧ s 0 10 ≤ e
    · rw [if_pos ⟨by omega, by omega, by omega⟩]
      have : s 2 m.toNat ≤ e := by rw [q.1]; omega
      exact ⟨fun w => by omega, fun _ _ _ => ⟨by omega, by omega⟩⟩
    · rw [if_neg (fun w => q ⟨by omega, by omega⟩)]
      exact hm
theorem Q2_0' {s : xS} (h4 : s 1 4 = 1) (h : ∀ r j : Nat, 6 ≤ r → r ≤ 45 → s r j = -1) : Q2 s := by
  intro m e m0 m1 e0 e1
  rw [h (5 + 1 + m.toNat) e.toNat (by omega) (by omega)]
  exact ⟨fun _ => rfl, fun _ _ w => by omega⟩
