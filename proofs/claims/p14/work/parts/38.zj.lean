/-! the class's force, asked about keys; judging -/
theorem bt_dis {t a b : Int} (ht : in64 t) (g : ∀ k, bt t k = (bt a k && bt b k)) : t = 0 ↔ ∀ x : Nat, x < 64 → ¬ (bt a x = true ∧ bt b x = true) := by
  constructor
  · intro h x hx w
    have := g x
    rw [w.1, w.2, h, bt_0] at this
    cases this
  · intro h
    by_cases q : t = 0
    · exact q
    · obtain ⟨k, hk, hb⟩ := (bt_z ht).mp q
      rw [g k, Bool.and_eq_true] at hb
      exact absurd hb (h k hk)
theorem bi_dis {t a b : Int} (ht : in32 t) (g : ∀ k, bi t k = (bi a k && bi b k)) : t = 0 ↔ ∀ x : Nat, x < 32 → ¬ (bi a x = true ∧ bi b x = true) := by
  constructor
  · intro h x hx w
    have := g x
    rw [w.1, w.2, h, bi_0] at this
    cases this
  · intro h
    by_cases q : t = 0
    · exact q
    · obtain ⟨k, hk, hb⟩ := (bi_z ht).mp q
      rw [g k, Bool.and_eq_true] at hb
      exact absurd hb (h k hk)
/-- key k of a is not allowed at a mark with the way up b -/
def dkF (s : xS) (F : Nat) (a b : Int) (k : Nat) : Prop := bi a k = true ∧ s (F + 2) k ≠ 0 ∧ ∀ x : Nat, x < 64 → ¬ (bt (s (F + 2) k) x = true ∧ bt b x = true)
def dsF (s : xS) (F : Nat) (a b : Int) : Prop := ∃ k : Nat, k < 6 ∧ dkF s F a b k
/-- key k of a is barred with another of them -/
def bkF (s : xS) (F : Nat) (a : Int) (k : Nat) : Prop := bi a k = true ∧ ∃ x : Nat, x < 32 ∧ bi (s (F + 3) k) x = true ∧ bi a x = true
def bsF (s : xS) (F : Nat) (a : Int) : Prop := ∃ k : Nat, k < 6 ∧ bkF s F a k
theorem dsF.no {s : xS} {F : Nat} {e m a b : Int} (h : Fo s s F e) (hG : GI s) (hF : F = 209 ∨ F = 244) (hb : ∀ k : Nat, k < 64 → (bt b k = true ↔ onp s e 40 m k)) : dsF s F a b ↔ noC s e m a := by
  obtain ⟨-, -, -, -, -, h6, -, -⟩ := h.fos
  unfold dsF noC dkF
  refine exists_congr (fun k => and_congr_right (fun hk => and_congr_right (fun _ => ?_)))
  have hk6 := h6 k (by omega) (by omega)
  rw [show ((k : Int)).toNat = k from rfl] at hk6
  have i64 : in64 (s (F + 2) k) := by
    rcases hF with rfl | rfl
    · exact hG 211 k
    · exact hG 246 k
  refine and_congr ?_ ?_
  · rw [bt_z i64]
    exact exists_congr (fun x => and_congr_right (fun hx => hk6 x hx))
  · refine forall_congr' (fun x => forall_congr' (fun hx => ?_))
    rw [hk6 x hx, hb x hx, not_and]
theorem bsF.tw {s : xS} {F : Nat} {e a : Int} (h : Fo s s F e) : bsF s F a ↔ twC s e a := by
  obtain ⟨-, -, -, -, -, -, h7, -⟩ := h.fos
  unfold bsF twC bkF
  refine exists_congr (fun k => and_congr_right (fun hk => and_congr_right (fun _ => exists_congr (fun x => and_congr_right (fun hx => and_congr ?_ Iff.rfl)))))
  have := h7 k (by omega) (by omega) x hx
  rw [show ((k : Int)).toNat = k from rfl] at this
  exact this
/-- the force stays as it is, where its places do -/
theorem Fo.k1 {s s' σ : xS} {F : Nat} {e : Int} (h : Fo s σ F e) (k : FoK s s' F true true true true true true true true) : Fo s' σ F e := by
  obtain ⟨k0, k1, k2, k3, k4, k5, k6, k7⟩ := k
  have k0 := k0 rfl; have k1 := k1 rfl; have k2 := k2 rfl; have k3 := k3 rfl; have k4 := k4 rfl; have k5 := k5 rfl; have k6 := k6 rfl; have k7 := k7 rfl
  unfold Fo FoP FoS at h ⊢
  rw [k0, k1, k2, k3, k4, k5, k6, k7]
  exact h
theorem Fo.ve {s σ τ : xS} {F : Nat} {e : Int} (h : Fo s σ F e) (v : VE σ τ) : Fo s τ F e := by
  have h' := h.fos
  rw [v.fo] at h'
  exact h'.cg (v.al e) (v.ba e) (v.ne e)
/-- the places of the class's own force -/
def LFO : List Nat := [3329, 3334, 3335, 3336, 3392, 3456, 3520, 3584]
theorem FL.fok {L : List Nat} {s s' : xS} (f : FL L s s') (hL : ∀ x ∈ LFO, x ∉ L) : FoK s s' 244 true true true true true true true true :=
  ⟨fun _ => f 244 0 (hL 3329 (by decide)), fun _ => funext fun i => f 245 i (hL 3392 (by decide)), fun _ => funext fun i => f 246 i (hL 3456 (by decide)), fun _ => funext fun i => f 247 i (hL 3520 (by decide)), fun _ => funext fun i => f 248 i (hL 3584 (by decide)), fun _ => f 244 5 (hL 3334 (by decide)), fun _ => f 244 6 (hL 3335 (by decide)), fun _ => f 244 7 (hL 3336 (by decide))⟩
theorem bi_z0 {k : Nat} : ¬ bi 0 k = true := by rw [bi_0]; exact Bool.false_ne_true
theorem noC_0 {s : xS} {e m : Int} : ¬ noC s e m 0 := fun ⟨_, _, h, _⟩ => bi_z0 h
theorem twC_0 {s : xS} {e : Int} : ¬ twC s e 0 := fun ⟨_, _, h, _⟩ => bi_z0 h
/-- how many givings of picture p ahead of g are right -/
noncomputable def rtC (s : xS) (g : Nat) (p : Int) : Int := ctp (fun j => s 51 j = p ∧ wrC s j = 0) g
/-- the first n givings are judged -/
def VJn (s σ : xS) (n : Int) : Prop := ∀ g : Int, 0 ≤ g → g < n → s 252 g.toNat = wrC σ g ∧ (s 250 g.toNat = 1 ↔ tuC σ g) ∧ s 251 g.toNat = raC σ g
def RTn (s σ : xS) (n : Int) : Prop := ∀ p : Int, 0 ≤ p → p ≤ 39 → s 249 p.toNat = rtC σ n.toNat p
theorem VJn_0 {s σ : xS} : VJn s σ 0 := fun g h0 h1 => by omega
theorem RTn_0 {s σ : xS} (h : ∀ j : Nat, (j : Int) < 40 → s 249 j = 0) : RTn s σ 0 := fun p p0 p1 => h p.toNat (by omega)
theorem VJn.cg {s s' σ : xS} {n : Int} (h : VJn s σ n) (h0 : s' 250 = s 250) (h1 : s' 251 = s 251) (h2 : s' 252 = s 252) : VJn s' σ n := by unfold VJn; rw [h0, h1, h2]; exact h
theorem RTn.cg {s s' σ : xS} {n : Int} (h : RTn s σ n) (h0 : s' 249 = s 249) : RTn s' σ n := by unfold RTn; rw [h0]; exact h
/-- a giving more is judged -/
theorem VJn.add {s s' σ : xS} {n w t r : Int} (h : VJn s σ n) (hn : 0 ≤ n) (h0 : ∀ j : Nat, s' 250 j = if j = n.toNat then t else s 250 j) (h1 : ∀ j : Nat, s' 251 j = if j = n.toNat then r else s 251 j) (h2 : ∀ j : Nat, s' 252 j = if j = n.toNat then w else s 252 j) (ew : w = wrC σ n) (et : t = 1 ↔ tuC σ n) (er : r = raC σ n) : VJn s' σ (n + 1) := fun g g0 g1 => by
  rw [h0, h1, h2]
  by_cases q : g = n
  · subst q
    rw [if_pos rfl, if_pos rfl, if_pos rfl]
    exact ⟨ew, et, er⟩
  · rw [if_neg (by omega), if_neg (by omega), if_neg (by omega)]
    exact h g g0 (by omega)
theorem RTn.yes {s s' σ : xS} {n p : Int} (h : RTn s σ n) (hn : 0 ≤ n) (hp : 0 ≤ p) (ep : σ 51 n.toNat = p) (ew : wrC σ n = 0) (h0 : ∀ j : Nat, s' 249 j = if j = p.toNat then s 249 p.toNat + 1 else s 249 j) : RTn s' σ (n + 1) := fun q q0 q1 => by
  have cs := ctp_s (fun j => σ 51 j = q ∧ wrC σ j = 0) hn
  have e1 : ((n.toNat : Nat) : Int) = n := by omega
  rw [h0]
  unfold rtC
  by_cases z : q = p
  · subst z
    rw [if_pos rfl, h q q0 q1, cs.1 ⟨ep, by rw [e1]; exact ew⟩]
    rfl
  · rw [if_neg (by omega), h q q0 q1, cs.2 (fun w => z (by rw [← w.1, ep]))]
    rfl
theorem RTn.no {s s' σ : xS} {n : Int} (h : RTn s σ n) (hn : 0 ≤ n) (ew : wrC σ n ≠ 0) (h0 : s' 249 = s 249) : RTn s' σ (n + 1) := fun q q0 q1 => by
  have cs := ctp_s (fun j => σ 51 j = q ∧ wrC σ j = 0) hn
  have e1 : ((n.toNat : Nat) : Int) = n := by omega
  rw [h0, h q q0 q1]
  unfold rtC
  rw [cs.2 (fun w => ew (by rw [← e1]; exact w.2))]
/-- why a giving is wrong: the class's way -/
theorem why_1 {s : xS} {w : Int → Int} {g e m keys : Int} (he : e = s 55 g.toNat) (hm : m = s 52 g.toNat) (h : ¬ thC s e m) : whyC s w g = 1 := by
  subst he hm; exact pIf_y h
theorem why_2 {s : xS} {w : Int → Int} {g e m keys : Int} (he : e = s 55 g.toNat) (hm : m = s 52 g.toNat) (hk : keys = s 54 g.toNat) (h : thC s e m) (h2 : noC s e m keys) : whyC s w g = 2 := by
  subst he hm hk; unfold whyC; rw [pIf_n (fun z => z h), pIf_y h2]
theorem why_3 {s : xS} {w : Int → Int} {g e m keys : Int} (he : e = s 55 g.toNat) (hm : m = s 52 g.toNat) (hk : keys = s 54 g.toNat) (h : thC s e m) (h2 : ¬ noC s e m keys) (h3 : twC s e keys) : whyC s w g = 3 := by
  subst he hm hk; unfold whyC; rw [pIf_n (fun z => z h), pIf_n h2, pIf_y h3]
theorem why_4 {s : xS} {w : Int → Int} {g e m keys n mo : Int} (he : e = s 55 g.toNat) (hm : m = s 52 g.toNat) (hk : keys = s 54 g.toNat) (h : thC s e m) (h2 : ¬ noC s e m keys) (h3 : ¬ twC s e keys) (hn : n = ctp (fun j => s 51 j = s 51 g.toNat ∧ w j = 0) g.toNat) (hmo : mo = moC s e) : (mo ≤ n → whyC s w g = 4) ∧ (n < mo → whyC s w g = 0) := by
  subst he hm hk hmo hn; unfold whyC
  rw [pIf_n (fun z => z h), pIf_n h2, pIf_n h3]
  exact ⟨fun z => pIf_y z, fun z => pIf_n (by omega)⟩
theorem ctp_0 {P : Nat → Prop} (n : Nat) (h : ∀ k, k < n → ¬ P k) : ctp P n = 0 := by
  induction n with
  | zero => rfl
  | succ n ih => rw [ctp, ih (fun k hk => h k (by omega)), if_neg (h n (by omega))]; rfl
theorem ctp_ge {P : Nat → Prop} (n : Nat) : 0 ≤ ctp P n ∧ (0 < ctp P n ↔ ∃ k, k < n ∧ P k) := by
  induction n with
  | zero => exact ⟨Int.le_refl _, fun h => absurd (show (0 : Int) < 0 from h) (by decide), fun ⟨k, h, _⟩ => absurd h (Nat.not_lt_zero _)⟩
  | succ n ih =>
    obtain ⟨i1, i2⟩ := ih
    rw [ctp]
    by_cases q : P n
    · rw [if_pos q]
      exact ⟨by omega, fun _ => ⟨n, by omega, q⟩, fun _ => by omega⟩
    · rw [if_neg q]
      refine ⟨by omega, fun h => ?_, fun ⟨k, hk, hp⟩ => ?_⟩
      · obtain ⟨k, hk, hp⟩ := i2.mp (by omega)
        exact ⟨k, by omega, hp⟩
      · have hk2 : k < n := by
          by_cases e : k = n
          · subst e; exact absurd hp q
          · omega
        have := i2.mpr ⟨k, hk2, hp⟩
        omega
theorem VJn.fl {L : List Nat} {s s' σ : xS} {n : Int} (h : VJn s σ n) (f : FL L s s') (hL : ∀ x ∈ [3712, 3776, 3840], x ∉ L) : VJn s' σ n := h.cg (funext fun i => f 250 i (hL 3712 (by decide))) (funext fun i => f 251 i (hL 3776 (by decide))) (funext fun i => f 252 i (hL 3840 (by decide)))
theorem VJn.up {s σ : xS} {n : Int} {q i : Nat} {v : Int} (h : VJn s σ n) (hL : x_pl q i ∉ [3712, 3776, 3840]) : VJn (x_up s q i v) σ n := h.fl FL.one (fun x hx hm => hL (by rw [← List.mem_singleton.mp hm]; exact hx))
theorem RTn.fl {L : List Nat} {s s' σ : xS} {n : Int} (h : RTn s σ n) (f : FL L s s') (hL : ∀ x ∈ [3648], x ∉ L) : RTn s' σ n := h.cg (funext fun i => f 249 i (hL 3648 (by decide)))
theorem RTn.up {s σ : xS} {n : Int} {q i : Nat} {v : Int} (h : RTn s σ n) (hL : x_pl q i ∉ [3648]) : RTn (x_up s q i v) σ n := h.fl FL.one (fun x hx hm => hL (by rw [← List.mem_singleton.mp hm]; exact hx))
theorem Fo.fl {L : List Nat} {s s' σ : xS} {e : Int} (h : Fo s σ 244 e) (f : FL L s s') (hL : ∀ x ∈ LFO, x ∉ L) : Fo s' σ 244 e := h.k1 (f.fok hL)
theorem Fo.up {s σ : xS} {e : Int} {q i : Nat} {v : Int} (h : Fo s σ 244 e) (hL : x_pl q i ∉ LFO) : Fo (x_up s q i v) σ 244 e := h.fl FL.one (fun x hx hm => hL (by rw [← List.mem_singleton.mp hm]; exact hx))
theorem ctp_le {P : Nat → Prop} (n : Nat) : ctp P n ≤ n := by
  induction n with
  | zero => exact Int.le_refl _
  | succ n ih =>
    rw [ctp]
    by_cases q : P n
    · rw [if_pos q]; omega
    · rw [if_neg q]; omega
theorem RTn.b {s σ : xS} {n p : Int} (h : RTn s σ n) (hn : 0 ≤ n) (hp : 0 ≤ p ∧ p ≤ 39) : 0 ≤ s 249 p.toNat ∧ s 249 p.toNat ≤ n := by
  have e := h p hp.1 hp.2
  have h1 := (ctp_ge (P := fun j => σ 51 j = p ∧ wrC σ j = 0) n.toNat).1
  have h2 := ctp_le (P := fun j => σ 51 j = p ∧ wrC σ j = 0) n.toNat
  unfold rtC at e
  omega
theorem RTn.pr {s σ : xS} {n : Int} (h : RTn s σ n) (v : VJn s σ n) (e : s 51 = σ 51) : ∀ p : Int, 0 ≤ p → p ≤ 39 → s 249 p.toNat = ctp (fun j : Nat => s 51 j = p ∧ s 252 ((j : Int)).toNat = 0) n.toNat := fun p p0 p1 => by
  rw [h p p0 p1, e]
  unfold rtC
  exact ctp_cg _ (fun j hj => and_congr Iff.rfl (by rw [(v (j : Int) (by omega) (by omega)).1]))
theorem why_wr {s σ : xS} {n : Int} (v : VE s σ) (h : VJn s σ n) (hn : 0 ≤ n) : whyC s (fun j => s 252 j.toNat) n = wrC σ n := by
  rw [v.why]
  exact wrC_eq hn (fun j hj => by show s 252 ((j : Int)).toNat = 0 ↔ _; rw [(h (j : Int) (by omega) (by omega)).1])
theorem bi_com {t a b : Int} (ht : in32 t) (g : ∀ k, bi t k = (bi a k && bi b k)) (h : t ≠ 0) : ∃ x : Nat, x < 32 ∧ bi a x = true ∧ bi b x = true := by
  obtain ⟨k, hk, hb⟩ := (bi_z ht).mp h
  rw [g k, Bool.and_eq_true] at hb
  exact ⟨k, hk, hb⟩
theorem no_st {P : Nat → Prop} {x : Int} (h : ∀ i : Nat, (i : Int) < x → ¬ P i) (hx : 0 ≤ x) (hn : ¬ P x.toNat) : ∀ i : Nat, (i : Int) < x + 1 → ¬ P i := fun i hi => by
  by_cases q : i = x.toNat
  · rw [q]; exact hn
  · exact h i (by omega)
/-- what told answers -/
noncomputable def toC (s : xS) (a b : Int) : Int := if b = 0 then s 51 a.toNat else if b = 1 then s 52 a.toNat else if b = 2 then s 53 a.toNat else if b = 3 then s 54 a.toNat else if b = 4 then s 55 a.toNat else if b = 5 then wrC s a else dcC s a (s 0 10)
def ToC (s : xS) (a b z : Int) : Prop := (¬ (0 ≤ a ∧ a < s 50 6) ∧ z = -1001) ∨ ((0 ≤ a ∧ a < s 50 6) ∧ ¬ (0 ≤ b ∧ b ≤ 6) ∧ z = -1002) ∨ ((0 ≤ a ∧ a < s 50 6) ∧ (0 ≤ b ∧ b ≤ 6) ∧ z = toC s a b)
