/-! meanings: told marks stay told; ways end within 40 -/
theorem TR.jo {s : xS} (h : TR s) (hG : GI s) {e m : Int} (hm : enC s e m) (hj : 0 ≤ joC s m) : joC s m = s 259 m.toNat ∧ tdC s e (joC s m) := by
  have g1 : (1 : Int) ≤ s 1 4 ∧ s 1 4 ≤ 40 := hG 1 4
  obtain ⟨⟨m0, m1⟩, m2, m3⟩ := hm
  obtain ⟨k1, k2⟩ := (h.2.2.2 m m0 (by omega)).2 m1
  unfold joC at hj ⊢
  by_cases q : (0 ≤ m ∧ m < s 1 4) ∧ 0 ≤ s 4 m.toNat ∧ s 4 m.toNat < s 1 4
  · rw [if_pos q] at hj ⊢
    obtain ⟨k3, k4, k5⟩ := k2 hj
    exact ⟨k1, ⟨⟨hj, k3⟩, by omega⟩⟩
  · rw [if_neg q] at hj; omega
theorem TR.jn {s : xS} (h : TR s) (hG : GI s) {m : Int} (hm : 0 ≤ m ∧ m < s 1 4) : joC s m = if 0 ≤ s 259 m.toNat then s 259 m.toNat else -1 := by
  have g1 : (1 : Int) ≤ s 1 4 ∧ s 1 4 ≤ 40 := hG 1 4
  obtain ⟨k1, k2⟩ := (h.2.2.2 m hm.1 (by omega)).2 hm.2
  unfold joC
  by_cases q : 0 ≤ s 4 m.toNat
  · rw [if_pos ⟨hm, q, (k2 q).1⟩, if_pos (by omega)]; exact k1
  · rw [if_neg (fun w => q w.2.1), if_neg (by omega)]
theorem TR.fst {s : xS} (h : TR s) (hJ : J s) (hG : GI s) (e m : Int) : ¬ (enC s e (fjG (enC s e) (joC s) 40 m) ∧ 0 ≤ joC s (fjG (enC s e) (joC s) 40 m)) := by
  have g1 : (1 : Int) ≤ s 1 4 ∧ s 1 4 ≤ 40 := hG 1 4
  obtain ⟨-, -, -, ⟨jr, hjr⟩, -⟩ := id hJ
  refine fjG_40 jr (fun m hm => by have := hm.1.1; omega) (fun m hm _ => ?_) m
  obtain ⟨k1, k2⟩ := h.jo hG hm.1 hm.2
  have h1 := hm.1.1
  have h2 := hm.2
  rw [k1] at h2 ⊢
  exact hjr m h1.1 (by omega) h2
theorem J.root {s : xS} (h : J s) (t : T0 s) (hG : GI s) {e : Int} (he : 0 ≤ e) : thC s e 0 := by
  obtain ⟨-, -, -, -, ⟨h5, h6, -⟩, -⟩ := h
  have g1 : (1 : Int) ≤ s 256 1 ∧ s 256 1 ≤ 40 := hG 256 1
  refine (t.th hG e 0).mpr ⟨⟨by omega, by omega⟩, ?_, Or.inl ?_⟩
  · show s 257 0 ≤ e; omega
  · show s 258 0 < 0; omega
theorem TR.tst {s : xS} (h : TR s) (hJ : J s) (hG : GI s) {e : Int} (he : 0 ≤ e ∧ e ≤ 9) (m : Int) : ¬ ((0 ≤ ftG (s 1 4) (thC s e) (parC s e) 40 m ∧ ftG (s 1 4) (thC s e) (parC s e) 40 m < s 1 4) ∧ ¬ thC s e (ftG (s 1 4) (thC s e) (parC s e) 40 m)) := by
  have g1 : (1 : Int) ≤ s 1 4 ∧ s 1 4 ≤ 40 := hG 1 4
  have hr := hJ.root h.1 hG he.1
  obtain ⟨-, ⟨rk, hrk⟩, -⟩ := id hJ
  refine ftG_40 (rk e) g1.2 (fun m hm hp => ?_) m
  by_cases q : tdC s e m
  · have e1 := h.par hG he q
    have hz : m ≠ 0 := fun z => hm.2 (by rw [z]; exact hr)
    have := (hrk m e hm.1.1 (by omega) he.1 he.2).2 hz
    rw [e1]
    exact this.2
  · have hpn : parC s e m = -1 := by
      unfold parC
      rw [if_pos ⟨hm.1, he⟩]
      exact (h.2.2.1 m e hm.1.1 (by omega) he.1 he.2).1 (Or.inr (by
        by_cases z : e < s 2 m.toNat
        · exact z
        · exact absurd (show tdC s e m from ⟨hm.1, by omega⟩) q))
    rw [hpn] at hp
    omega
theorem TR.fjt {s : xS} (h : TR s) (hG : GI s) {e : Int} : ∀ (n : Nat) (m : Int), tdC s e m → tdC s e (fjG (enC s e) (joC s) n m) := by
  intro n
  induction n with
  | zero => intro m hm; exact hm
  | succ n ih =>
    intro m hm
    by_cases q : enC s e m ∧ 0 ≤ joC s m
    · rw [fjG_y q]; exact ih _ (h.jo hG q.1 q.2).2
    · rw [fjG_n q]; exact hm
theorem TR.ftt {s : xS} (h : TR s) (hJ : J s) (hG : GI s) {e : Int} (he : 0 ≤ e ∧ e ≤ 9) : ∀ (n : Nat) (m : Int), tdC s e m → tdC s e (ftG (s 1 4) (thC s e) (parC s e) n m) := by
  have g1 : (1 : Int) ≤ s 1 4 ∧ s 1 4 ≤ 40 := hG 1 4
  have hr := hJ.root h.1 hG he.1
  obtain ⟨-, ⟨rk, hrk⟩, -⟩ := id hJ
  intro n
  induction n with
  | zero => intro m hm; exact hm
  | succ n ih =>
    intro m hm
    by_cases q : (0 ≤ m ∧ m < s 1 4) ∧ ¬ thC s e m
    · rw [ftG_y q]
      have hz : m ≠ 0 := fun z => q.2 (by rw [z]; exact hr)
      have hp := (hrk m e hm.1.1 (by have := hm.1.2; omega) he.1 he.2).2 hz
      exact ih _ (h.2.2.1.par hG he hm (by rw [h.par hG he hm]; exact hp.1))
    · rw [ftG_n q]; exact hm
theorem TR.up1 {s : xS} (h : TR s) (hJ : J s) (hG : GI s) {e m : Int} (he : 0 ≤ e ∧ e ≤ 9) (hm : tdC s e m) (hz : m ≠ 0) : 0 ≤ parC s e m ∧ tdC s e (parC s e m) := by
  have g1 : (1 : Int) ≤ s 1 4 ∧ s 1 4 ≤ 40 := hG 1 4
  obtain ⟨-, ⟨rk, hrk⟩, -⟩ := id hJ
  have hp := (hrk m e hm.1.1 (by have := hm.1.2; omega) he.1 he.2).2 hz
  have e1 := h.par hG he hm
  rw [← e1] at hp
  exact ⟨hp.1, h.2.2.1.par hG he hm hp.1⟩
theorem TR.rat {s : xS} (h : TR s) (hJ : J s) (hG : GI s) {e : Int} (he : 0 ≤ e ∧ e ≤ 9) : ∀ (n : Nat) (m : Int), tdC s e m → tdC s e (raG (parC s e) n m) := by
  intro n
  induction n with
  | zero => intro m hm; exact hm
  | succ n ih =>
    intro m hm
    by_cases q : m = 0
    · subst q; rw [raG_0]; exact hm
    · rw [raG_s q]; exact ih _ (h.up1 hJ hG he hm q).2
/-- what a giving means was told by then -/
theorem TR.mtd {s : xS} (h : TR s) (g3 : G3 s) (hJ : J s) (hG : GI s) {e g : Int} (he : 0 ≤ e ∧ e ≤ 9) (hg : 0 ≤ g ∧ g < s 50 6) (hm : 0 ≤ meC s e g) : tdC s e (meC s e g) := by
  have gg : (0 : Int) ≤ s 50 6 ∧ s 50 6 ≤ 120 := hG 50 6
  obtain ⟨-, -, k3, -⟩ := g3.2 g hg.1 (by omega) hg.2
  by_cases q : nuC s e g
  · rw [meC_n q] at hm; omega
  · rw [meC_y q]
    have hge : s 55 g.toNat ≤ e := by
      by_cases z : e < s 55 g.toNat
      · exact absurd (Or.inl z) q
      · omega
    have k4 : tdC s e (s 52 g.toNat) := ⟨k3.1, by have := k3.2; omega⟩
    exact h.rat hJ hG he _ _ (h.ftt hJ hG he _ _ (h.fjt hG _ _ k4))
/-- the reference on its way from a giving's mark: y whether it needs a look, x where it stands -/
def lkI (s : xS) (e g y x : Int) : Prop := (y = 0 ∧ ∃ n, fjG (enC s e) (joC s) n (s 52 g.toNat) = x) ∨ (y = 1 ∧ thC s e x ∧ enC s e (fiM s e g) ∧ ∃ n, ftG (s 1 4) (thC s e) (parC s e) n (fiM s e g) = x)
def lkJ (s : xS) (e g x : Int) : Prop := enC s e (fiM s e g) ∧ ∃ n, ftG (s 1 4) (thC s e) (parC s e) n (fiM s e g) = x
section LKI
variable {s : xS} {e g y x : Int}
theorem lkI_0 : lkI s e g 0 (s 52 g.toNat) := Or.inl ⟨rfl, 0, rfl⟩
theorem thC.ne (h : thC s e x) : ¬ enC s e x := fun w => h.2.2 w.2
theorem lkI.join (h : lkI s e g y x) (he : enC s e x) (hj : 0 ≤ joC s x) : lkI s e g y (joC s x) := by
  rcases h with ⟨h1, n, hn⟩ | ⟨h1, h2, _⟩
  · exact Or.inl ⟨h1, n + 1, fjG_t n _ _ hn ⟨he, hj⟩⟩
  · exact absurd he h2.ne
theorem lkI.split (h : lkI s e g y x) (t : TR s) (hJ : J s) (hG : GI s) (he : enC s e x) (hj : ¬ 0 ≤ joC s x) : lkJ s e g x := by
  rcases h with ⟨h1, n, hn⟩ | ⟨h1, h2, _⟩
  · have e1 : fiM s e g = x := fjG_u (n := 40) (n' := n) rfl (t.fst hJ hG e _) hn (fun w => hj w.2)
    exact ⟨by rw [e1]; exact he, 0, e1⟩
  · exact absurd he h2.ne
theorem lkJ.up (h : lkJ s e g x) (hx : 0 ≤ x ∧ x < s 1 4) (hn : ¬ thC s e x) : lkJ s e g (parC s e x) := by
  obtain ⟨h1, n, hm⟩ := h
  exact ⟨h1, n + 1, ftG_t n _ _ hm ⟨hx, hn⟩⟩
theorem lkJ.out (h : lkJ s e g x) (ht : thC s e x) : lkI s e g 1 x := Or.inr ⟨rfl, ht, h.1, h.2⟩
theorem lkI.fin (h : lkI s e g y x) (t : TR s) (hJ : J s) (hG : GI s) (he : 0 ≤ e ∧ e ≤ 9) (hx : tdC s e x) (hn : ¬ enC s e x) (nn : ¬ nuC s e g) : ftG (s 1 4) (thC s e) (parC s e) 40 (fiM s e g) = x ∧ (y = 1 ↔ loC s e g) := by
  have ht : thC s e x := ⟨hx.1, hx.2, fun w => hn ⟨hx.1, w⟩⟩
  rcases h with ⟨h1, n, hm⟩ | ⟨h1, h2, h3, n, hm⟩
  · have e1 : fiM s e g = x := fjG_u (n := 40) (n' := n) rfl (t.fst hJ hG e _) hm (fun w => hn w.1)
    refine ⟨by rw [e1]; exact ftG_n (fun w => w.2 ht), fun w => by omega, fun w => ?_⟩
    have := w.2
    rw [e1] at this
    exact absurd this hn
  · exact ⟨ftG_u (n := 40) (n' := n) rfl (t.tst hJ hG he _) hm (fun w => w.2 ht), fun _ => ⟨nn, h3⟩, fun _ => h1⟩
end LKI
/-- the reference's meanings of the first n givings -/
def MRn (s σ : xS) (e n : Int) : Prop := ∀ g : Int, 0 ≤ g → g < n → s 280 g.toNat = meC σ e g ∧ (s 281 g.toNat = 1 ↔ loC σ e g)
theorem MRn_0 {s σ : xS} {e : Int} : MRn s σ e 0 := fun g h0 h1 => by omega
theorem MRn.cg {s s' σ : xS} {e n : Int} (h : MRn s σ e n) (h0 : s' 280 = s 280) (h1 : s' 281 = s 281) : MRn s' σ e n := by unfold MRn; rw [h0, h1]; exact h
theorem MRn.add {s s' σ : xS} {e n z : Int} (h : MRn s σ e n) (hn : 0 ≤ n) (h3 : ∀ j : Nat, s' 280 j = if j = n.toNat then z else s 280 j) (ez : z = meC σ e n) (h4 : s' 281 n.toNat = 1 ↔ loC σ e n) (h5 : ∀ j : Nat, j ≠ n.toNat → s' 281 j = s 281 j) : MRn s' σ e (n + 1) := fun g g0 g1 => by
  rw [h3]
  by_cases q : g = n
  · subst q; rw [if_pos rfl]; exact ⟨ez, h4⟩
  · rw [if_neg (by omega), h5 _ (by omega)]; exact h g g0 (by omega)
/-- the reference's pictures, as far as the first n givings; and the way up from x for one more -/
def SRn (s σ : xS) (e n : Int) : Prop := ∀ p : Int, 0 ≤ p → p < σ 256 6 → ∀ k : Nat, k < 64 → (bt (s 282 p.toNat) k = true ↔ ∃ g : Int, (0 ≤ g ∧ g < n) ∧ σ 51 g.toNat = p ∧ 0 ≤ meC σ e g ∧ onp σ e 40 (meC σ e g) k)
def SRw (s σ : xS) (e n x : Int) : Prop := ∀ p : Int, 0 ≤ p → p < σ 256 6 → ∀ k : Nat, k < 64 → ((bt (s 282 p.toNat) k = true ∨ (σ 51 n.toNat = p ∧ ∃ j, xup σ e j x = k)) ↔ ∃ g : Int, (0 ≤ g ∧ g < n + 1) ∧ σ 51 g.toNat = p ∧ 0 ≤ meC σ e g ∧ onp σ e 40 (meC σ e g) k)
theorem SRn_0 {s σ : xS} {e : Int} (h : ∀ p : Int, 0 ≤ p → p < σ 256 6 → s 282 p.toNat = 0) : SRn s σ e 0 := fun p p0 p1 k hk => by
  rw [h p p0 p1, bt_0]
  exact ⟨fun w => (by cases w), fun ⟨g, w, _⟩ => by omega⟩
theorem SRn.go {s σ : xS} {e n x : Int} (h : SRn s σ e n) (t : TR σ) (g3 : G3 σ) (hJ : J σ) (hG : GI σ) (he : 0 ≤ e ∧ e ≤ 9) (hn : 0 ≤ n ∧ n < σ 50 6) (hx : x = meC σ e n) : SRw s σ e n x := fun p p0 p1 k hk => by
  subst hx
  rw [h p p0 p1 k hk]
  constructor
  · rintro (⟨g, a, b⟩ | ⟨a, b⟩)
    · exact ⟨g, by omega, b⟩
    · have h0 : 0 ≤ meC σ e n := by
        obtain ⟨j, hj⟩ := b
        have q : 0 ≤ xup σ e 0 (meC σ e n) := xup_nn (meC σ e n) j 0 (Nat.zero_le _) (by rw [hj]; omega)
        exact q
      exact ⟨n, by omega, a, h0, (t.way hJ hG he (t.mtd g3 hJ hG he hn h0) (by omega)).mpr b⟩
  · rintro ⟨g, a, b, c, d⟩
    by_cases e1 : g = n
    · subst e1
      exact Or.inr ⟨b, (t.way hJ hG he (t.mtd g3 hJ hG he hn c) (by omega)).mp d⟩
    · exact Or.inl ⟨g, by omega, b, c, d⟩
theorem SRw.step {s s' σ : xS} {e n x y p v u w : Int} (h : SRw s σ e n x) (hx : 0 ≤ x ∧ x ≤ 39) (hp : 0 ≤ p) (ep : σ 51 n.toNat = p) (h5 : ∀ j : Nat, s' 282 j = if j = p.toNat then v else s 282 j) (eu : u = s 282 p.toNat) (g1 : ∀ k, bt v k = (bt u k || bt w k)) (g2 : ∀ k : Nat, k < 64 → bt w k = decide (k = x.toNat)) (ey : y = σ 260 (10 * x + e).toNat) : SRw s' σ e n y := fun q q0 q1 k hk => by
  rw [← h q q0 q1 k hk, h5]
  have ex : (∃ j, xup σ e j x = (k : Int)) ↔ ((k : Int) = x ∨ ∃ j, xup σ e j y = (k : Int)) := by
    by_cases z : x = (k : Int)
    · exact ⟨fun _ => Or.inl z.symm, fun _ => ⟨0, z⟩⟩
    · rw [xup_ex hx.1 z, ey]
      exact ⟨Or.inr, fun w => w.elim (fun a => absurd a.symm z) id⟩
  by_cases z : q = p
  · subst z
    rw [if_pos rfl, g1 k, Bool.or_eq_true, eu, g2 k hk, decide_eq_true_eq, ex]
    constructor
    · rintro ((a | a) | ⟨a, b⟩)
      · exact Or.inl a
      · exact Or.inr ⟨ep, Or.inl (by omega)⟩
      · exact Or.inr ⟨a, Or.inr b⟩
    · rintro (a | ⟨a, b | b⟩)
      · exact Or.inl (Or.inl a)
      · exact Or.inl (Or.inr (by omega))
      · exact Or.inr ⟨a, b⟩
  · rw [if_neg (by omega)]
    exact or_congr Iff.rfl ⟨fun a => absurd (a.1.symm.trans ep) z, fun a => absurd (a.1.symm.trans ep) z⟩
theorem SRw.fin {s σ : xS} {e n x : Int} (h : SRw s σ e n x) (hx : x < 0) : SRn s σ e (n + 1) := fun p p0 p1 k hk => by
  rw [← h p p0 p1 k hk]
  refine ⟨Or.inl, fun a => a.elim id (fun b => ?_)⟩
  obtain ⟨j, hj⟩ := b.2
  rw [xup_neg j hx] at hj
  omega
theorem WRn.cg {s σ τ : xS} {n : Int} (h : WRn s σ n) (v : VE σ τ) : WRn s τ n := fun g g0 g1 => by
  have hg := h g g0 g1
  rw [v.wr, v.tu, v.ra] at hg
  exact hg
/-- what find finds -/
def FdZ (s σ : xS) (e : Int) : Prop := WRn s σ (σ 256 10) ∧ MRn s σ e (σ 256 10) ∧ ∀ p : Int, 0 ≤ p → p < σ 256 6 → ∀ k : Nat, k < 64 → (bt (s 282 p.toNat) k = true ↔ shC σ e p k)
theorem raC_0 (s : xS) (g : Int) : 0 ≤ raC s g := (ctp_ge 6).1
