/-! the reference's rules about keys, in words of the class's places -/
def exI (P : Int → Prop) (y x : Int) : Prop := (y = 1 ∧ ∃ c : Int, (0 ≤ c ∧ c < x) ∧ P c) ∨ (y = 0 ∧ ¬ ∃ c : Int, (0 ≤ c ∧ c < x) ∧ P c)
section EXI
variable {P : Int → Prop} {y x : Int}
theorem exI_0 : exI P 0 0 := Or.inr ⟨rfl, fun ⟨c, h, _⟩ => by omega⟩
theorem exI.on (h : exI P y x) (hy : y ≠ 0) : exI P 1 (x + 1) := by
  rcases h with ⟨_, c, h, p⟩ | ⟨h, _⟩
  · exact Or.inl ⟨rfl, c, by omega, p⟩
  · exact absurd h hy
theorem exI_yes (hx : 0 ≤ x) (p : P x) : exI P 1 (x + 1) := Or.inl ⟨rfl, x, by omega, p⟩
theorem exI.no (h : exI P y x) (hy : y = 0) (n : ¬ P x) : exI P 0 (x + 1) := by
  rcases h with ⟨h, _⟩ | ⟨_, h⟩
  · omega
  · refine Or.inr ⟨rfl, fun ⟨c, hc, p⟩ => ?_⟩
    by_cases e : c = x
    · subst e; exact n p
    · exact h ⟨c, by omega, p⟩
theorem exI.y1 (h : exI P y x) (hy : y ≠ 0) : ∃ c : Int, (0 ≤ c ∧ c < x) ∧ P c := by
  rcases h with ⟨_, h⟩ | ⟨h, _⟩
  · exact h
  · exact absurd h hy
theorem exI.y0 (h : exI P y x) (hy : y = 0) : ¬ ∃ c : Int, (0 ≤ c ∧ c < x) ∧ P c := by
  rcases h with ⟨h, _⟩ | ⟨_, h⟩
  · omega
  · exact h
end EXI
/-- clause c is one of rule r, n-th there -/
theorem R1.cl {s : xS} (h : R1 s) (hJ : J s) {c : Int} (hc : 0 ≤ c ∧ c < s 256 20) {r : Int} (hr : (0 ≤ r ∧ r < s 256 17) ∧ s 271 r.toNat ≤ c ∧ c < s 271 (r + 1).toNat) : (0 ≤ r ∧ r < s 179 5) ∧ (0 ≤ c - s 271 r.toNat ∧ c - s 271 r.toNat < s 181 r.toNat) ∧ kdC s r (c - s 271 r.toNat) = s 272 c.toNat + 1 ∧ fiC s r (c - s 271 r.toNat) = s 273 c.toNat ∧ (s 272 c.toNat ≤ 3 → scC s r (c - s 271 r.toNat) = s 274 c.toNat) ∧ okS (s 272 c.toNat + 1) (s 273 c.toNat) (s (200 + 1 + r.toNat) (c - s 271 r.toNat).toNat) r ∧ (s 272 c.toNat ≤ 3 → s (200 + 1 + r.toNat) (c - s 271 r.toNat).toNat = s 274 c.toNat) := by
  obtain ⟨k1, k2, k3⟩ := h.2.2 r hr.1.1 hr.1.2
  have e0 := h.1.1
  have hn : 0 ≤ c - s 271 r.toNat ∧ c - s 271 r.toNat < s 181 r.toNat := by omega
  obtain ⟨m1, m2, m3, m4⟩ := k3 _ hn.1 hn.2
  have ec : s 271 r.toNat + (c - s 271 r.toNat) = c := by omega
  rw [ec] at m1 m2 m3
  have hr5 : 0 ≤ r ∧ r < s 179 5 := by omega
  refine ⟨hr5, hn, ?_, ?_, ?_, ?_, m3⟩
  · unfold kdC; rw [if_pos ⟨hr5, hn⟩]; exact m1
  · unfold fiC; rw [if_pos ⟨hr5, hn⟩]; exact m2
  · intro w; unfold scC; rw [if_pos ⟨⟨hr5, hn⟩, by omega⟩]; exact m3 w
  · rw [m1, m2] at m4; exact m4
/-- a clause that counts, of both -/
def HpR (s : xS) (e c b : Int) : Prop := s 272 c.toNat = b ∧ ∃ r : Int, ((0 ≤ r ∧ r < s 256 17) ∧ s 271 r.toNat ≤ c ∧ c < s 271 (r + 1).toNat) ∧ CnR s e r
theorem R1.cn {s : xS} (h : R1 s) (e r : Int) : CnC s e r ↔ CnR s e r := by
  obtain ⟨q1, q2, q3, q4, q5⟩ := h.eq
  unfold CnC CnR
  rw [q1, q2, q3, q4, h.1.1]
/-- clauses of a kind with two numbers: of both -/
theorem R1.two {s : xS} (h : R1 s) (hJ : J s) {e b : Int} (hb : b ≤ 3) (Q : Int → Int → Prop) : (∃ c : Int, (0 ≤ c ∧ c < s 256 20) ∧ HpR s e c b ∧ Q (s 273 c.toNat) (s 274 c.toNat)) ↔ ∃ r n : Int, CnP s e r n ∧ kdC s r n = b + 1 ∧ Q (fiC s r n) (scC s r n) := by
  constructor
  · rintro ⟨c, hc, ⟨h1, r, hr, hcn⟩, q⟩
    obtain ⟨k1, k2, k3, k4, k5, -, -⟩ := h.cl hJ hc hr
    refine ⟨r, c - s 271 r.toNat, ⟨k1, (h.cn e r).mpr hcn, k2.1, ?_⟩, by omega, ?_⟩
    · unfold clC; rw [if_pos k1]; exact k2.2
    · rw [k4, k5 (by omega)]; exact q
  · rintro ⟨r, n, ⟨p1, p2, p3, p4⟩, k, q⟩
    have e0 := h.1.1
    have hr : 0 ≤ r ∧ r < s 256 17 := by omega
    obtain ⟨g1, g2, g3⟩ := h.2.2 r hr.1 hr.2
    unfold clC at p4
    rw [if_pos p1] at p4
    obtain ⟨m1, m2, m3, m4⟩ := g3 n p3 p4
    have jl := hJ.rl (r + 1) ⟨by omega, by have := h.1.2; omega⟩
    have hk : kdC s r n = s (182 + 1 + r.toNat) n.toNat := if_pos ⟨p1, p3, p4⟩
    have hf : fiC s r n = s (191 + 1 + r.toNat) n.toNat := if_pos ⟨p1, p3, p4⟩
    have hs : scC s r n = s (200 + 1 + r.toNat) n.toNat := if_pos ⟨⟨p1, p3, p4⟩, by omega⟩
    refine ⟨s 271 r.toNat + n, ⟨by omega, by omega⟩, ⟨by omega, r, ⟨hr, by omega, by omega⟩, (h.cn e r).mp p2⟩, ?_⟩
    rw [← m2, ← m3 (by omega), ← hf, ← hs]
    exact q
theorem R1.al {s : xS} (h : R1 s) (hJ : J s) (e k m : Int) : (∃ c : Int, (0 ≤ c ∧ c < s 256 20) ∧ (HpR s e c 1 ∧ s 273 c.toNat = k) ∧ s 274 c.toNat = m) ↔ AlC s e k m := by
  have := h.two hJ (e := e) (b := 1) (by omega) (fun a b => a = k ∧ b = m)
  unfold AlC AlP
  rw [show (1 : Int) + 1 = 2 from rfl] at this
  rw [← this]
  exact exists_congr (fun c => and_congr Iff.rfl ⟨fun q => ⟨q.1.1, q.1.2, q.2⟩, fun q => ⟨⟨q.1, q.2.1⟩, q.2.2⟩⟩)
theorem R1.ba {s : xS} (h : R1 s) (hJ : J s) (e k m : Int) : (∃ c : Int, (0 ≤ c ∧ c < s 256 20) ∧ HpR s e c 2 ∧ s 273 c.toNat ≠ s 274 c.toNat ∧ s 273 c.toNat = k ∧ s 274 c.toNat = m) ↔ BaC s e k m := by
  have := h.two hJ (e := e) (b := 2) (by omega) (fun a b => a ≠ b ∧ a = k ∧ b = m)
  unfold BaC BaP
  rw [show (2 : Int) + 1 = 3 from rfl] at this
  exact this
theorem R1.ne {s : xS} (h : R1 s) (hJ : J s) (e k m : Int) : (∃ c : Int, (0 ≤ c ∧ c < s 256 20) ∧ HpR s e c 3 ∧ s 273 c.toNat = k ∧ s 274 c.toNat = m) ↔ NeC s e k m := by
  have := h.two hJ (e := e) (b := 3) (by omega) (fun a b => a = k ∧ b = m)
  unfold NeC NeP
  rw [show (3 : Int) + 1 = 4 from rfl] at this
  exact this
/-- numbers of a clause that counts -/
theorem R1.rng {s : xS} (h : R1 s) (hJ : J s) {e c b : Int} (hc : 0 ≤ c ∧ c < s 256 20) (hp : HpR s e c b) : ∃ x r : Int, okS (b + 1) (s 273 c.toNat) x r ∧ (b ≤ 3 → x = s 274 c.toNat) := by
  obtain ⟨e1, r, hr, -⟩ := hp
  obtain ⟨k1, k2, k3, k4, k5, k6, k7⟩ := h.cl hJ hc hr
  rw [e1] at k6
  exact ⟨_, r, k6, fun w => k7 (by omega)⟩
/-- no allow clause of key k fits -/
def naR (s : xS) (k m e : Int) : Prop := (∃ c : Int, (0 ≤ c ∧ c < s 256 20) ∧ HpR s e c 1 ∧ s 273 c.toNat = k) ∧ ¬ ∃ c : Int, (0 ≤ c ∧ c < s 256 20) ∧ (HpR s e c 1 ∧ s 273 c.toNat = k) ∧ onp s e 40 m (s 274 c.toNat)
theorem R1.na {s : xS} (h : R1 s) (hJ : J s) (hG : GI s) (k m e : Int) : naR s k m e ↔ ((∃ x : Nat, x < 64 ∧ AlC s e k x) ∧ ∀ x : Nat, x < 64 → AlC s e k x → ¬ onp s e 40 m x) := by
  have h0 : ∀ c : Int, (0 ≤ c ∧ c < s 256 20) → HpR s e c 1 → 0 ≤ s 274 c.toNat ∧ s 274 c.toNat ≤ 39 := fun c hc hp => by
    obtain ⟨x, r, k1, k2⟩ := h.rng hJ hc hp
    rw [k2 (by omega)] at k1
    unfold okS at k1
    omega
  unfold naR
  constructor
  · rintro ⟨⟨c, hc, hp, hk⟩, w⟩
    have hx := h0 c hc hp
    refine ⟨⟨(s 274 c.toNat).toNat, by omega, (h.al hJ e k _).mp ⟨c, hc, ⟨hp, hk⟩, by omega⟩⟩, fun x hx al on => w ?_⟩
    obtain ⟨c', hc', hp', hm⟩ := (h.al hJ e k x).mpr al
    exact ⟨c', hc', hp', by rw [hm]; exact on⟩
  · rintro ⟨⟨x, hx, al⟩, w⟩
    obtain ⟨c, hc, hp, hm⟩ := (h.al hJ e k x).mpr al
    refine ⟨⟨c, hc, hp.1, hp.2⟩, fun ⟨c', hc', hp', on⟩ => ?_⟩
    have hy := h0 c' hc' hp'.1
    refine w (s 274 c'.toNat).toNat (by omega) ((h.al hJ e k _).mp ⟨c', hc', hp', by omega⟩) ?_
    rw [show (((s 274 c'.toNat).toNat : Nat) : Int) = s 274 c'.toNat by omega]
    exact on
/-- two keys are barred -/
def brR (s : xS) (e a c : Int) : Prop := HpR s e c 2 ∧ s 273 c.toNat ≠ s 274 c.toNat ∧ bi a (s 273 c.toNat).toNat = true ∧ bi a (s 274 c.toNat).toNat = true
theorem R1.br {s : xS} (h : R1 s) (hJ : J s) (e a : Int) : (∃ c : Int, (0 ≤ c ∧ c < s 256 20) ∧ brR s e a c) ↔ twC s e a := by
  have h0 : ∀ c : Int, (0 ≤ c ∧ c < s 256 20) → HpR s e c 2 → (0 ≤ s 273 c.toNat ∧ s 273 c.toNat ≤ 5) ∧ 0 ≤ s 274 c.toNat ∧ s 274 c.toNat ≤ 5 := fun c hc hp => by
    obtain ⟨x, r, k1, k2⟩ := h.rng hJ hc hp
    rw [k2 (by omega)] at k1
    unfold okS at k1
    omega
  unfold twC brR
  constructor
  · rintro ⟨c, hc, hp, hn, b1, b2⟩
    have hx := h0 c hc hp
    exact ⟨(s 273 c.toNat).toNat, by omega, b1, (s 274 c.toNat).toNat, by omega, (h.ba hJ e _ _).mp ⟨c, hc, hp, hn, by omega, by omega⟩, b2⟩
  · rintro ⟨k, hk, b1, x, hx, ba, b2⟩
    obtain ⟨c, hc, hp, hn, e1, e2⟩ := (h.ba hJ e k x).mpr ba
    refine ⟨c, hc, hp, hn, ?_, ?_⟩
    · rw [e1]; exact b1
    · rw [e2]; exact b2
/-- what holds says, where the rules of e are weighed -/
theorem FrZ.ho {s : xS} {e c b : Int} (h : FrZ s s e) : HoR s c b ↔ HpR s e c b := HoR.eq h ⟨rfl, rfl, rfl, rfl, rfl, rfl⟩
/-- below, as the reference asks it of a told mark -/
theorem TR.bel {s : xS} (h : TR s) (hJ : J s) (hG : GI s) {e m b : Int} (he : 0 ≤ e ∧ e ≤ 9) (hm : tdC s e m) (hb : 0 ≤ b) : (((0 ≤ m ∧ m < s 256 1 ∧ s 257 m.toNat ≤ e) ∧ b < s 256 1 ∧ s 257 b.toNat ≤ e) ∧ ∃ k, xup s e k m = b) ↔ onp s e 40 m b := by
  have g1 : (1 : Int) ≤ s 256 1 ∧ s 256 1 ≤ 40 := hG 256 1
  have e4 := h.1.2.1
  have hk : ∀ x : Int, 0 ≤ x → x < s 256 1 → s 2 x.toNat = s 257 x.toNat := fun x x0 x1 => ((h.1.2.2 x x0 (by omega)).1 x1).1
  constructor
  · rintro ⟨_, w⟩
    exact (h.way hJ hG he hm hb).mpr w
  · intro w
    obtain ⟨⟨t1, t2⟩, t3⟩ := h.2.2.1.told hG he 40 m hm w
    obtain ⟨⟨m1, m2⟩, m3⟩ := hm
    have k1 := hk m m1 (by omega)
    have k2 := hk b t1 (by omega)
    exact ⟨⟨⟨m1, by omega, by omega⟩, by omega, by omega⟩, (h.way hJ hG he ⟨⟨m1, m2⟩, m3⟩ hb).mp w⟩
section XIP
variable {X : pmX} {m pc : Nat} {ls : pmL} {r : List Value} {s : xS} {c k : Nat} {P : xS → Option Value → Prop} {len : Nat} {a b : Int}
theorem x_ishr_p (hk : pm_look (pm_kl m) pc = some (.ishr, len)) (kk : ∀ t, in32 t → ((0 ≤ b ∧ b ≤ 31) → ∀ k : Nat, b.toNat + k < 32 → bi t k = bi a (b.toNat + k)) → xe X m (pc + 1) ls (vi t :: r) s c k P) : xe X m pc ls (vi b :: vi a :: r) s c k P := fun h hr => by
  obtain ⟨t, ht, e⟩ := in32_any (Int32.ofInt a >>> (Int32.ofInt b &&& 31))
  refine x_A hk (fun h => by simp only [pm_stepA]; rw [e]) (kk t ht (fun hb k hk2 => ?_)) h hr
  have hb2 : ((b.toNat : Nat) : Int) = b := by omega
  have h1 := bi_amt2 b.toNat (by omega)
  rw [hb2] at h1
  unfold bi
  rw [← e, Int32.toBitVec_shiftRight, BitVec.sshiftRight_eq', h1, BitVec.getLsbD_sshiftRight, if_pos hk2]
  simp only [show decide (32 ≤ k) = false from decide_eq_false (by omega), Bool.not_false, Bool.true_and]
end XIP
theorem bi_two {a p q t1 t2 t3 t4 : Int} (hp : 0 ≤ p ∧ p ≤ 5) (hq : 0 ≤ q ∧ q ≤ 5) (u1 : (0 ≤ p ∧ p ≤ 31) → ∀ k : Nat, p.toNat + k < 32 → bi t1 k = bi a (p.toNat + k)) (u2 : (0 ≤ q ∧ q ≤ 31) → ∀ k : Nat, q.toNat + k < 32 → bi t2 k = bi a (q.toNat + k)) (u3 : ∀ k, bi t3 k = (bi t1 k && bi t2 k)) (i4 : in32 t4) (u4 : ∀ k, bi t4 k = (bi t3 k && bi 1 k)) : t4 = 1 ↔ (bi a p.toNat = true ∧ bi a q.toNat = true) := by
  have h1 := u1 ⟨hp.1, by omega⟩ 0 (by omega)
  have h2 := u2 ⟨hq.1, by omega⟩ 0 (by omega)
  rw [Nat.add_zero] at h1 h2
  rcases bi_low i4 u4 with ⟨w1, w2⟩ | ⟨w1, w2⟩
  · rw [u3, h1, h2, Bool.and_eq_false_iff] at w2
    refine ⟨fun z => by omega, fun z => ?_⟩
    rw [z.1, z.2] at w2
    exact absurd w2 (by decide)
  · rw [u3, h1, h2, Bool.and_eq_true] at w2
    exact ⟨fun _ => w2, fun _ => w1⟩
/-- wrong, turning, raising: the first n givings of the reference -/
def WRn (s σ : xS) (n : Int) : Prop := ∀ g : Int, 0 ≤ g → g < n → s 277 g.toNat = wrC σ g ∧ (s 278 g.toNat = 1 ↔ tuC σ g) ∧ s 279 g.toNat = raC σ g
theorem WRn_0 {s σ : xS} : WRn s σ 0 := fun g h0 h1 => by omega
theorem WRn.fl {L : List Nat} {s s' σ : xS} {n : Int} (h : WRn s σ n) (f : FL L s s') (hL : ∀ x ∈ [5440, 5504, 5568], x ∉ L) : WRn s' σ n := by
  have a1 : s' 277 = s 277 := funext fun i => f 277 i (hL 5440 (by decide))
  have a2 : s' 278 = s 278 := funext fun i => f 278 i (hL 5504 (by decide))
  have a3 : s' 279 = s 279 := funext fun i => f 279 i (hL 5568 (by decide))
  unfold WRn; rw [a1, a2, a3]; exact h
theorem WRn.up {s σ : xS} {n : Int} {q i : Nat} {v : Int} (h : WRn s σ n) (hL : x_pl q i ∉ [5440, 5504, 5568]) : WRn (x_up s q i v) σ n := h.fl FL.one (fun x hx hm => hL (by rw [← List.mem_singleton.mp hm]; exact hx))
/-- the n-th giving's row is written: rows of those ahead are kept -/
theorem WRn.st {s σ : xS} {n : Int} {q : Nat} {v : Int} (h : WRn s σ n) (hn : 0 ≤ n) : WRn (x_up s q n.toNat v) σ n := fun g g0 g1 => by
  have e : ∀ r, x_up s q n.toNat v r g.toNat = s r g.toNat := fun r => by
    by_cases er : r = q
    · rw [er, x_up_i (by omega)]
    · exact x_up_q er
  rw [e, e, e]
  exact h g g0 g1
theorem WRn.add {s σ : xS} {n : Int} (h : WRn s σ n) (e1 : s 277 n.toNat = wrC σ n) (e2 : s 278 n.toNat = 1 ↔ tuC σ n) (e3 : s 279 n.toNat = raC σ n) : WRn s σ (n + 1) := fun g g0 g1 => by
  by_cases q : g = n
  · subst q; exact ⟨e1, e2, e3⟩
  · exact h g g0 (by omega)
/-- senses and most of the reference, in the class's words -/
theorem FrZ.se {s σ : xS} {e : Int} (h : FrZ s σ e) (r : R1 σ) : (∀ k : Int, 0 ≤ k → k ≤ 5 → s 276 k.toNat = seC σ e k) ∧ s 256 26 = moC σ e := by
  obtain ⟨q1, q2, q3, q4, q5⟩ := r.eq
  have hf : foF σ e (e + 1).toNat = foFR σ e (e + 1).toNat := by unfold foF foFR; rw [q1, q2, q3, q4, q5, r.1.1]
  unfold seC moC
  rw [hf]
  exact h.2
theorem FrZ.cg {s s' σ : xS} {e : Int} (h : FrZ s σ e) (h5 : s' 275 = s 275) (h6 : s' 276 = s 276) (h7 : s' 256 26 = s 256 26) : FrZ s' σ e := by unfold FrZ FrI FoQ; rw [h5, h6, h7]; exact h
theorem FrZ.fl {L : List Nat} {s s' σ : xS} {e : Int} (h : FrZ s σ e) (f : FL L s s') (hL : ∀ x ∈ [5312, 5376, 4123], x ∉ L) : FrZ s' σ e := h.cg (funext fun i => f 275 i (hL 5312 (by decide))) (funext fun i => f 276 i (hL 5376 (by decide))) (f 256 26 (hL 4123 (by decide)))
theorem FrZ.up {s σ : xS} {e : Int} {q i : Nat} {v : Int} (h : FrZ s σ e) (hL : x_pl q i ∉ [5312, 5376, 4123]) : FrZ (x_up s q i v) σ e := h.fl FL.one (fun x hx hm => hL (by rw [← List.mem_singleton.mp hm]; exact hx))
theorem FrZ.re {s σ τ : xS} {e : Int} (h : FrZ s σ e) (r : RrE σ τ) : FrZ s τ e := by
  obtain ⟨e1, e2, e3, e4, e5⟩ := r.fn
  have e0 := r.1
  unfold FrZ FrI FoQ CnR foFR at h ⊢
  rw [e1, e2, e3, e4, e5, e0] at h
  exact h
theorem RrE.sy {s σ : xS} (h : RrE s σ) : RrE σ s := ⟨h.1.symm, h.2.1.symm, h.2.2.1.symm, h.2.2.2.1.symm, h.2.2.2.2.1.symm, h.2.2.2.2.2.symm⟩
theorem bi_atr {z1 z2 x b : Int} (hb : b.toNat < 32) (u1 : ∀ k : Nat, b.toNat + k < 32 → bi z1 k = bi x (b.toNat + k)) (i2 : in32 z2) (u2 : ∀ k, bi z2 k = (bi z1 k && bi 1 k)) : (z2 = 0 ∧ bi x b.toNat = false) ∨ (z2 = 1 ∧ bi x b.toNat = true) := by
  have h := bi_low i2 u2
  rw [u1 0 (by omega)] at h
  exact h
/-- the same over natural numbers -/
def exN (P : Nat → Prop) (y x : Int) : Prop := (y = 1 ∧ ∃ i : Nat, (i : Int) < x ∧ P i) ∨ (y = 0 ∧ ¬ ∃ i : Nat, (i : Int) < x ∧ P i)
theorem exN_0 {P : Nat → Prop} : exN P 0 0 := Or.inr ⟨rfl, fun ⟨i, h, _⟩ => by omega⟩
theorem exN.on {P : Nat → Prop} {y x : Int} (h : exN P y x) (hy : y ≠ 0) : exN P 1 (x + 1) := by
  rcases h with ⟨_, i, h, p⟩ | ⟨h, _⟩
  · exact Or.inl ⟨rfl, i, by omega, p⟩
  · exact absurd h hy
theorem exN_yes {P : Nat → Prop} {x : Int} (hx : 0 ≤ x) (p : P x.toNat) : exN P 1 (x + 1) := Or.inl ⟨rfl, x.toNat, by omega, p⟩
theorem exN.no {P : Nat → Prop} {y x : Int} (h : exN P y x) (hy : y = 0) (n : ¬ P x.toNat) : exN P 0 (x + 1) := by
  rcases h with ⟨h, _⟩ | ⟨_, h⟩
  · omega
  · refine Or.inr ⟨rfl, fun ⟨i, hi, p⟩ => ?_⟩
    by_cases e : i = x.toNat
    · subst e; exact n p
    · exact h ⟨i, by omega, p⟩
theorem tuN {s : xS} {g y x : Int} (h : exN (fun i : Nat => bi (s 54 g.toNat) i = true ∧ seC s (s 55 g.toNat) i = 1) y x) (hx : x = 6) : y = 1 ↔ tuC s g := by
  subst hx
  rcases h with ⟨h1, i, hi, p⟩ | ⟨h1, h2⟩
  · exact ⟨fun _ => ⟨i, by omega, p.1, p.2⟩, fun _ => h1⟩
  · exact ⟨fun w => by omega, fun ⟨i, hi, p1, p2⟩ => absurd ⟨i, by omega, p1, p2⟩ h2⟩
theorem ToC.u {s : xS} {a b z1 z2 : Int} (h1 : ToC s a b z1) (h2 : ToC s a b z2) : z1 = z2 := by
  unfold ToC at h1 h2
  rcases h1 with ⟨a1, a2⟩ | ⟨a1, a2, a3⟩ | ⟨a1, a2, a3⟩ <;> rcases h2 with ⟨b1, b2⟩ | ⟨b1, b2, b3⟩ | ⟨b1, b2, b3⟩ <;> omega
theorem ToC.fl {L : List Nat} {s s' : xS} {a b z : Int} (h : ToC s' a b z) (hG : GI s) (f : FL L s s') (hL : ∀ x ∈ [69, 128, 192, 256, 384, 1350, 1408, 1472, 1600, 1664, 1728, 1792, 1856, 711, 768, 832, 960, 1024, 1152, 896, 11], x ∉ L) : ToC s a b z := by
  have v := f.ve hG (fun x hx => hL x (by revert x; decide))
  have e1 : s' 53 = s 53 := funext fun i => f 53 i (hL 896 (by decide))
  have e2 : s' 0 10 = s 0 10 := f 0 10 (hL 11 (by decide))
  have e6 := v.2.2.2.1
  have e51 := v.2.2.2.2.1
  have e52 := v.2.2.2.2.2.1
  have e54 := v.2.2.2.2.2.2.1
  have e55 := v.2.2.2.2.2.2.2.1
  unfold ToC at h ⊢
  rw [e6] at h
  rcases h with h | h | ⟨h1, h2, h3⟩
  · exact Or.inl h
  · exact Or.inr (Or.inl h)
  · refine Or.inr (Or.inr ⟨h1, h2, ?_⟩)
    rw [h3]
    unfold toC
    rw [e51, e52, e1, e54, e55, v.wr, v.dc h1, e2]
