/-! rules, as the reference weighs them -/
def CnR (s : xS) (e r : Int) : Prop := cnt (edR s) (clR s) (kdR s) (fiR s) (s 256 17) e r
def SkR (s : xS) (a b : Int) : Prop := Sk (clR s) (kdR s) (fiR s) a b
/-- among the clauses from the first of rule a up to x, one strikes b -/
def SkX (s : xS) (a b x : Int) : Prop := ∃ c : Int, (s 271 a.toNat ≤ c ∧ c < x) ∧ s 272 c.toNat = 5 ∧ s 273 c.toNat = b
def SkI (s : xS) (a b y x : Int) : Prop := (y = 1 ∧ SkX s a b x) ∨ (y = 0 ∧ ¬ SkX s a b x)
theorem SkI_0 {s : xS} {a b x : Int} (h : x = s 271 a.toNat) : SkI s a b 0 x := Or.inr ⟨rfl, fun ⟨c, q, _⟩ => by omega⟩
theorem SkI.on {s : xS} {a b y x : Int} (h : SkI s a b y x) (hy : y ≠ 0) : SkI s a b 1 (x + 1) := by
  rcases h with ⟨_, c, q, w⟩ | ⟨h, _⟩
  · exact Or.inl ⟨rfl, c, by omega, w⟩
  · exact absurd h hy
theorem SkI.yes {s : xS} {a b y x : Int} (hx : s 271 a.toNat ≤ x) (h5 : s 272 x.toNat = 5) (hb : s 273 x.toNat = b) : SkI s a b 1 (x + 1) := Or.inl ⟨rfl, x, by omega, h5, hb⟩
theorem SkI.no {s : xS} {a b y x : Int} (h : SkI s a b y x) (hy : y = 0) (hn : ¬ (s 272 x.toNat = 5 ∧ s 273 x.toNat = b)) : SkI s a b 0 (x + 1) := by
  rcases h with ⟨h, _⟩ | ⟨_, h⟩
  · omega
  · refine Or.inr ⟨rfl, fun ⟨c, q, w⟩ => ?_⟩
    by_cases e : c = x
    · subst e; exact hn w
    · exact h ⟨c, by omega, w⟩
theorem SkX.eq {s : xS} {a b x : Int} (ha : 0 ≤ a ∧ a < s 256 17) (hx : x = s 271 (a + 1).toNat) : SkX s a b x ↔ SkR s a b := by
  subst hx
  constructor
  · rintro ⟨c, q, w1, w2⟩
    have hn : 0 ≤ c - s 271 a.toNat ∧ c - s 271 a.toNat < s 271 (a + 1).toNat - s 271 a.toNat := by omega
    have e : s 271 a.toNat + (c - s 271 a.toNat) = c := by omega
    refine ⟨c - s 271 a.toNat, ?_, ?_, ?_⟩
    · unfold clR; rw [if_pos ha]; exact hn
    · unfold kdR; rw [if_pos ⟨ha, hn⟩, e]; omega
    · unfold fiR; rw [if_pos ⟨ha, hn⟩, e]; exact w2
  · rintro ⟨n, q, w1, w2⟩
    unfold clR at q
    rw [if_pos ha] at q
    unfold kdR at w1
    rw [if_pos ⟨ha, q⟩] at w1
    unfold fiR at w2
    rw [if_pos ⟨ha, q⟩] at w2
    exact ⟨s 271 a.toNat + n, by omega, by omega, w2⟩
theorem SkI.fin {s : xS} {a b y x : Int} (h : SkI s a b y x) (ha : 0 ≤ a ∧ a < s 256 17) (hx : x = s 271 (a + 1).toNat) : (y = 1 ∧ SkR s a b) ∨ (y = 0 ∧ ¬ SkR s a b) := by
  unfold SkI at h
  rw [SkX.eq ha hx] at h
  exact h
theorem R1.f1 {s : xS} (h : R1 s) {r : Int} (hr : 0 ≤ r ∧ r < s 256 17) : 0 ≤ s 271 r.toNat ∧ s 271 (r + 1).toNat = s 271 r.toNat + s 181 r.toNat := (h.2.2 r hr.1 hr.2).2.1
/-- which rules count: those behind x are told -/
def FrI (s s0 : xS) (e x : Int) : Prop := ∀ r : Int, 0 ≤ r → x < r → r < s0 256 17 → (s 275 r.toNat = 1 ↔ CnR s0 e r)
/-- rule k, held against those behind it up to j -/
def FrJ (s s0 : xS) (e k j : Int) : Prop := FrI s s0 e k ∧ (s 275 k.toNat = 1 ↔ (edR s0 k ≤ e ∧ ¬ ∃ i : Int, (k < i ∧ i < j) ∧ CnR s0 e i ∧ SkR s0 i k))
theorem FrI_0 {s s0 : xS} {e x : Int} (hx : x = s0 256 17 - 1) : FrI s s0 e x := fun r _ h1 h2 => by omega
theorem FrI.st {s s0 : xS} {e k v : Int} (h : FrI s s0 e k) (hk : 0 ≤ k) : FrI (x_up s 275 k.toNat v) s0 e k := fun r r0 h1 h2 => by
  rw [x_up_at, if_neg (by omega)]
  exact h r r0 h1 h2
theorem FrI.go {s s0 : xS} {e k v : Int} (h : FrI s s0 e k) (hk : 0 ≤ k ∧ k < s0 256 17) (hv : (v = 1 ∧ s0 270 k.toNat ≤ e) ∨ (v = 0 ∧ e < s0 270 k.toNat)) : FrJ (x_up s 275 k.toNat v) s0 e k (k + 1) := by
  refine ⟨h.st hk.1, ?_⟩
  rw [x_up_at, if_pos rfl]
  have he : edR s0 k = s0 270 k.toNat := if_pos hk
  rw [he]
  constructor
  · intro w; exact ⟨by omega, fun ⟨i, q, _⟩ => by omega⟩
  · intro w; have := w.1; omega
theorem FrJ.step {s s0 : xS} {e k j v : Int} (h : FrJ s s0 e k j) (hk : 0 ≤ k ∧ k < j) (hj : j < s0 256 17) (g : s 275 k.toNat = 0 ∨ s 275 k.toNat = 1) (hv : (v = 0 ∧ s 275 k.toNat = 0) ∨ (v = 1 ∧ s 275 k.toNat = 1 ∧ s 275 j.toNat ≠ 1) ∨ (v = 1 ∧ s 275 k.toNat = 1 ∧ ¬ SkR s0 j k) ∨ (v = 0 ∧ s 275 k.toNat = 1 ∧ s 275 j.toNat = 1 ∧ SkR s0 j k)) : FrJ (x_up s 275 k.toNat v) s0 e k (j + 1) := by
  obtain ⟨h1, h2⟩ := h
  refine ⟨h1.st hk.1, ?_⟩
  rw [x_up_at, if_pos rfl]
  have hcj := h1 j (by omega) hk.2 hj
  have ex : (∃ i : Int, (k < i ∧ i < j + 1) ∧ CnR s0 e i ∧ SkR s0 i k) ↔ ((∃ i : Int, (k < i ∧ i < j) ∧ CnR s0 e i ∧ SkR s0 i k) ∨ (CnR s0 e j ∧ SkR s0 j k)) := by
    constructor
    · rintro ⟨i, q, w⟩
      by_cases e1 : i = j
      · subst e1; exact Or.inr w
      · exact Or.inl ⟨i, by omega, w⟩
    · rintro (⟨i, q, w⟩ | w)
      · exact ⟨i, by omega, w⟩
      · exact ⟨j, by omega, w⟩
  rw [ex]
  rcases hv with ⟨v0, q⟩ | ⟨v1, q1, q2⟩ | ⟨v1, q1, q2⟩ | ⟨v0, q1, q2, q3⟩
  · refine ⟨fun w => by omega, fun w => ?_⟩
    have := h2.mpr ⟨w.1, fun z => w.2 (Or.inl z)⟩
    omega
  · exact ⟨fun _ => ⟨(h2.mp q1).1, fun z => z.elim (h2.mp q1).2 (fun y => q2 (hcj.mpr y.1))⟩, fun _ => v1⟩
  · exact ⟨fun _ => ⟨(h2.mp q1).1, fun z => z.elim (h2.mp q1).2 (fun y => q2 y.2)⟩, fun _ => v1⟩
  · exact ⟨fun w => by omega, fun w => absurd (Or.inr ⟨hcj.mp q2, q3⟩) w.2⟩
theorem FrJ.out {s s0 : xS} {e k j : Int} (h : FrJ s s0 e k j) (hk : 0 ≤ k ∧ k < s0 256 17) (hj : j = s0 256 17) : FrI s s0 e (k - 1) := fun r r0 h1 h2 => by
  by_cases q : r = k
  · subst q
    rw [h.2]
    unfold CnR
    rw [cnt_ex hk.2]
    refine and_congr Iff.rfl (not_congr ⟨fun ⟨i, q, w⟩ => ⟨i, by omega, w⟩, fun ⟨i, q, w⟩ => ⟨i, by omega, w⟩⟩)
  · exact h.1 r r0 (by omega) h2
theorem FrI.cg {s s' s0 : xS} {e x : Int} (h : FrI s s0 e x) (h5 : s' 275 = s 275) : FrI s' s0 e x := by unfold FrI; rw [h5]; exact h
/-- the senses and most of the reference -/
def FoQ (s : xS) (f : Int → Int) : Prop := (∀ k : Int, 0 ≤ k → k ≤ 5 → s 276 k.toNat = f k) ∧ s 256 26 = f 6
noncomputable def foFR (s : xS) (e : Int) : Nat → Int → Int := foE (edR s) (clR s) (kdR s) (fiR s) (scR s) (s 256 17) e
noncomputable def foGR (s : xS) (e t : Int) (r : Nat) : Int → Int := foR (edR s) (clR s) (kdR s) (fiR s) (scR s) (s 256 17) e t r (foFR s e t.toNat)
noncomputable def foHR (s : xS) (e t : Int) (r n : Int) : Int → Int := foN (kdR s) (fiR s) (scR s) r n.toNat (foGR s e t r.toNat)
theorem FoQ_0 {s s0 : xS} {e : Int} (h1 : ∀ k : Int, 0 ≤ k → k ≤ 5 → s 276 k.toNat = 0) (h2 : s 256 26 = 20) : FoQ s (foFR s0 e (0 : Int).toNat) := ⟨fun k k0 k1 => by
  have e0 : foFR s0 e (0 : Int).toNat k = if k = 6 then 20 else 0 := rfl
  rw [e0, if_neg (by omega)]
  exact h1 k k0 k1, h2⟩
/-- where clause x of rule r is looked at -/
def FrH (s s0 : xS) (e t r x : Int) : Prop := FoQ s (foHR s0 e t r (x - s0 271 r.toNat)) ∧ s0 271 r.toNat ≤ x ∧ (s0 271 r.toNat < x → edR s0 r = t ∧ CnR s0 e r)
theorem FrH_0 {s s0 : xS} {e t r x : Int} (h : FoQ s (foGR s0 e t r.toNat)) (hx : x = s0 271 r.toNat) : FrH s s0 e t r x := by
  subst hx
  refine ⟨?_, Int.le_refl _, fun w => by omega⟩
  rw [show s0 271 r.toNat - s0 271 r.toNat = 0 by omega]
  exact h
theorem FrH.out {s s0 : xS} {e t r x : Int} (h : FrH s s0 e t r x) (hr : 0 ≤ r ∧ r < s0 256 17) (hx : x ≤ s0 271 (r + 1).toNat) (hq : x = s0 271 (r + 1).toNat ∨ ¬ (edR s0 r = t ∧ CnR s0 e r)) : FoQ s (foGR s0 e t (r + 1).toNat) := by
  obtain ⟨h1, h2, h3⟩ := h
  have hc : clR s0 r = s0 271 (r + 1).toNat - s0 271 r.toNat := if_pos hr
  by_cases q : edR s0 r = t ∧ CnR s0 e r
  · have hx2 : x = s0 271 (r + 1).toNat := hq.resolve_right (fun w => w q)
    unfold foGR
    rw [foR_y hr.1 q, hc, ← hx2]
    exact h1
  · have hx2 : x = s0 271 r.toNat := by
      by_cases w : s0 271 r.toNat < x
      · exact absurd (h3 w) q
      · omega
    unfold foGR
    rw [foR_n hr.1 q]
    rw [hx2, show s0 271 r.toNat - s0 271 r.toNat = 0 by omega] at h1
    exact h1
theorem FrH.step {s s' s0 : xS} {e t r x : Int} (h : FrH s s0 e t r x) (hr : 0 ≤ r ∧ r < s0 256 17) (hx : x < s0 271 (r + 1).toNat) (hq : edR s0 r = t ∧ CnR s0 e r) (hA : s0 272 x.toNat = 0 → 0 ≤ s0 273 x.toNat ∧ s0 273 x.toNat ≤ 5)
    (e1 : ∀ k : Int, 0 ≤ k → k ≤ 5 → s' 276 k.toNat = if s0 272 x.toNat = 0 ∧ k = s0 273 x.toNat then s0 274 x.toNat else s 276 k.toNat) (e2 : s' 256 26 = if s0 272 x.toNat = 4 then s0 273 x.toNat else s 256 26) : FrH s' s0 e t r (x + 1) := by
  obtain ⟨⟨h1, h1b⟩, h2, h3⟩ := h
  have hn : 0 ≤ x - s0 271 r.toNat ∧ x - s0 271 r.toNat < s0 271 (r + 1).toNat - s0 271 r.toNat := by omega
  have ex : s0 271 r.toNat + (x - s0 271 r.toNat) = x := by omega
  have k1 : kdR s0 r (x - s0 271 r.toNat) = s0 272 x.toNat + 1 := by unfold kdR; rw [if_pos ⟨hr, hn⟩, ex]
  have k2 : fiR s0 r (x - s0 271 r.toNat) = s0 273 x.toNat := by unfold fiR; rw [if_pos ⟨hr, hn⟩, ex]
  have k3 : s0 272 x.toNat = 0 → scR s0 r (x - s0 271 r.toNat) = s0 274 x.toNat := fun w => by unfold scR; rw [if_pos ⟨⟨hr, hn⟩, by rw [ex]; omega⟩, ex]
  refine ⟨?_, by omega, fun _ => hq⟩
  have hf : foHR s0 e t r (x + 1 - s0 271 r.toNat) = upS (s0 272 x.toNat + 1) (s0 273 x.toNat) (scR s0 r (x - s0 271 r.toNat)) (foHR s0 e t r (x - s0 271 r.toNat)) := by
    unfold foHR
    rw [show x + 1 - s0 271 r.toNat = (x - s0 271 r.toNat) + 1 by omega, foN_s hn.1, k1, k2]
  rw [hf]
  refine ⟨fun k k0 k5 => ?_, ?_⟩
  · rw [e1 k k0 k5]
    by_cases q : s0 272 x.toNat = 0 ∧ k = s0 273 x.toNat
    · rw [if_pos q, ← k3 q.1]; unfold upS; rw [if_pos ⟨by omega, q.2⟩]
    · rw [if_neg q, upS_ge (by omega) (by omega) (by omega)]; exact h1 k k0 k5
  · rw [e2]
    by_cases q : s0 272 x.toNat = 4
    · rw [if_pos q]; unfold upS; rw [if_neg (by omega), if_pos ⟨by omega, rfl⟩]
    · rw [if_neg q]
      by_cases q0 : s0 272 x.toNat = 0
      · have := hA q0; rw [upS_ge (by omega) (by omega) (by omega)]; exact h1b
      · rw [upS_ge (by omega) (by omega) (by omega)]; exact h1b
theorem FoQ.round {s s0 : xS} {e t r : Int} (h : FoQ s (foGR s0 e t r.toNat)) (ht : 0 ≤ t) (hr : r = s0 256 17) : FoQ s (foFR s0 e (t + 1).toNat) := by
  have hf : foFR s0 e (t + 1).toNat = foGR s0 e t r.toNat := by
    unfold foGR foFR
    rw [foE_s ht, hr]
  rw [hf]
  exact h
theorem FoQ.cg {s s' : xS} {f : Int → Int} (h : FoQ s f) (h6 : s' 276 = s 276) (h7 : s' 256 26 = s 256 26) : FoQ s' f := by unfold FoQ; rw [h6, h7]; exact h
/-- the rules of edition e, weighed -/
def FrZ (s' s : xS) (e : Int) : Prop := FrI s' s e (-1) ∧ FoQ s' (foFR s e (e + 1).toNat)
/-- clause c holds for kind b -/
def HoR (s : xS) (c b : Int) : Prop := s 272 c.toNat = b ∧ ∃ r : Int, ((0 ≤ r ∧ r < s 256 17) ∧ s 271 r.toNat ≤ c ∧ c < s 271 (r + 1).toNat) ∧ s 275 r.toNat = 1
theorem R1.mono {s : xS} (h : R1 s) (hG : ∀ i : Nat, 0 ≤ s 181 i) {a : Int} (ha : 0 ≤ a) : ∀ k : Nat, a + k ≤ s 256 17 → s 271 a.toNat ≤ s 271 (a + k).toNat := by
  intro k
  induction k with
  | zero => intro _; rw [show a + ((0 : Nat) : Int) = a by omega]; exact Int.le_refl _
  | succ k ih =>
    intro hk
    have h1 := ih (by omega)
    have h2 := (h.f1 (r := a + k) (by omega)).2
    have h3 := hG (a + k).toNat
    rw [show a + ((k + 1 : Nat) : Int) = a + k + 1 by omega, h2]
    omega
theorem R1.uniq {s : xS} (h : R1 s) (hG : ∀ i : Nat, 0 ≤ s 181 i) {c r r' : Int} (hr : (0 ≤ r ∧ r < s 256 17) ∧ s 271 r.toNat ≤ c ∧ c < s 271 (r + 1).toNat) (hr' : (0 ≤ r' ∧ r' < s 256 17) ∧ s 271 r'.toNat ≤ c ∧ c < s 271 (r' + 1).toNat) : r = r' := by
  by_cases q : r < r'
  · have := h.mono hG (a := r + 1) (by omega) (r' - (r + 1)).toNat (by omega)
    rw [show r + 1 + ((r' - (r + 1)).toNat : Int) = r' by omega] at this
    omega
  · by_cases q2 : r' < r
    · have := h.mono hG (a := r' + 1) (by omega) (r - (r' + 1)).toNat (by omega)
      rw [show r' + 1 + ((r - (r' + 1)).toNat : Int) = r by omega] at this
      omega
    · omega
def FzR (s : xS) (a b z : Int) : Prop := (¬ ((0 ≤ a ∧ a ≤ 9) ∧ 0 ≤ b ∧ b ≤ 9) ∧ z = -1002) ∨ (((0 ≤ a ∧ a ≤ 9) ∧ 0 ≤ b ∧ b ≤ 9) ∧ b ≤ 6 ∧ z = foFR s a (a + 1).toNat (fx b)) ∨ (((0 ≤ a ∧ a ≤ 9) ∧ 0 ≤ b ∧ b ≤ 9) ∧ 7 ≤ b ∧ z = ctp (fun c => s 272 c = b - 6 ∧ ∃ r : Int, ((0 ≤ r ∧ r < s 256 17) ∧ s 271 r.toNat ≤ c ∧ (c : Int) < s 271 (r + 1).toNat) ∧ CnR s a r) (s 256 20).toNat)
/-! rules of the reference in two states that are the same -/
def RrE (s σ : xS) : Prop := s 256 17 = σ 256 17 ∧ s 270 = σ 270 ∧ s 271 = σ 271 ∧ s 272 = σ 272 ∧ s 273 = σ 273 ∧ s 274 = σ 274
theorem FL.rre {L : List Nat} {s s' : xS} (f : FL L s s') (hL : ∀ x ∈ [4114, 4992, 5056, 5120, 5184, 5248], x ∉ L) : RrE s' s :=
  ⟨f 256 17 (hL 4114 (by decide)), funext fun i => f 270 i (hL 4992 (by decide)), funext fun i => f 271 i (hL 5056 (by decide)), funext fun i => f 272 i (hL 5120 (by decide)), funext fun i => f 273 i (hL 5184 (by decide)), funext fun i => f 274 i (hL 5248 (by decide))⟩
theorem RrE.fn {s σ : xS} (h : RrE s σ) : edR s = edR σ ∧ clR s = clR σ ∧ kdR s = kdR σ ∧ fiR s = fiR σ ∧ scR s = scR σ := by
  obtain ⟨h1, h2, h3, h4, h5, h6⟩ := h
  refine ⟨?_, ?_, ?_, ?_, ?_⟩
  · unfold edR; rw [h1, h2]
  · unfold clR; rw [h1, h3]
  · unfold kdR; rw [h1, h3, h4]
  · unfold fiR; rw [h1, h3, h5]
  · unfold scR; rw [h1, h3, h4, h6]
theorem SkR.cg {s σ : xS} (h : RrE s σ) {a b : Int} : SkR s a b ↔ SkR σ a b := by
  obtain ⟨e1, e2, e3, e4, e5⟩ := h.fn
  unfold SkR
  rw [e2, e3, e4]
theorem sn_z {s : xS} {x : Int} (h : ∀ k : Int, 0 ≤ k → k < x → s 276 k.toNat = 0) (hx : 0 ≤ x) : ∀ k : Int, 0 ≤ k → k < x + 1 → x_up s 276 x.toNat 0 276 k.toNat = 0 := fun k k0 k1 => by
  rw [x_up_at]
  by_cases q : k.toNat = x.toNat
  · rw [if_pos q]
  · rw [if_neg q]; exact h k k0 (by omega)
theorem sn_if {K A B zA zB v k : Int} (hK : K = 0) (hA : A = zA) (hB : B = zB) (h0 : 0 ≤ zA) (k0 : 0 ≤ k) : (if k.toNat = zA.toNat then zB else v) = if K = 0 ∧ k = A then B else v := by
  by_cases q : k = A
  · rw [if_pos (by omega), if_pos ⟨hK, q⟩, hB]
  · rw [if_neg (by omega), if_neg (fun w => q w.2)]
theorem HoR.eq {s σ : xS} {e c b : Int} (fz : FrZ s σ e) (r : RrE s σ) : HoR s c b ↔ (σ 272 c.toNat = b ∧ ∃ r : Int, ((0 ≤ r ∧ r < σ 256 17) ∧ σ 271 r.toNat ≤ c ∧ c < σ 271 (r + 1).toNat) ∧ CnR σ e r) := by
  obtain ⟨h1, h2, h3, h4, h5, h6⟩ := r
  unfold HoR
  rw [h1, h3, h4]
  refine and_congr Iff.rfl ⟨fun ⟨r, q, w⟩ => ⟨r, q, (fz.1 r q.1.1 (by omega) q.1.2).mp w⟩, fun ⟨r, q, w⟩ => ⟨r, q, (fz.1 r q.1.1 (by omega) q.1.2).mpr w⟩⟩
