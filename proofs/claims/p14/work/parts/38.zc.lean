/-! bits of ints -/
def bi (t : Int) (k : Nat) : Bool := (Int32.ofInt t).toBitVec.getLsbD k
theorem bi_shl : ∀ b : Nat, b < 32 → ∀ k : Nat, k < 32 → (Int32.ofInt 1 <<< (Int32.ofInt (b : Int) &&& 31)).toBitVec.getLsbD k = decide (k = b) := by decide +kernel
theorem bi_amt : ∀ b : Nat, b < 32 → ((Int32.ofInt (b : Int)).toUInt32 &&& Int32.toUInt32 31) = UInt32.ofNat b := by decide +kernel
theorem bi_amt2 : ∀ b : Nat, b < 32 → ((Int32.ofInt (b : Int) &&& 31).toBitVec.smod 32).toNat = b := by decide +kernel
theorem bi_1 : ∀ k : Nat, k < 32 → bi 1 k = decide (k = 0) := by decide +kernel
theorem bi_0 {k : Nat} : bi 0 k = false := BitVec.getLsbD_zero
theorem bi_ge {t : Int} {k : Nat} (h : 32 ≤ k) : bi t k = false := BitVec.getLsbD_of_ge _ _ h
section XBI
variable {X : pmX} {m pc : Nat} {ls : pmL} {r : List Value} {s : xS} {c k : Nat} {P : xS → Option Value → Prop} {len : Nat} {a b : Int}
theorem x_ior_b (hk : pm_look (pm_kl m) pc = some (.ior, len)) (kk : ∀ t, in32 t → (∀ k, bi t k = (bi a k || bi b k)) → xe X m (pc + 1) ls (vi t :: r) s c k P) : xe X m pc ls (vi b :: vi a :: r) s c k P := fun h hr => by
  obtain ⟨t, ht, e⟩ := in32_any (Int32.ofInt a ||| Int32.ofInt b)
  exact x_A hk (fun h => by simp only [pm_stepA]; rw [e]) (kk t ht (fun k => by unfold bi; rw [← e, Int32.toBitVec_or, BitVec.getLsbD_or])) h hr
theorem x_iand_b (hk : pm_look (pm_kl m) pc = some (.iand, len)) (kk : ∀ t, in32 t → (∀ k, bi t k = (bi a k && bi b k)) → xe X m (pc + 1) ls (vi t :: r) s c k P) : xe X m pc ls (vi b :: vi a :: r) s c k P := fun h hr => by
  obtain ⟨t, ht, e⟩ := in32_any (Int32.ofInt a &&& Int32.ofInt b)
  exact x_A hk (fun h => by simp only [pm_stepA]; rw [e]) (kk t ht (fun k => by unfold bi; rw [← e, Int32.toBitVec_and, BitVec.getLsbD_and])) h hr
theorem x_ishl1 (hk : pm_look (pm_kl m) pc = some (.ishl, len)) (hb : 0 ≤ b ∧ b ≤ 31) (kk : ∀ t, in32 t → (∀ k : Nat, k < 32 → bi t k = decide (k = b.toNat)) → xe X m (pc + 1) ls (vi t :: r) s c k P) : xe X m pc ls (vi b :: vi 1 :: r) s c k P := fun h hr => by
  obtain ⟨t, ht, e⟩ := in32_any (Int32.ofInt 1 <<< (Int32.ofInt b &&& 31))
  refine x_A hk (fun h => by simp only [pm_stepA]; rw [e]) (kk t ht (fun k hk2 => ?_)) h hr
  have hb2 : ((b.toNat : Nat) : Int) = b := by omega
  have := bi_shl b.toNat (by omega) k hk2
  rw [hb2, e] at this
  exact this
theorem x_iushr_b (hk : pm_look (pm_kl m) pc = some (.iushr, len)) (hb : 0 ≤ b ∧ b ≤ 31) (kk : ∀ t, in32 t → (∀ k : Nat, bi t k = bi a (b.toNat + k)) → xe X m (pc + 1) ls (vi t :: r) s c k P) : xe X m pc ls (vi b :: vi a :: r) s c k P := fun h hr => by
  obtain ⟨t, ht, e⟩ := in32_any (((Int32.ofInt a).toUInt32 >>> ((Int32.ofInt b).toUInt32 &&& Int32.toUInt32 31)).toInt32)
  refine x_A hk (fun h => by simp only [pm_stepA]; rw [e]) (kk t ht (fun k => ?_)) h hr
  have hb2 : ((b.toNat : Nat) : Int) = b := by omega
  have h1 := bi_amt b.toNat (by omega)
  rw [hb2] at h1
  unfold bi
  rw [← e, h1]
  show (((Int32.ofInt a).toUInt32 >>> UInt32.ofNat b.toNat).toBitVec).getLsbD k = _
  rw [UInt32.toBitVec_shiftRight]
  show ((Int32.ofInt a).toBitVec >>> ((UInt32.ofNat b.toNat).toBitVec % 32)).getLsbD k = _
  rw [BitVec.ushiftRight_eq', BitVec.getLsbD_ushiftRight]
  have h2 : ((UInt32.ofNat b.toNat).toBitVec % 32).toNat = b.toNat := by
    rw [BitVec.toNat_umod]
    show (UInt32.ofNat b.toNat).toNat % 32 = _
    rw [UInt32.toNat_ofNat']
    omega
  rw [h2]
theorem x_ishr_b (hk : pm_look (pm_kl m) pc = some (.ishr, len)) (hb : 0 ≤ b ∧ b ≤ 31) (kk : ∀ t, in32 t → (∀ k : Nat, b.toNat + k < 32 → bi t k = bi a (b.toNat + k)) → xe X m (pc + 1) ls (vi t :: r) s c k P) : xe X m pc ls (vi b :: vi a :: r) s c k P := fun h hr => by
  obtain ⟨t, ht, e⟩ := in32_any (Int32.ofInt a >>> (Int32.ofInt b &&& 31))
  refine x_A hk (fun h => by simp only [pm_stepA]; rw [e]) (kk t ht (fun k hk2 => ?_)) h hr
  have hb2 : ((b.toNat : Nat) : Int) = b := by omega
  have h1 := bi_amt2 b.toNat (by omega)
  rw [hb2] at h1
  unfold bi
  rw [← e, Int32.toBitVec_shiftRight, BitVec.sshiftRight_eq', h1, BitVec.getLsbD_sshiftRight, if_pos hk2]
  simp only [show decide (32 ≤ k) = false from decide_eq_false (by omega), Bool.not_false, Bool.true_and]
end XBI
theorem bi_eq {t u : Int} (ht : in32 t) (hu : in32 u) (h : ∀ k : Nat, k < 32 → bi t k = bi u k) : t = u := by
  have e : Int32.ofInt t = Int32.ofInt u := by
    rw [← Int32.toBitVec_inj]
    exact BitVec.eq_of_getLsbD_eq (fun i hi => h i hi)
  rw [← in32_toInt ht, ← in32_toInt hu, e]
/-- the last bit alone -/
theorem bi_low {t u : Int} (ht : in32 t) (h : ∀ k, bi t k = (bi u k && bi 1 k)) : (t = 0 ∧ bi u 0 = false) ∨ (t = 1 ∧ bi u 0 = true) := by
  have h0 := h 0
  rw [bi_1 0 (by decide)] at h0
  cases hb : bi u 0
  · left
    refine ⟨bi_eq ht ⟨by decide, by decide⟩ (fun k hk => ?_), rfl⟩
    rw [h k, bi_1 k hk]
    by_cases e : k = 0
    · rw [e, hb]; rfl
    · rw [decide_eq_false e, Bool.and_false]
      exact (BitVec.getLsbD_zero).symm
  · right
    refine ⟨bi_eq ht ⟨by decide, by decide⟩ (fun k hk => ?_), rfl⟩
    rw [h k, bi_1 k hk]
    by_cases e : k = 0
    · rw [e, hb]; rfl
    · rw [decide_eq_false e, Bool.and_false]
theorem bi_z {t : Int} (ht : in32 t) : t ≠ 0 ↔ ∃ k : Nat, k < 32 ∧ bi t k = true := by
  constructor
  · intro h
    by_cases q : ∃ k : Nat, k < 32 ∧ bi t k = true
    · exact q
    · exfalso
      refine h (bi_eq ht ⟨by decide, by decide⟩ (fun k hk => ?_))
      rw [bi_0]
      cases hb : bi t k
      · rfl
      · exact absurd ⟨k, hk, hb⟩ q
  · rintro ⟨k, _, hb⟩ rfl
    rw [bi_0] at hb
    cases hb
theorem bt_z {t : Int} (ht : in64 t) : t ≠ 0 ↔ ∃ k : Nat, k < 64 ∧ bt t k = true := by
  constructor
  · intro h
    by_cases q : ∃ k : Nat, k < 64 ∧ bt t k = true
    · exact q
    · exfalso
      refine h (bt_eq ht ⟨by decide, by decide⟩ (fun k hk => ?_))
      rw [bt_0]
      cases hb : bt t k
      · rfl
      · exact absurd ⟨k, hk, hb⟩ q
  · rintro ⟨k, _, hb⟩ rfl
    rw [bt_0] at hb
    cases hb
/-- a bit that is looked at by a shift and a mask -/
theorem bi_at {z1 z2 x b : Int} (u1 : ∀ k : Nat, bi z1 k = bi x (b.toNat + k)) (i2 : in32 z2) (u2 : ∀ k, bi z2 k = (bi z1 k && bi 1 k)) : (z2 = 0 ∧ bi x b.toNat = false) ∨ (z2 = 1 ∧ bi x b.toNat = true) := by
  have h := bi_low i2 u2
  rw [u1 0] at h
  exact h
/-! the class's counting -/
def CnC (s : xS) (e r : Int) : Prop := cnt (edC s) (clC s) (kdC s) (fiC s) (s 179 5) e r
def StC (s : xS) (e : Int) (k : Nat) (r : Int) : Prop := stk (edC s) (clC s) (kdC s) (fiC s) (s 179 5) e k r
def CtI (s : xS) (e x2 x3 x4 : Int) : Prop := ∀ k : Nat, k < 8 → (bi x2 k = true ↔ (x4 < k ∧ (k : Int) < s 179 5 ∧ CnC s e k)) ∧ (bi x3 k = true ↔ StC s e (s 179 5 - 1 - x4).toNat k)
def CtJ (s : xS) (e x2 x3 x4 x5 : Int) : Prop := CnC s e x4 ∧ ∀ k : Nat, k < 8 → (bi x2 k = true ↔ (x4 ≤ k ∧ (k : Int) < s 179 5 ∧ CnC s e k)) ∧ (bi x3 k = true ↔ (StC s e (s 179 5 - 1 - x4).toNat k ∨ ∃ n : Int, (0 ≤ n ∧ n < x5) ∧ kdC s x4 n = 6 ∧ fiC s x4 n = k))
theorem CtI_0 {s : xS} {e x : Int} (hR : s 179 5 ≤ 8) (hx : x = s 179 5 - 1) : CtI s e 0 0 x := fun k hk => by
  subst hx
  rw [show s 179 5 - 1 - (s 179 5 - 1) = 0 by omega]
  refine ⟨⟨fun h => (by rw [bi_0] at h; cases h), fun h => by omega⟩, ⟨fun h => (by rw [bi_0] at h; cases h), fun h => h.elim⟩⟩
theorem CtI.skip {s : xS} {e x2 x3 x4 : Int} (h : CtI s e x2 x3 x4) (hx : 0 ≤ x4 ∧ x4 < s 179 5) (hn : ¬ CnC s e x4) : CtI s e x2 x3 (x4 - 1) := fun k hk => by
  obtain ⟨h1, h2⟩ := h k hk
  refine ⟨h1.trans ⟨fun w => ⟨by omega, w.2⟩, fun w => ⟨?_, w.2⟩⟩, h2.trans ?_⟩
  · by_cases q : x4 = (k : Int)
    · exact absurd (q ▸ w.2.2) hn
    · omega
  · unfold StC
    rw [show (s 179 5 - 1 - (x4 - 1)).toNat = (s 179 5 - 1 - x4).toNat + 1 by omega, stk_s (j := x4) (by omega)]
    exact ⟨Or.inl, fun w => w.elim id (fun q => absurd q.1 hn)⟩
theorem CtI.skipE {s : xS} {e x2 x3 x4 : Int} (h : CtI s e x2 x3 x4) (hx : 0 ≤ x4 ∧ x4 < s 179 5) (he : e < s 180 x4.toNat) : CtI s e x2 x3 (x4 - 1) :=
  h.skip hx (fun w => by have := w.1; unfold edC at this; rw [if_pos hx] at this; omega)
theorem CtI.skipS {s : xS} {e x2 x3 x4 : Int} (h : CtI s e x2 x3 x4) (hx : 0 ≤ x4 ∧ x4 < s 179 5) (h8 : s 179 5 ≤ 8) (hb : bi x3 x4.toNat = true) : CtI s e x2 x3 (x4 - 1) :=
  h.skip hx (fun w => w.2 (by have q := (h x4.toNat (by omega)).2.mp hb; rw [show ((x4.toNat : Nat) : Int) = x4 by omega] at q; exact q))
theorem CtI.go {s : xS} {e x2 x3 x4 x2' sh : Int} (h : CtI s e x2 x3 x4) (hx : 0 ≤ x4 ∧ x4 < s 179 5) (h8 : s 179 5 ≤ 8) (he : s 180 x4.toNat ≤ e) (hb : bi x3 x4.toNat = false) (g1 : ∀ k : Nat, k < 32 → bi sh k = decide (k = x4.toNat)) (g2 : ∀ k, bi x2' k = (bi x2 k || bi sh k)) : CtJ s e x2' x3 x4 0 := by
  have hc : CnC s e x4 := ⟨by unfold edC; rw [if_pos hx]; exact he, fun w => by
    have q := (h x4.toNat (by omega)).2
    rw [show ((x4.toNat : Nat) : Int) = x4 by omega] at q
    have := q.mpr w
    rw [hb] at this
    cases this⟩
  refine ⟨hc, fun k hk => ?_⟩
  obtain ⟨h1, h2⟩ := h k hk
  refine ⟨?_, h2.trans ⟨Or.inl, fun w => w.elim id (fun ⟨n, q, _⟩ => by omega)⟩⟩
  rw [g2 k, g1 k (by omega), Bool.or_eq_true, decide_eq_true_eq, h1]
  constructor
  · rintro (w | w)
    · exact ⟨by omega, w.2⟩
    · exact ⟨by omega, by omega, by rw [show (k : Int) = x4 by omega]; exact hc⟩
  · rintro ⟨w1, w2, w3⟩
    by_cases q : k = x4.toNat
    · exact Or.inr q
    · exact Or.inl ⟨by omega, w2, w3⟩
theorem CtJ.no {s : xS} {e x2 x3 x4 x5 : Int} (h : CtJ s e x2 x3 x4 x5) (hx : 0 ≤ x4 ∧ x4 < s 179 5) (hn : 0 ≤ x5 ∧ x5 < s 181 x4.toNat) (hk : s (182 + 1 + x4.toNat) x5.toNat ≠ 6) : CtJ s e x2 x3 x4 (x5 + 1) := by
  refine ⟨h.1, fun k hk8 => ?_⟩
  obtain ⟨h1, h2⟩ := h.2 k hk8
  refine ⟨h1, h2.trans (or_congr Iff.rfl ⟨fun ⟨n, q, w⟩ => ⟨n, by omega, w⟩, fun ⟨n, q, w⟩ => ⟨n, ⟨q.1, ?_⟩, w⟩⟩)⟩
  by_cases q5 : n = x5
  · subst q5
    have := w.1
    unfold kdC at this
    rw [if_pos ⟨hx, hn⟩] at this
    exact absurd this hk
  · omega
theorem CtJ.yes {s : xS} {e x2 x3 x4 x5 x3' sh a : Int} (h : CtJ s e x2 x3 x4 x5) (hx : 0 ≤ x4 ∧ x4 < s 179 5) (hn : 0 ≤ x5 ∧ x5 < s 181 x4.toNat) (hk : s (182 + 1 + x4.toNat) x5.toNat = 6) (ha : s (191 + 1 + x4.toNat) x5.toNat = a) (ha7 : 0 ≤ a) (g1 : ∀ k : Nat, k < 32 → bi sh k = decide (k = a.toNat)) (g2 : ∀ k, bi x3' k = (bi x3 k || bi sh k)) : CtJ s e x2 x3' x4 (x5 + 1) := by
  refine ⟨h.1, fun k hk8 => ?_⟩
  obtain ⟨h1, h2⟩ := h.2 k hk8
  refine ⟨h1, ?_⟩
  have e1 : kdC s x4 x5 = 6 := by unfold kdC; rw [if_pos ⟨hx, hn⟩]; exact hk
  have e2 : fiC s x4 x5 = a := by unfold fiC; rw [if_pos ⟨hx, hn⟩]; exact ha
  rw [g2 k, g1 k (by omega), Bool.or_eq_true, decide_eq_true_eq, h2]
  constructor
  · rintro ((w | ⟨n, q, w⟩) | w)
    · exact Or.inl w
    · exact Or.inr ⟨n, by omega, w⟩
    · exact Or.inr ⟨x5, by omega, e1, by omega⟩
  · rintro (w | ⟨n, q, w⟩)
    · exact Or.inl (Or.inl w)
    · by_cases q5 : n = x5
      · subst q5; exact Or.inr (by have := w.2; omega)
      · exact Or.inl (Or.inr ⟨n, by omega, w⟩)
theorem CtJ.out {s : xS} {e x2 x3 x4 x5 : Int} (h : CtJ s e x2 x3 x4 x5) (hx : 0 ≤ x4 ∧ x4 < s 179 5) (hn : s 181 x4.toNat = x5) : CtI s e x2 x3 (x4 - 1) := fun k hk => by
  obtain ⟨h1, h2⟩ := h.2 k hk
  refine ⟨h1.trans ⟨fun w => ⟨by omega, w.2⟩, fun w => ⟨by omega, w.2⟩⟩, h2.trans ?_⟩
  unfold StC
  rw [show (s 179 5 - 1 - (x4 - 1)).toNat = (s 179 5 - 1 - x4).toNat + 1 by omega, stk_s (j := x4) (by omega)]
  refine or_congr Iff.rfl ⟨fun w => ⟨h.1, ?_⟩, fun w => ?_⟩
  · obtain ⟨n, q, w⟩ := w
    exact ⟨n, by unfold clC; rw [if_pos hx]; omega, w⟩
  · obtain ⟨n, q, w⟩ := w.2
    unfold clC at q
    rw [if_pos hx] at q
    exact ⟨n, by omega, w⟩
def CtZ (s : xS) (e z : Int) : Prop := ∀ k : Nat, k < 8 → (bi z k = true ↔ ((k : Int) < s 179 5 ∧ CnC s e k))
theorem CtI.fin {s : xS} {e x2 x3 x4 : Int} (h : CtI s e x2 x3 x4) (hx : x4 < 0) : CtZ s e x2 := fun k hk => (h k hk).1.trans ⟨fun w => w.2, fun w => ⟨by omega, w⟩⟩
theorem CtZ.at {s : xS} {e z r : Int} (h : CtZ s e z) (hr : 0 ≤ r ∧ r < s 179 5) (h8 : s 179 5 ≤ 8) : bi z r.toNat = true ↔ CnC s e r := by
  have q := h r.toNat (by omega)
  rw [show ((r.toNat : Nat) : Int) = r by omega] at q
  exact q.trans ⟨fun w => w.2, fun w => ⟨hr.2, w⟩⟩
/-! what stands in a force -/
def FoS (s : xS) (F : Nat) (f : Int → Int) (AL BA NE : Int → Int → Prop) : Prop :=
  (∀ k : Int, 0 ≤ k → k ≤ 5 → s (F + 1) k.toNat = f k) ∧ s F 0 = f 6 ∧ s F 5 = f 7 ∧ s F 6 = f 8 ∧ s F 7 = f 9 ∧
  (∀ k : Int, 0 ≤ k → k ≤ 5 → ∀ m : Nat, m < 64 → (bt (s (F + 2) k.toNat) m = true ↔ AL k m)) ∧
  (∀ k : Int, 0 ≤ k → k ≤ 5 → ∀ m : Nat, m < 32 → (bi (s (F + 3) k.toNat) m = true ↔ BA k m)) ∧
  (∀ k : Int, 0 ≤ k → k ≤ 39 → ∀ m : Nat, m < 64 → (bt (s (F + 4) k.toNat) m = true ↔ NE k m))
def ALu (AL : Int → Int → Prop) (a b d k m : Int) : Prop := AL k m ∨ (a = 2 ∧ k = b ∧ m = d)
def BAu (BA : Int → Int → Prop) (a b d k m : Int) : Prop := BA k m ∨ (a = 3 ∧ b ≠ d ∧ k = b ∧ m = d)
def NEu (NE : Int → Int → Prop) (a b d k m : Int) : Prop := NE k m ∨ (a = 4 ∧ k = b ∧ m = d)
/-- what applyClause does -/
def ApC (s s' : xS) (F : Nat) (a b d : Int) : Prop := ∀ (f : Int → Int) (AL BA NE : Int → Int → Prop), FoS s F f AL BA NE → FoS s' F (upS a b d f) (ALu AL a b d) (BAu BA a b d) (NEu NE a b d)
theorem upS_ge {a b d : Int} {f : Int → Int} {i : Int} (h1 : ¬ (a = 1 ∧ i = b)) (h2 : ¬ (a = 5 ∧ i = 6)) (h3 : ¬ ((a = 2 ∧ i = 7) ∨ (a = 3 ∧ i = 8) ∨ (a = 4 ∧ i = 9))) : upS a b d f i = f i := by
  unfold upS; rw [if_neg h1, if_neg h2, if_neg h3]
theorem upS_c {a b d : Int} {f : Int → Int} {i : Int} (h1 : ¬ (a = 1 ∧ i = b)) (h2 : ¬ (a = 5 ∧ i = 6)) (h3 : (a = 2 ∧ i = 7) ∨ (a = 3 ∧ i = 8) ∨ (a = 4 ∧ i = 9)) : upS a b d f i = f i + 1 := by
  unfold upS; rw [if_neg h1, if_neg h2, if_pos h3]
section FOS
variable {s s' : xS} {F : Nat} {a b d : Int}
/-- all of a force but what is named -/
def FoK (s s' : xS) (F : Nat) (q0 q1 q2 q3 q4 q5 q6 q7 : Bool) : Prop := (q0 = true → s' F 0 = s F 0) ∧ (q1 = true → s' (F + 1) = s (F + 1)) ∧ (q2 = true → s' (F + 2) = s (F + 2)) ∧ (q3 = true → s' (F + 3) = s (F + 3)) ∧ (q4 = true → s' (F + 4) = s (F + 4)) ∧ (q5 = true → s' F 5 = s F 5) ∧ (q6 = true → s' F 6 = s F 6) ∧ (q7 = true → s' F 7 = s F 7)
theorem ApC.key (ha : a = 1) (hb : 0 ≤ b ∧ b ≤ 5) (k : FoK s s' F true false true true true true true true) (e : ∀ j : Nat, s' (F + 1) j = if j = b.toNat then d else s (F + 1) j) : ApC s s' F a b d := by
  subst ha
  rintro f AL BA NE ⟨h1, h2, h3, h4, h5, h6, h7, h8⟩
  obtain ⟨k0, -, k2, k3, k4, k5, k6, k7⟩ := k
  have k0 := k0 rfl; have k2 := k2 rfl; have k3 := k3 rfl; have k4 := k4 rfl; have k5 := k5 rfl; have k6 := k6 rfl; have k7 := k7 rfl
  refine ⟨fun i i0 i1 => ?_, ?_, ?_, ?_, ?_, fun i i0 i1 m hm => ?_, fun i i0 i1 m hm => ?_, fun i i0 i1 m hm => ?_⟩
  · rw [e]
    by_cases q : i = b
    · rw [if_pos (by omega)]; unfold upS; rw [if_pos ⟨rfl, q⟩]
    · rw [if_neg (by omega), upS_ge (by omega) (by omega) (by omega)]; exact h1 i i0 i1
  · rw [k0, upS_ge (by omega) (by omega) (by omega)]; exact h2
  · rw [k5, upS_ge (by omega) (by omega) (by omega)]; exact h3
  · rw [k6, upS_ge (by omega) (by omega) (by omega)]; exact h4
  · rw [k7, upS_ge (by omega) (by omega) (by omega)]; exact h5
  · rw [k2, h6 i i0 i1 m hm]; exact ⟨Or.inl, fun w => w.elim id (fun q => by omega)⟩
  · rw [k3, h7 i i0 i1 m hm]; exact ⟨Or.inl, fun w => w.elim id (fun q => by omega)⟩
  · rw [k4, h8 i i0 i1 m hm]; exact ⟨Or.inl, fun w => w.elim id (fun q => by omega)⟩
theorem ApC.most (ha : a = 5) (k : FoK s s' F false true true true true true true true) (e : s' F 0 = b) : ApC s s' F a b d := by
  subst ha
  rintro f AL BA NE ⟨h1, h2, h3, h4, h5, h6, h7, h8⟩
  obtain ⟨-, k1, k2, k3, k4, k5, k6, k7⟩ := k
  have k1 := k1 rfl; have k2 := k2 rfl; have k3 := k3 rfl; have k4 := k4 rfl; have k5 := k5 rfl; have k6 := k6 rfl; have k7 := k7 rfl
  refine ⟨fun i i0 i1 => ?_, ?_, ?_, ?_, ?_, fun i i0 i1 m hm => ?_, fun i i0 i1 m hm => ?_, fun i i0 i1 m hm => ?_⟩
  · rw [k1, upS_ge (by omega) (by omega) (by omega)]; exact h1 i i0 i1
  · rw [e]; unfold upS; rw [if_neg (by omega), if_pos ⟨rfl, rfl⟩]
  · rw [k5, upS_ge (by omega) (by omega) (by omega)]; exact h3
  · rw [k6, upS_ge (by omega) (by omega) (by omega)]; exact h4
  · rw [k7, upS_ge (by omega) (by omega) (by omega)]; exact h5
  · rw [k2, h6 i i0 i1 m hm]; exact ⟨Or.inl, fun w => w.elim id (fun q => by omega)⟩
  · rw [k3, h7 i i0 i1 m hm]; exact ⟨Or.inl, fun w => w.elim id (fun q => by omega)⟩
  · rw [k4, h8 i i0 i1 m hm]; exact ⟨Or.inl, fun w => w.elim id (fun q => by omega)⟩
theorem ApC.none (ha : ¬ (1 ≤ a ∧ a ≤ 5)) (e : s' = s) : ApC s s' F a b d := by
  subst e
  rintro f AL BA NE ⟨h1, h2, h3, h4, h5, h6, h7, h8⟩
  refine ⟨fun i i0 i1 => ?_, ?_, ?_, ?_, ?_, fun i i0 i1 m hm => ?_, fun i i0 i1 m hm => ?_, fun i i0 i1 m hm => ?_⟩
  · rw [upS_ge (by omega) (by omega) (by omega)]; exact h1 i i0 i1
  · rw [upS_ge (by omega) (by omega) (by omega)]; exact h2
  · rw [upS_ge (by omega) (by omega) (by omega)]; exact h3
  · rw [upS_ge (by omega) (by omega) (by omega)]; exact h4
  · rw [upS_ge (by omega) (by omega) (by omega)]; exact h5
  · rw [h6 i i0 i1 m hm]; exact ⟨Or.inl, fun w => w.elim id (fun q => by omega)⟩
  · rw [h7 i i0 i1 m hm]; exact ⟨Or.inl, fun w => w.elim id (fun q => by omega)⟩
  · rw [h8 i i0 i1 m hm]; exact ⟨Or.inl, fun w => w.elim id (fun q => by omega)⟩
theorem ApC.allow {v w sh : Int} (ha : a = 2) (hb : 0 ≤ b ∧ b ≤ 5) (hd : 0 ≤ d ∧ d ≤ 63) (k : FoK s s' F true true false true true false true true) (c : s' F 5 = s F 5 + 1) (e : ∀ j : Nat, s' (F + 2) j = if j = b.toNat then v else s (F + 2) j) (ew : w = s (F + 2) b.toNat) (g1 : ∀ k : Nat, k < 64 → bt sh k = decide (k = d.toNat)) (g2 : ∀ k, bt v k = (bt w k || bt sh k)) : ApC s s' F a b d := by
  subst ha
  rintro f AL BA NE ⟨h1, h2, h3, h4, h5, h6, h7, h8⟩
  obtain ⟨k0, k1, -, k3, k4, -, k6, k7⟩ := k
  have k0 := k0 rfl; have k1 := k1 rfl; have k3 := k3 rfl; have k4 := k4 rfl; have k6 := k6 rfl; have k7 := k7 rfl
  refine ⟨fun i i0 i1 => ?_, ?_, ?_, ?_, ?_, fun i i0 i1 m hm => ?_, fun i i0 i1 m hm => ?_, fun i i0 i1 m hm => ?_⟩
  · rw [k1, upS_ge (by omega) (by omega) (by omega)]; exact h1 i i0 i1
  · rw [k0, upS_ge (by omega) (by omega) (by omega)]; exact h2
  · rw [c, upS_c (by omega) (by omega) (by omega), h3]
  · rw [k6, upS_ge (by omega) (by omega) (by omega)]; exact h4
  · rw [k7, upS_ge (by omega) (by omega) (by omega)]; exact h5
  · rw [e]
    by_cases q : i = b
    · subst q
      rw [if_pos rfl, g2 m, g1 m hm, Bool.or_eq_true, decide_eq_true_eq, ew, h6 i i0 i1 m hm]
      exact or_congr Iff.rfl ⟨fun z => ⟨rfl, rfl, by omega⟩, fun z => by have := z.2.2; omega⟩
    · rw [if_neg (by omega), h6 i i0 i1 m hm]; exact ⟨Or.inl, fun w => w.elim id (fun z => absurd z.2.1 q)⟩
  · rw [k3, h7 i i0 i1 m hm]; exact ⟨Or.inl, fun w => w.elim id (fun q => by omega)⟩
  · rw [k4, h8 i i0 i1 m hm]; exact ⟨Or.inl, fun w => w.elim id (fun q => by omega)⟩
theorem ApC.need {v w sh : Int} (ha : a = 4) (hb : 0 ≤ b ∧ b ≤ 39) (hd : 0 ≤ d ∧ d ≤ 63) (k : FoK s s' F true true true true false true true false) (c : s' F 7 = s F 7 + 1) (e : ∀ j : Nat, s' (F + 4) j = if j = b.toNat then v else s (F + 4) j) (ew : w = s (F + 4) b.toNat) (g1 : ∀ k : Nat, k < 64 → bt sh k = decide (k = d.toNat)) (g2 : ∀ k, bt v k = (bt w k || bt sh k)) : ApC s s' F a b d := by
  subst ha
  rintro f AL BA NE ⟨h1, h2, h3, h4, h5, h6, h7, h8⟩
  obtain ⟨k0, k1, k2, k3, -, k5, k6, -⟩ := k
  have k0 := k0 rfl; have k1 := k1 rfl; have k2 := k2 rfl; have k3 := k3 rfl; have k5 := k5 rfl; have k6 := k6 rfl
  refine ⟨fun i i0 i1 => ?_, ?_, ?_, ?_, ?_, fun i i0 i1 m hm => ?_, fun i i0 i1 m hm => ?_, fun i i0 i1 m hm => ?_⟩
  · rw [k1, upS_ge (by omega) (by omega) (by omega)]; exact h1 i i0 i1
  · rw [k0, upS_ge (by omega) (by omega) (by omega)]; exact h2
  · rw [k5, upS_ge (by omega) (by omega) (by omega)]; exact h3
  · rw [k6, upS_ge (by omega) (by omega) (by omega)]; exact h4
  · rw [c, upS_c (by omega) (by omega) (by omega), h5]
  · rw [k2, h6 i i0 i1 m hm]; exact ⟨Or.inl, fun w => w.elim id (fun q => by omega)⟩
  · rw [k3, h7 i i0 i1 m hm]; exact ⟨Or.inl, fun w => w.elim id (fun q => by omega)⟩
  · rw [e]
    by_cases q : i = b
    · subst q
      rw [if_pos rfl, g2 m, g1 m hm, Bool.or_eq_true, decide_eq_true_eq, ew, h8 i i0 i1 m hm]
      exact or_congr Iff.rfl ⟨fun z => ⟨rfl, rfl, by omega⟩, fun z => by have := z.2.2; omega⟩
    · rw [if_neg (by omega), h8 i i0 i1 m hm]; exact ⟨Or.inl, fun w => w.elim id (fun z => absurd z.2.1 q)⟩
theorem ApC.bar {v w sh : Int} (ha : a = 3) (hb : 0 ≤ b ∧ b ≤ 5) (hd : 0 ≤ d ∧ d ≤ 5) (hn : b ≠ d) (k : FoK s s' F true true true false true true false true) (c : s' F 6 = s F 6 + 1)
    (e : ∀ j : Nat, s' (F + 3) j = if j = b.toNat then v else s (F + 3) j) (ew : w = s (F + 3) b.toNat) (g1 : ∀ k : Nat, k < 32 → bi sh k = decide (k = d.toNat)) (g2 : ∀ k, bi v k = (bi w k || bi sh k)) : ApC s s' F a b d := by
  subst ha
  rintro f AL BA NE ⟨h1, h2, h3, h4, h5, h6, h7, h8⟩
  obtain ⟨k0, k1, k2, -, k4, k5, -, k7⟩ := k
  have k0 := k0 rfl; have k1 := k1 rfl; have k2 := k2 rfl; have k4 := k4 rfl; have k5 := k5 rfl; have k7 := k7 rfl
  refine ⟨fun i i0 i1 => ?_, ?_, ?_, ?_, ?_, fun i i0 i1 m hm => ?_, fun i i0 i1 m hm => ?_, fun i i0 i1 m hm => ?_⟩
  · rw [k1, upS_ge (by omega) (by omega) (by omega)]; exact h1 i i0 i1
  · rw [k0, upS_ge (by omega) (by omega) (by omega)]; exact h2
  · rw [k5, upS_ge (by omega) (by omega) (by omega)]; exact h3
  · rw [c, upS_c (by omega) (by omega) (by omega), h4]
  · rw [k7, upS_ge (by omega) (by omega) (by omega)]; exact h5
  · rw [k2, h6 i i0 i1 m hm]; exact ⟨Or.inl, fun w => w.elim id (fun q => by omega)⟩
  · rw [e]
    by_cases q : i = b
    · subst q
      rw [if_pos rfl, g2 m, g1 m hm, Bool.or_eq_true, decide_eq_true_eq, ew, h7 i i0 i1 m hm]
      exact or_congr Iff.rfl ⟨fun z => ⟨rfl, hn, rfl, by omega⟩, fun z => by have := z.2.2.2; omega⟩
    · rw [if_neg (by omega), h7 i i0 i1 m hm]; exact ⟨Or.inl, fun w => w.elim id (fun z => absurd z.2.2.1 q)⟩
  · rw [k4, h8 i i0 i1 m hm]; exact ⟨Or.inl, fun w => w.elim id (fun q => by omega)⟩
theorem ApC.bar2 (ha : a = 3) (hn : b = d) (k : FoK s s' F true true true true true true false true) (c : s' F 6 = s F 6 + 1) : ApC s s' F a b d := by
  subst ha
  rintro f AL BA NE ⟨h1, h2, h3, h4, h5, h6, h7, h8⟩
  obtain ⟨k0, k1, k2, k3, k4, k5, -, k7⟩ := k
  have k0 := k0 rfl; have k1 := k1 rfl; have k2 := k2 rfl; have k3 := k3 rfl; have k4 := k4 rfl; have k5 := k5 rfl; have k7 := k7 rfl
  refine ⟨fun i i0 i1 => ?_, ?_, ?_, ?_, ?_, fun i i0 i1 m hm => ?_, fun i i0 i1 m hm => ?_, fun i i0 i1 m hm => ?_⟩
  · rw [k1, upS_ge (by omega) (by omega) (by omega)]; exact h1 i i0 i1
  · rw [k0, upS_ge (by omega) (by omega) (by omega)]; exact h2
  · rw [k5, upS_ge (by omega) (by omega) (by omega)]; exact h3
  · rw [c, upS_c (by omega) (by omega) (by omega), h4]
  · rw [k7, upS_ge (by omega) (by omega) (by omega)]; exact h5
  · rw [k2, h6 i i0 i1 m hm]; exact ⟨Or.inl, fun w => w.elim id (fun q => by omega)⟩
  · rw [k3, h7 i i0 i1 m hm]; exact ⟨Or.inl, fun w => w.elim id (fun z => absurd hn z.2.1)⟩
  · rw [k4, h8 i i0 i1 m hm]; exact ⟨Or.inl, fun w => w.elim id (fun q => by omega)⟩
end FOS
/-! applying rules in their order -/
/-- clause n' of rule r' is applied before clause n of rule r in the round of edition t -/
def Pd (s : xS) (e t r n r' n' : Int) : Prop := ((0 ≤ r' ∧ r' < s 179 5) ∧ CnC s e r' ∧ 0 ≤ n' ∧ n' < clC s r') ∧ (edC s r' < t ∨ (edC s r' = t ∧ (r' < r ∨ (r' = r ∧ n' < n))))
def AlP (s : xS) (P : Int → Int → Prop) (k m : Int) : Prop := ∃ r n : Int, P r n ∧ kdC s r n = 2 ∧ fiC s r n = k ∧ scC s r n = m
def BaP (s : xS) (P : Int → Int → Prop) (k m : Int) : Prop := ∃ r n : Int, P r n ∧ kdC s r n = 3 ∧ fiC s r n ≠ scC s r n ∧ fiC s r n = k ∧ scC s r n = m
def NeP (s : xS) (P : Int → Int → Prop) (k m : Int) : Prop := ∃ r n : Int, P r n ∧ kdC s r n = 4 ∧ fiC s r n = k ∧ scC s r n = m
/-- the force F of s' as it is when, of the rules of s, clauses up to (t, r, n) are applied -/
noncomputable def foF (s : xS) (e : Int) : Nat → Int → Int := foE (edC s) (clC s) (kdC s) (fiC s) (scC s) (s 179 5) e
noncomputable def foG (s : xS) (e t : Int) (r : Nat) : Int → Int := foR (edC s) (clC s) (kdC s) (fiC s) (scC s) (s 179 5) e t r (foF s e t.toNat)
noncomputable def foH (s : xS) (e t : Int) (r n : Int) : Int → Int := foN (kdC s) (fiC s) (scC s) r n.toNat (foG s e t r.toNat)
def FoP (s' s : xS) (F : Nat) (f : Int → Int) (P : Int → Int → Prop) : Prop := FoS s' F f (AlP s P) (BaP s P) (NeP s P)
theorem FoS.cg {s : xS} {F : Nat} {f : Int → Int} {AL BA NE AL' BA' NE' : Int → Int → Prop} (h : FoS s F f AL BA NE) (h1 : ∀ k m, AL k m ↔ AL' k m) (h2 : ∀ k m, BA k m ↔ BA' k m) (h3 : ∀ k m, NE k m ↔ NE' k m) : FoS s F f AL' BA' NE' := by
  obtain ⟨a1, a2, a3, a4, a5, a6, a7, a8⟩ := h
  exact ⟨a1, a2, a3, a4, a5, fun k k0 k1 m hm => (a6 k k0 k1 m hm).trans (h1 k m), fun k k0 k1 m hm => (a7 k k0 k1 m hm).trans (h2 k m), fun k k0 k1 m hm => (a8 k k0 k1 m hm).trans (h3 k m)⟩
theorem FoP.cg {s' s : xS} {F : Nat} {f : Int → Int} {P Q : Int → Int → Prop} (h : FoP s' s F f P) (hq : ∀ r n, P r n ↔ Q r n) : FoP s' s F f Q := by
  have e : P = Q := funext fun r => funext fun n => propext (hq r n)
  subst e
  exact h
/-- a clause more -/
theorem FoP.clause {s s1 s2 : xS} {F : Nat} {e t r n a b d : Int} (h : FoP s1 s F (foH s e t r n) (Pd s e t r n)) (c : ApC s1 s2 F a b d) (hr : 0 ≤ r ∧ r < s 179 5) (hc : CnC s e r) (he : edC s r = t) (hn : 0 ≤ n ∧ n < s 181 r.toNat) (ea : a = s (182 + 1 + r.toNat) n.toNat) (eb : b = s (191 + 1 + r.toNat) n.toNat) (ed : a ≤ 4 → d = s (200 + 1 + r.toNat) n.toNat) : FoP s2 s F (foH s e t r (n + 1)) (Pd s e t r (n + 1)) := by
  have k1 : kdC s r n = a := by unfold kdC; rw [if_pos ⟨hr, hn⟩, ea]
  have k2 : fiC s r n = b := by unfold fiC; rw [if_pos ⟨hr, hn⟩, eb]
  have k3 : a ≤ 4 → scC s r n = d := fun w => by unfold scC; rw [if_pos ⟨⟨hr, hn⟩, by omega⟩, ed w]
  have k4 : clC s r = s 181 r.toNat := by unfold clC; rw [if_pos hr]
  have hp : ∀ r' n' : Int, Pd s e t r (n + 1) r' n' ↔ (Pd s e t r n r' n' ∨ (r' = r ∧ n' = n)) := fun r' n' => by
    constructor
    · rintro ⟨w1, w2⟩
      by_cases q : r' = r ∧ n' = n
      · exact Or.inr q
      · exact Or.inl ⟨w1, by omega⟩
    · rintro (⟨w1, w2⟩ | ⟨rfl, rfl⟩)
      · exact ⟨w1, by omega⟩
      · exact ⟨⟨hr, hc, hn.1, by omega⟩, Or.inr ⟨he, Or.inr ⟨rfl, by omega⟩⟩⟩
  have hf : foH s e t r (n + 1) = upS a b d (foH s e t r n) := by
    unfold foH
    rw [foN_s hn.1, k1, k2]
    by_cases q : a ≤ 4
    · rw [k3 q]
    · funext i
      unfold upS
      rw [if_neg (by omega), if_neg (show ¬ (a = 1 ∧ i = b) by omega)]
  have h' := c _ _ _ _ h
  unfold FoP
  rw [hf]
  refine h'.cg (fun k m => ?_) (fun k m => ?_) (fun k m => ?_)
  · constructor
    · rintro (⟨r', n', w1, w2⟩ | ⟨w1, w2, w3⟩)
      · exact ⟨r', n', (hp r' n').mpr (Or.inl w1), w2⟩
      · exact ⟨r, n, (hp r n).mpr (Or.inr ⟨rfl, rfl⟩), by omega, by omega, by rw [k3 (by omega)]; omega⟩
    · rintro ⟨r', n', w1, w2, w3, w4⟩
      rcases (hp r' n').mp w1 with q | ⟨rfl, rfl⟩
      · exact Or.inl ⟨r', n', q, w2, w3, w4⟩
      · rw [k3 (by omega)] at w4; exact Or.inr ⟨by omega, by omega, by omega⟩
  · constructor
    · rintro (⟨r', n', w1, w2⟩ | ⟨w1, w2, w3, w4⟩)
      · exact ⟨r', n', (hp r' n').mpr (Or.inl w1), w2⟩
      · have := k3 (by omega)
        exact ⟨r, n, (hp r n).mpr (Or.inr ⟨rfl, rfl⟩), by omega, by omega, by omega, by omega⟩
    · rintro ⟨r', n', w1, w2, w3, w4, w5⟩
      rcases (hp r' n').mp w1 with q | ⟨rfl, rfl⟩
      · exact Or.inl ⟨r', n', q, w2, w3, w4, w5⟩
      · have := k3 (by omega)
        exact Or.inr ⟨by omega, by omega, by omega, by omega⟩
  · constructor
    · rintro (⟨r', n', w1, w2⟩ | ⟨w1, w2, w3⟩)
      · exact ⟨r', n', (hp r' n').mpr (Or.inl w1), w2⟩
      · exact ⟨r, n, (hp r n).mpr (Or.inr ⟨rfl, rfl⟩), by omega, by omega, by rw [k3 (by omega)]; omega⟩
    · rintro ⟨r', n', w1, w2, w3, w4⟩
      rcases (hp r' n').mp w1 with q | ⟨rfl, rfl⟩
      · exact Or.inl ⟨r', n', q, w2, w3, w4⟩
      · rw [k3 (by omega)] at w4; exact Or.inr ⟨by omega, by omega, by omega⟩
/-- a rule is passed over -/
theorem FoP.skip {s s1 : xS} {F : Nat} {e t r : Int} (h : FoP s1 s F (foG s e t r.toNat) (Pd s e t r 0)) (hr : 0 ≤ r ∧ r < s 179 5) (hn : ¬ (edC s r = t ∧ CnC s e r)) : FoP s1 s F (foG s e t (r + 1).toNat) (Pd s e t (r + 1) 0) := by
  unfold foG
  rw [foR_n hr.1 hn]
  refine h.cg (fun r' n' => and_congr_right (fun w => ?_))
  constructor
  · rintro (q | ⟨q1, q2⟩)
    · exact Or.inl q
    · exact Or.inr ⟨q1, by omega⟩
  · rintro (q | ⟨q1, q2⟩)
    · exact Or.inl q
    · refine Or.inr ⟨q1, ?_⟩
      by_cases q3 : r' = r
      · subst q3; exact absurd ⟨q1, w.2.1⟩ hn
      · omega
/-- a rule is done -/
theorem FoP.done {s s1 : xS} {F : Nat} {e t r n : Int} (h : FoP s1 s F (foH s e t r n) (Pd s e t r n)) (hr : 0 ≤ r ∧ r < s 179 5) (hc : CnC s e r) (he : edC s r = t) (hn : n = s 181 r.toNat) : FoP s1 s F (foG s e t (r + 1).toNat) (Pd s e t (r + 1) 0) := by
  have k4 : clC s r = s 181 r.toNat := by unfold clC; rw [if_pos hr]
  have hf : foG s e t (r + 1).toNat = foH s e t r n := by
    unfold foG foH
    rw [foR_y hr.1 ⟨he, hc⟩, k4, hn]
    rfl
  rw [hf]
  refine h.cg (fun r' n' => and_congr_right (fun w => ?_))
  obtain ⟨w1, w2, w3, w4⟩ := w
  constructor
  · rintro (q | ⟨q1, q2⟩)
    · exact Or.inl q
    · exact Or.inr ⟨q1, by omega⟩
  · rintro (q | ⟨q1, q2⟩)
    · exact Or.inl q
    · refine Or.inr ⟨q1, ?_⟩
      by_cases q3 : r' = r
      · subst q3; omega
      · omega
/-- a round is done -/
theorem FoP.round {s s1 : xS} {F : Nat} {e t r : Int} (h : FoP s1 s F (foG s e t r.toNat) (Pd s e t r 0)) (ht : 0 ≤ t) (hr : r = s 179 5) : FoP s1 s F (foF s e (t + 1).toNat) (Pd s e (t + 1) 0 0) := by
  have hf : foF s e (t + 1).toNat = foG s e t r.toNat := by
    unfold foG foF
    rw [foE_s ht, hr]
  rw [hf]
  refine h.cg (fun r' n' => and_congr_right (fun w => ?_))
  obtain ⟨w1, w2, w3, w4⟩ := w
  omega
/-- the force of edition e -/
def Fo (s' s : xS) (F : Nat) (e : Int) : Prop := FoP s' s F (foF s e (e + 1).toNat) (fun r n => (0 ≤ r ∧ r < s 179 5) ∧ CnC s e r ∧ 0 ≤ n ∧ n < clC s r)
theorem FoP.fin {s s1 : xS} {F : Nat} {e t : Int} (h : FoP s1 s F (foF s e t.toNat) (Pd s e t 0 0)) (ht : t = e + 1) : Fo s1 s F e := by
  subst ht
  refine h.cg (fun r' n' => ⟨fun w => w.1, fun w => ⟨w, Or.inl ?_⟩⟩)
  have := w.2.1.1
  omega
theorem FoP.begin {s s1 : xS} {F : Nat} {e : Int} (hs : ∀ r : Int, 0 ≤ r → r < s 179 5 → 0 ≤ s 180 r.toNat) (h1 : ∀ k : Int, 0 ≤ k → k ≤ 5 → s1 (F + 1) k.toNat = 0) (h2 : s1 F 0 = 20) (h3 : s1 F 5 = 0) (h4 : s1 F 6 = 0) (h5 : s1 F 7 = 0) (h6 : ∀ k : Int, 0 ≤ k → k ≤ 5 → s1 (F + 2) k.toNat = 0) (h7 : ∀ k : Int, 0 ≤ k → k ≤ 5 → s1 (F + 3) k.toNat = 0) (h8 : ∀ k : Int, 0 ≤ k → k ≤ 39 → s1 (F + 4) k.toNat = 0) : FoP s1 s F (foF s e (0 : Int).toNat) (Pd s e 0 0 0) := by
  have no : ∀ r n, ¬ Pd s e 0 0 0 r n := fun r n w => by
    obtain ⟨⟨w1, _, w3, _⟩, w2⟩ := w
    have := hs r w1.1 w1.2
    unfold edC at w2
    rw [if_pos w1] at w2
    omega
  have e0 : foF s e (0 : Int).toNat = fun i => if i = 6 then 20 else 0 := rfl
  unfold FoP
  rw [e0]
  refine ⟨fun k k0 k1 => ?_, h2, h3, h4, h5, fun k k0 k1 m hm => ?_, fun k k0 k1 m hm => ?_, fun k k0 k1 m hm => ?_⟩
  · show _ = if k = 6 then (20 : Int) else 0
    rw [h1 k k0 k1, if_neg (by omega)]
  · rw [h6 k k0 k1, bt_0]; exact ⟨fun w => (by cases w), fun ⟨r, n, w, _⟩ => absurd w (no r n)⟩
  · rw [h7 k k0 k1, bi_0]; exact ⟨fun w => (by cases w), fun ⟨r, n, w, _⟩ => absurd w (no r n)⟩
  · rw [h8 k k0 k1, bt_0]; exact ⟨fun w => (by cases w), fun ⟨r, n, w, _⟩ => absurd w (no r n)⟩
/-! rules of two states that are the same -/
def RuE (s σ : xS) : Prop := s 179 5 = σ 179 5 ∧ s 180 = σ 180 ∧ s 181 = σ 181 ∧ ∀ r j : Nat, 183 ≤ r → r ≤ 208 → s r j = σ r j
theorem RuE.rf {s : xS} : RuE s s := ⟨rfl, rfl, rfl, fun _ _ _ _ => rfl⟩
theorem FL.rue {L : List Nat} {s s' : xS} (f : FL L s s') (hL : ∀ x ∈ [1350, 1408, 1472, 1600, 1664, 1728, 1792, 1856], x ∉ L) : RuE s' s :=
  ⟨f 179 5 (hL 1350 (by decide)), funext fun i => f 180 i (hL 1408 (by decide)), funext fun i => f 181 i (hL 1472 (by decide)), f.rows (fun x hx => hL x (by revert x; decide))⟩
/-- applying rule a, as far as clause x -/
def ApI (s s0 : xS) (F : Nat) (a x : Int) : Prop := ∀ (σ : xS) (e t : Int), RuE s0 σ → CnC σ e a → edC σ a = t → FoP s0 σ F (foG σ e t a.toNat) (Pd σ e t a 0) → FoP s σ F (foH σ e t a x) (Pd σ e t a x)
def ApZ (s s0 : xS) (F : Nat) (a : Int) : Prop := ∀ (σ : xS) (e t : Int), RuE s0 σ → CnC σ e a → edC σ a = t → FoP s0 σ F (foG σ e t a.toNat) (Pd σ e t a 0) → FoP s σ F (foG σ e t (a + 1).toNat) (Pd σ e t (a + 1) 0)
theorem ApI_0 {s0 : xS} {F : Nat} {a : Int} : ApI s0 s0 F a 0 := fun _ _ _ _ _ _ h => h
theorem ApI.step {s s2 s0 : xS} {F : Nat} {a x k b d : Int} (h : ApI s s0 F a x) (c : ApC s s2 F k b d) (ha : 0 ≤ a ∧ a < s0 179 5) (h8 : s0 179 5 ≤ 8) (hx : 0 ≤ x ∧ x < s0 181 a.toNat) (ek : k = s0 (182 + 1 + a.toNat) x.toNat) (eb : b = s0 (191 + 1 + a.toNat) x.toNat) (ed : d = s0 (200 + 1 + a.toNat) x.toNat) : ApI s2 s0 F a (x + 1) := fun σ e t r hc he h0 => by
  obtain ⟨r1, r2, r3, r4⟩ := id r
  exact (h σ e t r hc he h0).clause c (by omega) hc he (by rw [← r3]; exact hx) (by rw [← r4 _ _ (by omega) (by omega)]; exact ek) (by rw [← r4 _ _ (by omega) (by omega)]; exact eb) (fun _ => by rw [← r4 _ _ (by omega) (by omega)]; exact ed)
theorem ApI.fin {s s0 : xS} {F : Nat} {a x : Int} (h : ApI s s0 F a x) (ha : 0 ≤ a ∧ a < s0 179 5) (hx : x = s0 181 a.toNat) : ApZ s s0 F a := fun σ e t r hc he h0 => by
  obtain ⟨r1, r2, r3, r4⟩ := id r
  exact (h σ e t r hc he h0).done (by omega) hc he (by rw [← r3]; exact hx)
theorem edC_in {s : xS} {r : Int} (h : 0 ≤ r ∧ r < s 179 5) : edC s r = s 180 r.toNat := if_pos h
theorem RuE.fn {s σ : xS} (h : RuE s σ) (h8 : σ 179 5 ≤ 8) : edC s = edC σ ∧ clC s = clC σ ∧ kdC s = kdC σ ∧ fiC s = fiC σ ∧ scC s = scC σ := by
  obtain ⟨h1, h2, h3, h4⟩ := h
  refine ⟨?_, ?_, funext fun r => funext fun n => ?_, funext fun r => funext fun n => ?_, funext fun r => funext fun n => ?_⟩
  · unfold edC; rw [h1, h2]
  · unfold clC; rw [h1, h3]
  · unfold kdC; rw [h1, h3]
    by_cases q : (0 ≤ r ∧ r < σ 179 5) ∧ 0 ≤ n ∧ n < σ 181 r.toNat
    · rw [if_pos q, if_pos q, h4 _ _ (by omega) (by omega)]
    · rw [if_neg q, if_neg q]
  · unfold fiC; rw [h1, h3]
    by_cases q : (0 ≤ r ∧ r < σ 179 5) ∧ 0 ≤ n ∧ n < σ 181 r.toNat
    · rw [if_pos q, if_pos q, h4 _ _ (by omega) (by omega)]
    · rw [if_neg q, if_neg q]
  · unfold scC; rw [h1, h3]
    by_cases q : (0 ≤ r ∧ r < σ 179 5) ∧ 0 ≤ n ∧ n < σ 181 r.toNat
    · rw [h4 _ _ (show 183 ≤ 182 + 1 + r.toNat by omega) (by omega), h4 _ _ (show 183 ≤ 200 + 1 + r.toNat by omega) (by omega)]
    · rw [if_neg (fun w => q w.1), if_neg (fun w => q w.1)]
theorem CtZ.cg {s σ : xS} {e z : Int} (h : CtZ s e z) (r : RuE s σ) (h8 : σ 179 5 ≤ 8) : CtZ σ e z := by
  obtain ⟨e1, e2, e3, e4, e5⟩ := r.fn h8
  unfold CtZ CnC at h ⊢
  rw [e1, e2, e3, e4, r.1] at h
  exact h
theorem fl_z {s : xS} {q : Nat} {x a : Int} (h : ∀ j : Nat, (j : Int) < x → s q j = a) (hx : 0 ≤ x) : ∀ j : Nat, (j : Int) < x + 1 → x_up s q x.toNat a q j = a := fun j hj => by
  rw [x_up_at]
  by_cases e : j = x.toNat
  · rw [if_pos e]
  · rw [if_neg e]; exact h j (by omega)
/-- what force answers -/
def fx (b : Int) : Int := if b = 0 then 6 else if b ≤ 6 then b - 1 else b
theorem Fo.ans {s' s : xS} {F : Nat} {e : Int} (h : Fo s' s F e) : s' F 0 = foF s e (e + 1).toNat 6 ∧ s' F 5 = foF s e (e + 1).toNat 7 ∧ s' F 6 = foF s e (e + 1).toNat 8 ∧ s' F 7 = foF s e (e + 1).toNat 9 ∧ ∀ k : Int, 0 ≤ k → k ≤ 5 → s' (F + 1) k.toNat = foF s e (e + 1).toNat k := ⟨h.2.1, h.2.2.1, h.2.2.2.1, h.2.2.2.2.1, h.1⟩
def FzC (s : xS) (a b z : Int) : Prop := (¬ ((0 ≤ a ∧ a ≤ 9) ∧ 0 ≤ b ∧ b ≤ 9) ∧ z = -1002) ∨ (((0 ≤ a ∧ a ≤ 9) ∧ 0 ≤ b ∧ b ≤ 9) ∧ z = foF s a (a + 1).toNat (fx b))
