/-! queries: lacking by need clauses; means; led; count -/
section XLX
variable {X : pmX} {m pc : Nat} {ls : pmL} {r : List Value} {s : xS} {c k : Nat} {P : xS → Option Value → Prop} {len : Nat} {a b : Int}
theorem x_lxor_m1 (hk : pm_look (pm_kl m) pc = some (.lxor, len)) (kk : ∀ t, in64 t → (∀ k : Nat, k < 64 → bt t k = !bt a k) → xe X m (pc + 1) ls (vj t :: r) s c k P) : xe X m pc ls (vj (-1) :: vj a :: r) s c k P := fun h hr => by
  obtain ⟨t, ht, e⟩ := in64_any (Int64.ofInt a ^^^ Int64.ofInt (-1))
  refine x_A hk (fun h => by simp only [pm_stepA]; rw [e]) (kk t ht (fun k hk2 => ?_)) h hr
  unfold bt
  rw [← e, Int64.toBitVec_xor, BitVec.getLsbD_xor]
  have h1 : ∀ k : Nat, k < 64 → (Int64.ofInt (-1)).toBitVec.getLsbD k = true := by decide +kernel
  rw [h1 k hk2, Bool.xor_true]
end XLX
theorem bt_low1 {t u : Int} (ht : in64 t) (h : ∀ k, bt t k = (bt u k && bt 1 k)) : (t = 0 ∧ bt u 0 = false) ∨ (t = 1 ∧ bt u 0 = true) := by
  rcases bt_low ht h with ⟨h1, h2⟩ | ⟨h1, h2⟩
  · exact Or.inl ⟨h1, h2⟩
  · right
    refine ⟨bt_eq ht ⟨by decide, by decide⟩ (fun k hk => ?_), h2⟩
    rw [h k, bt_1 k hk]
    by_cases e : k = 0
    · rw [e, h2]; rfl
    · rw [decide_eq_false e, Bool.and_false]
/-- a need clause that is not met -/
def laC (s : xS) (e g : Int) : Prop := wrC s g = 0 ∧ ∃ k m : Nat, k < 40 ∧ m < 64 ∧ NeC s e k m ∧ onp s e 40 (s 52 g.toNat) k ∧ ¬ shC s e (s 51 g.toNat) m
theorem VE.la {s σ : xS} (h : VE s σ) (e g : Int) : laC s e g ↔ laC σ e g := by
  have h51 := h.2.2.2.2.1
  have h52 := h.2.2.2.2.2.1
  unfold laC
  rw [h.wr, h51, h52]
  simp only [h.ne, h.on, h.sh]
def laK (s : xS) (e g : Int) (k : Nat) : Prop := onp s e 40 (s 52 g.toNat) k ∧ ∃ m : Nat, m < 64 ∧ NeC s e k m ∧ ¬ shC s e (s 51 g.toNat) m
theorem laK.ex {s : xS} {e g : Int} (hw : wrC s g = 0) : laC s e g ↔ ∃ k : Nat, k < 40 ∧ laK s e g k := by
  unfold laC laK
  constructor
  · rintro ⟨_, k, m, a, b, c, d, f⟩; exact ⟨k, a, d, m, b, c, f⟩
  · rintro ⟨k, a, d, m, b, c, f⟩; exact ⟨hw, k, m, a, b, c, d, f⟩
/-- the class's word of one mark on the way up: t is what is needed and not shown -/
theorem laK.of {s : xS} {e g t u v w : Int} {k : Nat} (hk : k < 40) (h : Fo s s 209 e) (l : VL s s e) (hp : 0 ≤ s 51 g.toNat ∧ s 51 g.toNat ≤ 39) (eu : u = s 213 k) (ev : v = s 255 (s 51 g.toNat).toNat) (g1 : ∀ j : Nat, j < 64 → bt w j = !bt v j) (ht : in64 t) (g2 : ∀ j, bt t j = (bt u j && bt w j)) : t ≠ 0 ↔ ∃ m : Nat, m < 64 ∧ NeC s e k m ∧ ¬ shC s e (s 51 g.toNat) m := by
  obtain ⟨-, -, -, -, -, -, -, h8⟩ := h.fos
  rw [bt_z ht]
  refine exists_congr (fun j => and_congr_right (fun hj => ?_))
  have h8k := h8 k (by omega) (by omega) j hj
  rw [show ((k : Int)).toNat = k from rfl] at h8k
  have h8k : bt (s 213 k) j = true ↔ NeC s e k j := h8k
  rw [g2 j, g1 j hj, Bool.and_eq_true, eu, h8k, ev, Bool.not_eq_true', ← l.2 _ hp.1 hp.2 j hj, Bool.not_eq_true]
/-- the reference's clauses -/
theorem R1.la {s : xS} (h : R1 s) (hJ : J s) {e g : Int} : (∃ c : Int, (0 ≤ c ∧ c < s 256 20) ∧ (HpR s e c 3 ∧ onp s e 40 (s 52 g.toNat) (s 273 c.toNat) ∧ ¬ shC s e (s 51 g.toNat) (s 274 c.toNat))) ↔ ∃ k m : Nat, k < 40 ∧ m < 64 ∧ NeC s e k m ∧ onp s e 40 (s 52 g.toNat) k ∧ ¬ shC s e (s 51 g.toNat) m := by
  have h0 : ∀ c : Int, (0 ≤ c ∧ c < s 256 20) → HpR s e c 3 → (0 ≤ s 273 c.toNat ∧ s 273 c.toNat ≤ 39) ∧ 0 ≤ s 274 c.toNat ∧ s 274 c.toNat ≤ 39 := fun c hc hp => by
    obtain ⟨x, r, k1, k2⟩ := h.rng hJ hc hp
    rw [k2 (by omega)] at k1
    unfold okS at k1
    omega
  constructor
  · rintro ⟨c, hc, hp, a, b⟩
    have hx := h0 c hc hp
    refine ⟨(s 273 c.toNat).toNat, (s 274 c.toNat).toNat, by omega, by omega, (h.ne hJ e _ _).mp ⟨c, hc, hp, by omega, by omega⟩, ?_, ?_⟩
    · rw [show (((s 273 c.toNat).toNat : Nat) : Int) = s 273 c.toNat by omega]; exact a
    · rw [show (((s 274 c.toNat).toNat : Nat) : Int) = s 274 c.toNat by omega]; exact b
  · rintro ⟨k, m, _, _, n, a, b⟩
    obtain ⟨c, hc, hp, e1, e2⟩ := (h.ne hJ e k m).mpr n
    exact ⟨c, hc, hp, by rw [e1]; exact a, by rw [e2]; exact b⟩
/-- means -/
noncomputable def meS (s : xS) (a b d : Int) : Int := if d = 0 then meC s b a else if d = 1 then pIf (loC s b a) 1 0 else pIf (laC s b a) 1 0
def MeS (s : xS) (a b d z : Int) : Prop := (¬ (0 ≤ a ∧ a < s 50 6) ∧ z = -1001) ∨ ((0 ≤ a ∧ a < s 50 6) ∧ ¬ ((0 ≤ b ∧ b ≤ s 0 10) ∧ 0 ≤ d ∧ d ≤ 2) ∧ z = -1002) ∨ ((0 ≤ a ∧ a < s 50 6) ∧ ((0 ≤ b ∧ b ≤ s 0 10) ∧ 0 ≤ d ∧ d ≤ 2) ∧ b < s 55 a.toNat ∧ z = -1003) ∨ ((0 ≤ a ∧ a < s 50 6) ∧ ((0 ≤ b ∧ b ≤ s 0 10) ∧ 0 ≤ d ∧ d ≤ 2) ∧ s 55 a.toNat ≤ b ∧ z = meS s a b d)
theorem MeS.u {s : xS} {a b d z1 z2 : Int} (h1 : MeS s a b d z1) (h2 : MeS s a b d z2) : z1 = z2 := by
  unfold MeS at h1 h2
  rcases h1 with ⟨a1, a2⟩ | ⟨a1, a2, a3⟩ | ⟨a1, a2, a3, a4⟩ | ⟨a1, a2, a3, a4⟩ <;> rcases h2 with ⟨b1, b2⟩ | ⟨b1, b2, b3⟩ | ⟨b1, b2, b3, b4⟩ | ⟨b1, b2, b3, b4⟩ <;> omega
def LVQ : List Nat := [69, 128, 192, 256, 384, 1350, 1408, 1472, 1600, 1664, 1728, 1792, 1856, 711, 768, 832, 960, 1024, 1152, 11]
theorem MeS.fl {L : List Nat} {s s' : xS} {a b d z : Int} (h : MeS s' a b d z) (hG : GI s) (f : FL L s s') (hL : ∀ x ∈ LVQ, x ∉ L) : MeS s a b d z := by
  have v := f.ve hG (fun x hx => hL x (by revert x; decide))
  have e2 : s' 0 10 = s 0 10 := f 0 10 (hL 11 (by decide))
  have e6 := v.2.2.2.1
  have e55 := v.2.2.2.2.2.2.2.1
  unfold MeS at h ⊢
  rw [e6, e55, e2] at h
  rcases h with h | h | h | ⟨h1, h2, h3, h4⟩
  · exact Or.inl h
  · exact Or.inr (Or.inl h)
  · exact Or.inr (Or.inr (Or.inl h))
  · refine Or.inr (Or.inr (Or.inr ⟨h1, h2, h3, ?_⟩))
    rw [h4]
    unfold meS
    rw [v.me h1, show loC s' b a = loC s b a from propext (v.lo h1 b), show laC s' b a = laC s b a from propext (v.la b a)]
/-- led: the first giving that leads there -/
def ldP (s : xS) (p m e g : Int) : Prop := s 51 g.toNat = p ∧ 0 ≤ meC s e g ∧ onp s e 40 (meC s e g) m
def LdS (s : xS) (a b d z : Int) : Prop := (¬ ((0 ≤ a ∧ a < s 46 3) ∧ 0 ≤ b ∧ b < s 1 4) ∧ z = -1001) ∨ (((0 ≤ a ∧ a < s 46 3) ∧ 0 ≤ b ∧ b < s 1 4) ∧ ¬ (0 ≤ d ∧ d ≤ s 0 10) ∧ z = -1002) ∨
  (((0 ≤ a ∧ a < s 46 3) ∧ 0 ≤ b ∧ b < s 1 4) ∧ (0 ≤ d ∧ d ≤ s 0 10) ∧ ((z = -1 ∧ ∀ g : Int, 0 ≤ g → g < s 50 6 → ¬ ldP s a b d g) ∨ ((0 ≤ z ∧ z < s 50 6) ∧ ldP s a b d z ∧ ∀ g : Int, 0 ≤ g → g < z → ¬ ldP s a b d g)))
theorem LdS.u {s : xS} {a b d z1 z2 : Int} (h1 : LdS s a b d z1) (h2 : LdS s a b d z2) : z1 = z2 := by
  unfold LdS at h1 h2
  rcases h1 with ⟨a1, a2⟩ | ⟨a1, a2, a3⟩ | ⟨a1, a2, ⟨a3, a4⟩ | ⟨a3, a4, a5⟩⟩ <;> rcases h2 with ⟨b1, b2⟩ | ⟨b1, b2, b3⟩ | ⟨b1, b2, ⟨b3, b4⟩ | ⟨b3, b4, b5⟩⟩
  case inr.inr.inl.inr.inr.inr => exact absurd b4 (a4 z2 b3.1 b3.2)
  case inr.inr.inr.inr.inr.inl => exact absurd a4 (b4 z1 a3.1 a3.2)
  case inr.inr.inr.inr.inr.inr =>
    by_cases q : z1 < z2
    · exact absurd a4 (b5 z1 a3.1 q)
    · by_cases q2 : z2 < z1
      · exact absurd b4 (a5 z2 b3.1 q2)
      · omega
  all_goals omega
theorem LdS.fl {L : List Nat} {s s' : xS} {a b d z : Int} (h : LdS s' a b d z) (hG : GI s) (f : FL L s s') (hL : ∀ x ∈ 452 :: LVQ, x ∉ L) : LdS s a b d z := by
  have v := f.ve hG (fun x hx => hL x (by revert x; decide))
  have e2 : s' 0 10 = s 0 10 := f 0 10 (hL 11 (by decide))
  have e3 : s' 46 3 = s 46 3 := f 46 3 (hL 452 (by decide))
  have e1 := v.1.1
  have e6 := v.2.2.2.1
  have e51 := v.2.2.2.2.1
  have hp : ∀ g : Int, 0 ≤ g → g < s 50 6 → (ldP s' a b d g ↔ ldP s a b d g) := fun g g0 g1 => by
    unfold ldP
    rw [e51, v.me ⟨g0, g1⟩, v.on]
  unfold LdS at h ⊢
  rw [e1, e2, e3, e6] at h
  rcases h with h | h | ⟨h1, h2, ⟨h3, h4⟩ | ⟨h3, h4, h5⟩⟩
  · exact Or.inl h
  · exact Or.inr (Or.inl h)
  · exact Or.inr (Or.inr ⟨h1, h2, Or.inl ⟨h3, fun g g0 g1 => (not_congr (hp g g0 g1)).mp (h4 g g0 g1)⟩⟩)
  · exact Or.inr (Or.inr ⟨h1, h2, Or.inr ⟨h3, (hp z h3.1 h3.2).mp h4, fun g g0 g1 => (not_congr (hp g g0 (by omega))).mp (h5 g g0 g1)⟩⟩)
/-- what the reference's shows says -/
def shR (s : xS) (p m : Int) : Prop := m < 40 ∧ bt (s 282 p.toNat) m.toNat = true
theorem FdZ.sh {s σ : xS} {e p m : Int} (h : FdZ s σ e) (hp : 0 ≤ p ∧ p < σ 256 6) (hm : 0 ≤ m ∧ m ≤ 39) : shR s p m ↔ shC σ e p m := by
  unfold shR
  have q := h.2.2 p hp.1 hp.2 m.toNat (by omega)
  rw [show ((m.toNat : Nat) : Int) = m by omega] at q
  rw [← q]
  exact ⟨fun w => w.2, fun w => ⟨by omega, w⟩⟩
theorem FdZ.me {s σ : xS} {e g : Int} (h : FdZ s σ e) (hg : 0 ≤ g ∧ g < σ 256 10) : s 280 g.toNat = meC σ e g ∧ (s 281 g.toNat = 1 ↔ loC σ e g) ∧ s 277 g.toNat = wrC σ g := ⟨(h.2.1 g hg.1 hg.2).1, (h.2.1 g hg.1 hg.2).2, (h.1 g hg.1 hg.2).1⟩
theorem FdZ.cg {s s' σ : xS} {e : Int} (h : FdZ s σ e) (h7 : s' 277 = s 277) (h8 : s' 278 = s 278) (h9 : s' 279 = s 279) (h0 : s' 280 = s 280) (h1 : s' 281 = s 281) (h2 : s' 282 = s 282) : FdZ s' σ e := by
  unfold FdZ WRn MRn at h ⊢
  rw [h7, h8, h9, h0, h1, h2]
  exact h
theorem FdZ.fl {L : List Nat} {s s' σ : xS} {e : Int} (h : FdZ s σ e) (f : FL L s s') (hL : ∀ x ∈ [5440, 5504, 5568, 5632, 5696, 5760], x ∉ L) : FdZ s' σ e :=
  h.cg (funext fun i => f 277 i (hL 5440 (by decide))) (funext fun i => f 278 i (hL 5504 (by decide))) (funext fun i => f 279 i (hL 5568 (by decide))) (funext fun i => f 280 i (hL 5632 (by decide))) (funext fun i => f 281 i (hL 5696 (by decide))) (funext fun i => f 282 i (hL 5760 (by decide)))
theorem FdZ.up {s σ : xS} {e : Int} {q i : Nat} {v : Int} (h : FdZ s σ e) (hL : x_pl q i ∉ [5440, 5504, 5568, 5632, 5696, 5760]) : FdZ (x_up s q i v) σ e := h.fl FL.one (fun x hx hm => hL (by rw [← List.mem_singleton.mp hm]; exact hx))
theorem FdZ.ve {s σ τ : xS} {e : Int} (h : FdZ s σ e) (v : VE σ τ) (t : σ 256 10 = τ 256 10) (t6 : σ 256 6 = τ 256 6) (t5 : τ 256 10 = τ 50 6) : FdZ s τ e := by
  obtain ⟨h1, h2, h3⟩ := h
  refine ⟨by rw [← t]; exact h1.cg v, fun g g0 g1 => ?_, fun p p0 p1 k hk => ?_⟩
  · have hg := h2 g g0 (by omega)
    rw [v.me ⟨g0, by omega⟩, v.lo ⟨g0, by omega⟩] at hg
    exact hg
  · rw [h3 p p0 (by omega) k hk, v.sh]
theorem pIf_b {P : Prop} {z : Int} (h : (z = 1 ∧ P) ∨ (z = 0 ∧ ¬ P)) : z = pIf P 1 0 := by
  rcases h with ⟨h1, h2⟩ | ⟨h1, h2⟩
  · rw [pIf_y h2]; exact h1
  · rw [pIf_n h2]; exact h1
/-- the meaning of a giving is below m -/
def mbP (s : xS) (a b : Int) : Prop := 0 ≤ s 253 a.toNat ∧ (0 ≤ b ∧ b < s 1 4) ∧ onp s (s 243 12) 40 (s 253 a.toNat) b
theorem mbP.eq {s σ : xS} {e a b : Int} (l : VL s σ e) (v : VE s σ) (he : s 243 12 = e) (ha : 0 ≤ a ∧ a < σ 50 6) (hb : 0 ≤ b ∧ b < σ 1 4) : mbP s a b ↔ (0 ≤ meC σ e a ∧ onp σ e 40 (meC σ e a) b) := by
  unfold mbP
  rw [(l.1 a ha.1 ha.2).1, he, v.on, v.1.1]
  exact ⟨fun w => ⟨w.1, w.2.2⟩, fun w => ⟨w.1, hb, w.2⟩⟩
theorem no_si {P : Int → Prop} {x : Int} (h : ∀ i : Int, 0 ≤ i → i < x → ¬ P i) (hn : ¬ P x) : ∀ i : Int, 0 ≤ i → i < x + 1 → ¬ P i := fun i i0 i1 => by
  by_cases q : i = x
  · rw [q]; exact hn
  · exact h i i0 (by omega)
/-- count -/
noncomputable def coS (s : xS) (b : Int) : Int :=
  if b = 0 then s 0 10 else if b = 1 then s 1 4 else if b = 2 then ctp (fun m => thC s (s 0 10) m) (s 1 4).toNat else if b = 3 then s 46 3 else if b = 4 then s 50 6 else if b = 5 then ctp (fun g => wrC s g ≠ 0) (s 50 6).toNat else if b = 6 then ctp (fun g => loC s (s 0 10) g) (s 50 6).toNat else if b = 7 then ctp (fun g => laC s (s 0 10) g) (s 50 6).toNat else if b = 8 then s 179 5 else if b = 9 then s 177 1 else if b = 10 then s 214 3 else if b = 11 then s 218 6 else s 231 3
def CoS (s : xS) (b z : Int) : Prop := (¬ (0 ≤ b ∧ b ≤ 12) ∧ z = -1002) ∨ ((0 ≤ b ∧ b ≤ 12) ∧ z = coS s b)
theorem CoS.u {s : xS} {b z1 z2 : Int} (h1 : CoS s b z1) (h2 : CoS s b z2) : z1 = z2 := by
  unfold CoS at h1 h2
  omega
theorem CoS.fl {L : List Nat} {s s' : xS} {b z : Int} (h : CoS s' b z) (hG : GI s) (f : FL L s s') (hL : ∀ x ∈ 452 :: 1218 :: 2244 :: 2503 :: 2884 :: LVQ, x ∉ L) : CoS s b z := by
  have v := f.ve hG (fun x hx => hL x (by revert x; decide))
  have e2 : s' 0 10 = s 0 10 := f 0 10 (hL 11 (by decide))
  have e3 : s' 46 3 = s 46 3 := f 46 3 (hL 452 (by decide))
  have e4 : s' 177 1 = s 177 1 := f 177 1 (hL 1218 (by decide))
  have e5 : s' 214 3 = s 214 3 := f 214 3 (hL 2244 (by decide))
  have e7 : s' 218 6 = s 218 6 := f 218 6 (hL 2503 (by decide))
  have e8 : s' 231 3 = s 231 3 := f 231 3 (hL 2884 (by decide))
  have e9 : s' 179 5 = s 179 5 := v.2.2.1.1
  have e1 := v.1.1
  have e6 := v.2.2.2.1
  have gg : (0 : Int) ≤ s 50 6 ∧ s 50 6 ≤ 120 := hG 50 6
  have c1 : ctp (fun m => thC s' (s 0 10) m) (s 1 4).toNat = ctp (fun m => thC s (s 0 10) m) (s 1 4).toNat := ctp_cg _ (fun k _ => v.th _ _)
  have c2 : ctp (fun g => wrC s' g ≠ 0) (s 50 6).toNat = ctp (fun g => wrC s g ≠ 0) (s 50 6).toNat := by rw [v.wr]
  have c3 : ctp (fun g => loC s' (s 0 10) g) (s 50 6).toNat = ctp (fun g => loC s (s 0 10) g) (s 50 6).toNat := ctp_cg _ (fun k hk => v.lo ⟨by omega, by omega⟩ _)
  have c4 : ctp (fun g => laC s' (s 0 10) g) (s 50 6).toNat = ctp (fun g => laC s (s 0 10) g) (s 50 6).toNat := ctp_cg _ (fun k hk => v.la _ _)
  unfold CoS coS at h ⊢
  rw [e1, e2, e3, e4, e5, e6, e7, e8, e9, c1, c2, c3, c4] at h
  exact h
