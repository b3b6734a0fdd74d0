/-! hands, lacking; pictures of both -/
theorem im_0 {Q : Int → Prop} {F : Int → Int} : ∀ k : Nat, k < 64 → (bt 0 k = true ↔ ∃ g : Int, (0 ≤ g ∧ g < 0) ∧ Q g ∧ F g = (k : Int)) := fun k _ => by
  rw [bt_0]
  exact ⟨fun q => (by cases q), fun ⟨g, q, _⟩ => by omega⟩
theorem im_no {set x : Int} {Q : Int → Prop} {F : Int → Int} (h : ∀ k : Nat, k < 64 → (bt set k = true ↔ ∃ g : Int, (0 ≤ g ∧ g < x) ∧ Q g ∧ F g = (k : Int))) (hq : ¬ Q x) : ∀ k : Nat, k < 64 → (bt set k = true ↔ ∃ g : Int, (0 ≤ g ∧ g < x + 1) ∧ Q g ∧ F g = (k : Int)) := fun k hk => by
  rw [h k hk]
  constructor
  · rintro ⟨g, a, b⟩; exact ⟨g, by omega, b⟩
  · rintro ⟨g, a, b⟩
    by_cases q : g = x
    · rw [q] at b; exact absurd b.1 hq
    · exact ⟨g, by omega, b⟩
theorem im_yes {set sh r x p : Int} {Q : Int → Prop} {F : Int → Int} (h0 : 0 ≤ x) (h : ∀ k : Nat, k < 64 → (bt set k = true ↔ ∃ g : Int, (0 ≤ g ∧ g < x) ∧ Q g ∧ F g = (k : Int))) (hq : Q x) (hp : 0 ≤ p) (ep : F x = p) (g1 : ∀ k : Nat, k < 64 → bt sh k = decide (k = p.toNat)) (g2 : ∀ k, bt r k = (bt set k || bt sh k)) : ∀ k : Nat, k < 64 → (bt r k = true ↔ ∃ g : Int, (0 ≤ g ∧ g < x + 1) ∧ Q g ∧ F g = (k : Int)) := fun k hk => by
  rw [g2 k, g1 k hk, Bool.or_eq_true, decide_eq_true_eq, h k hk]
  constructor
  · rintro (⟨g, a, b⟩ | a)
    · exact ⟨g, by omega, b⟩
    · exact ⟨x, by omega, hq, by omega⟩
  · rintro ⟨g, a, b, c⟩
    by_cases q : g = x
    · subst q; exact Or.inr (by omega)
    · exact Or.inl ⟨g, by omega, b, c⟩
theorem or_0 {r t : Int} (g2 : ∀ k, bt r k = (bt t k || bt 0 k)) : ∀ k, bt r k = bt t k := fun k => by rw [g2 k, bt_0, Bool.or_false]
/-- a hand's pictures; those in which it saw m -/
def hdC (s : xS) (h e p : Int) : Prop := ∃ g : Int, (0 ≤ g ∧ g < s 50 6) ∧ (s 53 g.toNat = h ∧ s 55 g.toNat ≤ e) ∧ s 51 g.toNat = p
def swC (s : xS) (h e m p : Int) : Prop := ∃ g : Int, (0 ≤ g ∧ g < s 50 6) ∧ (s 53 g.toNat = h ∧ 0 ≤ meC s e g ∧ onp s e 40 (meC s e g) m) ∧ s 51 g.toNat = p
theorem hdC.cg {s σ : xS} (v : VE s σ) (h53 : s 53 = σ 53) (h e p : Int) : hdC s h e p ↔ hdC σ h e p := by
  unfold hdC
  rw [v.2.2.2.1, v.2.2.2.2.1, v.2.2.2.2.2.2.2.1, h53]
theorem swC.cg {s σ : xS} (v : VE s σ) (h53 : s 53 = σ 53) (h e m p : Int) : swC s h e m p ↔ swC σ h e m p := by
  unfold swC
  rw [v.2.2.2.1, v.2.2.2.2.1, h53]
  exact exists_congr (fun g => and_congr_right (fun hg => by rw [v.me hg, v.on]))
theorem hdC.lt {s : xS} {h e p : Int} (g3 : G3 s) (hG : GI s) (w : hdC s h e p) : 0 ≤ p ∧ p < s 46 3 ∧ p < 40 := by
  obtain ⟨g, g1, -, g2⟩ := w
  have gg : (0 : Int) ≤ s 50 6 ∧ s 50 6 ≤ 120 := hG 50 6
  have gp : (0 : Int) ≤ s 51 g.toNat ∧ s 51 g.toNat ≤ 39 := hG 51 g.toNat
  have := (g3.2 g g1.1 (by omega) g1.2).2.1
  omega
theorem hd40 {s : xS} {h e p : Int} (hG : GI s) (w : hdC s h e p) : p < 40 := by
  obtain ⟨g, g1, -, g2⟩ := w
  have gp : (0 : Int) ≤ s 51 g.toNat ∧ s 51 g.toNat ≤ 39 := hG 51 g.toNat
  omega
noncomputable def ha0 (s : xS) (a b e : Int) : Int := ctp (fun p => hdC s a e (p : Int) ∧ hdC s b e (p : Int)) 40
noncomputable def ha1 (s : xS) (a b d e h : Int) : Int := ctp (fun p => (hdC s a e (p : Int) ∧ hdC s b e (p : Int)) ∧ swC s h e d (p : Int)) 40
noncomputable def ha3 (s : xS) (a b d e : Int) : Int := ctp (fun p => (hdC s a e (p : Int) ∧ hdC s b e (p : Int)) ∧ swC s a e d (p : Int) ∧ swC s b e d (p : Int)) 40
noncomputable def haS (s : xS) (a b d e h : Int) : Int := if h = 0 then ha0 s a b e else if h = 1 then ha1 s a b d e a else if h = 2 then ha1 s a b d e b else if h = 3 then ha3 s a b d e else if ha3 s a b d e = 0 then -1 else jdv (jml (ha1 s a b d e a - ha3 s a b d e) (ha1 s a b d e b - ha3 s a b d e)) (ha3 s a b d e)
def HaS (s : xS) (a b d e h z : Int) : Prop := (¬ (0 ≤ d ∧ d < s 1 4) ∧ z = -1001) ∨ ((0 ≤ d ∧ d < s 1 4) ∧ ¬ (((0 ≤ a ∧ a ≤ 7) ∧ (0 ≤ b ∧ b ≤ 7) ∧ a ≠ b) ∧ (0 ≤ e ∧ e ≤ s 0 10) ∧ 0 ≤ h ∧ h ≤ 4) ∧ z = -1002) ∨ ((0 ≤ d ∧ d < s 1 4) ∧ (((0 ≤ a ∧ a ≤ 7) ∧ (0 ≤ b ∧ b ≤ 7) ∧ a ≠ b) ∧ (0 ≤ e ∧ e ≤ s 0 10) ∧ 0 ≤ h ∧ h ≤ 4) ∧ z = haS s a b d e h)
theorem HaS.u {s : xS} {a b d e h z1 z2 : Int} (h1 : HaS s a b d e h z1) (h2 : HaS s a b d e h z2) : z1 = z2 := by
  unfold HaS at h1 h2
  omega
theorem HaS.fl {L : List Nat} {s s' : xS} {a b d e h z : Int} (w : HaS s' a b d e h z) (hG : GI s) (f : FL L s s') (hL : ∀ x ∈ 896 :: LVQ, x ∉ L) : HaS s a b d e h z := by
  have v := f.ve hG (fun x hx => hL x (by revert x; decide))
  have e2 : s' 0 10 = s 0 10 := f 0 10 (hL 11 (by decide))
  have e3 : s' 53 = s 53 := funext fun i => f 53 i (hL 896 (by decide))
  have e1 := v.1.1
  have k0 : ha0 s' a b e = ha0 s a b e := ctp_cg _ (fun k _ => and_congr (hdC.cg v e3 _ _ _) (hdC.cg v e3 _ _ _))
  have k1 : ∀ x : Int, ha1 s' a b d e x = ha1 s a b d e x := fun x => ctp_cg _ (fun k _ => and_congr (and_congr (hdC.cg v e3 _ _ _) (hdC.cg v e3 _ _ _)) (swC.cg v e3 _ _ _ _))
  have k3 : ha3 s' a b d e = ha3 s a b d e := ctp_cg _ (fun k _ => and_congr (and_congr (hdC.cg v e3 _ _ _) (hdC.cg v e3 _ _ _)) (and_congr (swC.cg v e3 _ _ _ _) (swC.cg v e3 _ _ _ _)))
  unfold HaS haS at w ⊢
  rw [e1, e2, k0, k1, k1, k3] at w
  exact w
/-- what is left of one when those of both are taken away -/
theorem ha13 {s : xS} {a b d e : Int} : ctp (fun p => ((hdC s a e (p : Int) ∧ hdC s b e (p : Int)) ∧ swC s a e d (p : Int)) ∧ ¬ swC s b e d (p : Int)) 40 = ha1 s a b d e a - ha3 s a b d e ∧ ctp (fun p => ((hdC s a e (p : Int) ∧ hdC s b e (p : Int)) ∧ swC s b e d (p : Int)) ∧ ¬ swC s a e d (p : Int)) 40 = ha1 s a b d e b - ha3 s a b d e := by
  have h1 := ctp_and (fun p => (hdC s a e (p : Int) ∧ hdC s b e (p : Int)) ∧ swC s a e d (p : Int)) (fun p => swC s b e d (p : Int)) 40
  have h2 := ctp_and (fun p => (hdC s a e (p : Int) ∧ hdC s b e (p : Int)) ∧ swC s b e d (p : Int)) (fun p => swC s a e d (p : Int)) 40
  have k1 : ctp (fun p => ((hdC s a e (p : Int) ∧ hdC s b e (p : Int)) ∧ swC s a e d (p : Int)) ∧ swC s b e d (p : Int)) 40 = ha3 s a b d e := ctp_cg _ (fun k _ => and_assoc)
  have k2 : ctp (fun p => ((hdC s a e (p : Int) ∧ hdC s b e (p : Int)) ∧ swC s b e d (p : Int)) ∧ swC s a e d (p : Int)) 40 = ha3 s a b d e := ctp_cg _ (fun k _ => ⟨fun q => ⟨q.1.1, q.2, q.1.2⟩, fun q => ⟨⟨q.1, q.2.2⟩, q.2.1⟩⟩)
  rw [k1] at h1
  rw [k2] at h2
  unfold ha1
  constructor <;> omega
theorem haN {P : Nat → Prop} {s : xS} (g3 : G3 s) (hG : GI s) (h : ∀ k : Nat, P k → (k : Int) < s 46 3) : ctp P (s 256 6).toNat = ctp P 40 := by
  have gg : (0 : Int) ≤ s 46 3 ∧ s 46 3 ≤ 40 := hG 46 3
  have h1 := g3.1
  exact (ctp_cut (by omega) (fun k k1 _ w => by have := h k w; omega)).symm
/-- of copies: marks that others of the family show -/
def lcQ (s : xS) (e p g : Int) : Prop := s 51 g.toNat ≠ p ∧ s 49 (s 51 g.toNat).toNat = s 49 p.toNat ∧ 0 ≤ meC s e g
def LcS (s : xS) (a b z : Int) : Prop := (¬ (0 ≤ a ∧ a < s 46 3) ∧ z = -1001) ∨ ((0 ≤ a ∧ a < s 46 3) ∧ ¬ (0 ≤ b ∧ b ≤ s 0 10) ∧ z = -1002) ∨ ((0 ≤ a ∧ a < s 46 3) ∧ (0 ≤ b ∧ b ≤ s 0 10) ∧ in64 z ∧ ∀ k : Nat, k < 64 → (bt z k = true ↔ (∃ g : Int, (0 ≤ g ∧ g < s 50 6) ∧ lcQ s b a g ∧ meC s b g = (k : Int)) ∧ ¬ shC s b a k))
theorem LcS.u {s : xS} {a b z1 z2 : Int} (h1 : LcS s a b z1) (h2 : LcS s a b z2) : z1 = z2 := by
  rcases h1 with ⟨a1, a2⟩ | ⟨a1, a2, a3⟩ | ⟨a1, a2, a3, a4⟩ <;> rcases h2 with ⟨b1, b2⟩ | ⟨b1, b2, b3⟩ | ⟨b1, b2, b3, b4⟩
  case inr.inr.inr.inr => exact bt_eq a3 b3 (fun k hk => Bool.eq_iff_iff.mpr ((a4 k hk).trans (b4 k hk).symm))
  all_goals omega
theorem LcS.fl {L : List Nat} {s s' : xS} {a b z : Int} (h : LcS s' a b z) (hG : GI s) (f : FL L s s') (hL : ∀ x ∈ 452 :: 640 :: LVQ, x ∉ L) : LcS s a b z := by
  have v := f.ve hG (fun x hx => hL x (by revert x; decide))
  have e2 : s' 0 10 = s 0 10 := f 0 10 (hL 11 (by decide))
  have e3 : s' 46 3 = s 46 3 := f 46 3 (hL 452 (by decide))
  have e4 : s' 49 = s 49 := funext fun i => f 49 i (hL 640 (by decide))
  have e6 := v.2.2.2.1
  have e51 := v.2.2.2.2.1
  unfold LcS at h ⊢
  rw [e2, e3] at h
  rcases h with h | h | ⟨h1, h2, h3, h4⟩
  · exact Or.inl h
  · exact Or.inr (Or.inl h)
  · refine Or.inr (Or.inr ⟨h1, h2, h3, fun k hk => (h4 k hk).trans (and_congr ?_ (not_congr (v.sh _ _ _)))⟩)
    rw [e6]
    exact exists_congr (fun g => and_congr_right (fun hg => by unfold lcQ; rw [e51, e4, v.me hg]))
/-- a new picture in both -/
def PcC (s s' : xS) (a b d z : Int) : Prop := (z < 0 → s' 47 = s 47 ∧ s' 48 = s 48 ∧ s' 49 = s 49) ∧ (0 ≤ z → ∀ j : Nat, (s' 47 j = if j = z.toNat then a else s 47 j) ∧ (s' 48 j = if j = z.toNat then b else s 48 j) ∧ s' 49 j = if j = z.toNat then (if 0 ≤ d ∧ d < z then s 49 d.toNat else z) else s 49 j)
def PcR (s s' : xS) (a b d z : Int) : Prop := (z < 0 → s' 261 = s 261 ∧ s' 262 = s 262 ∧ s' 263 = s 263) ∧ (0 ≤ z → ∀ j : Nat, (s' 261 j = if j = z.toNat then a else s 261 j) ∧ (s' 262 j = if j = z.toNat then b else s 262 j) ∧ s' 263 j = if j = z.toNat then d else s 263 j)
theorem Y1.pic {L1 L2 : List Nat} {s s1 s2 : xS} {a b d z1 z2 : Int} (h : Y1 s) (hG : GI s) (f1 : FL L1 s s1) (f2 : FL L2 s1 s2) (hL1 : ∀ x ∈ [4416, 4480, 4544], x ∉ L1) (hL2 : ∀ x ∈ [512, 576, 640], x ∉ L2) (n1 : (z1 < 0 ∧ s2 46 3 = s 46 3) ∨ (z1 = s 46 3 ∧ z1 < 40 ∧ s2 46 3 = z1 + 1)) (n2 : s2 46 3 = s2 256 6) (hd : 0 ≤ z1 → d = -1 ∨ (0 ≤ d ∧ d < z1)) (hz : z1 = z2) (x1 : PcC s s1 a b d z1) (x2 : PcR s1 s2 a b d z2) : Y1 s2 := by
  subst hz
  have g46 : (0 : Int) ≤ s 46 3 ∧ s 46 3 ≤ 40 := hG 46 3
  have c1 : s1 261 = s 261 := funext fun i => f1 261 i (hL1 4416 (by decide))
  have c2 : s1 262 = s 262 := funext fun i => f1 262 i (hL1 4480 (by decide))
  have c3 : s1 263 = s 263 := funext fun i => f1 263 i (hL1 4544 (by decide))
  have b1 : s2 47 = s1 47 := funext fun i => f2 47 i (hL2 512 (by decide))
  have b2 : s2 48 = s1 48 := funext fun i => f2 48 i (hL2 576 (by decide))
  have b3 : s2 49 = s1 49 := funext fun i => f2 49 i (hL2 640 (by decide))
  refine ⟨n2, fun p p0 p1 p2 => ?_⟩
  rw [b1, b2, b3]
  rcases n1 with ⟨n1, n3⟩ | ⟨n1, n3, n4⟩
  · obtain ⟨y1, y2, y3⟩ := x1.1 n1
    obtain ⟨y4, y5, y6⟩ := x2.1 n1
    rw [y1, y2, y3, y4, y5, y6, c1, c2, c3]
    exact h.2 p p0 p1 (by have := h.1; omega)
  · have w1 := x1.2 (by omega)
    have w2 := x2.2 (by omega)
    by_cases q : p = z1
    · subst q
      obtain ⟨y1, y2, y3⟩ := w1 p.toNat
      obtain ⟨y4, y5, y6⟩ := w2 p.toNat
      rw [if_pos rfl] at y1 y2 y3 y4 y5 y6
      rw [y1, y2, y4, y5, y6]
      refine ⟨⟨rfl, rfl⟩, fun k => ?_, fun k => ⟨by have := hd p0; omega, ?_⟩⟩
      · rw [y3, if_neg (by omega)]
      · have hd2 : 0 ≤ d ∧ d < p := by have := hd p0; omega
        rw [y3, if_pos hd2, (w1 d.toNat).2.2, if_neg (by omega)]
    · have hp : p < s 46 3 := by omega
      obtain ⟨y1, y2, y3⟩ := w1 p.toNat
      obtain ⟨y4, y5, y6⟩ := w2 p.toNat
      rw [if_neg (by omega)] at y1 y2 y3 y4 y5 y6
      rw [y1, y2, y3, y4, y5, y6, c1, c2, c3]
      obtain ⟨k1, k2, k3⟩ := h.2 p p0 p1 (by rw [← h.1]; exact hp)
      refine ⟨k1, k2, fun k => ⟨(k3 k).1, ?_⟩⟩
      rw [(k3 k).2, (w1 (s 263 p.toNat).toNat).2.2, if_neg (by have := (k3 k).1; omega)]
def PiN (n0 n1 a b d z : Int) : Prop :=
  (¬ (d = -1 ∨ (0 ≤ d ∧ d < n0)) ∧ z = -1001 ∧ n1 = n0) ∨ ((d = -1 ∨ (0 ≤ d ∧ d < n0)) ∧ ¬ (0 ≤ a ∧ a ≤ 999 ∧ 0 ≤ b ∧ b ≤ 9) ∧ z = -1002 ∧ n1 = n0) ∨ ((d = -1 ∨ (0 ≤ d ∧ d < n0)) ∧ (0 ≤ a ∧ a ≤ 999 ∧ 0 ≤ b ∧ b ≤ 9) ∧ n0 ≥ 40 ∧ z = -1004 ∧ n1 = n0) ∨ ((d = -1 ∨ (0 ≤ d ∧ d < n0)) ∧ (0 ≤ a ∧ a ≤ 999 ∧ 0 ≤ b ∧ b ≤ 9) ∧ n0 < 40 ∧ z = n0 ∧ n1 = n0 + 1)
theorem Y1.pc {L1 L2 : List Nat} {s s1 s2 : xS} {a b d z1 z2 : Int} (h : Y1 s) (hG : GI s) (f1 : FL L1 s s1) (f2 : FL L2 s1 s2) (hL1 : ∀ x ∈ [4103, 4416, 4480, 4544], x ∉ L1) (hL2 : ∀ x ∈ [452, 512, 576, 640], x ∉ L2) (x1 : PiN (s 46 3) (s1 46 3) a b d z1 ∧ PcC s s1 a b d z1) (x2 : PiN (s1 256 6) (s2 256 6) a b d z2 ∧ PcR s1 s2 a b d z2) : z1 = z2 ∧ Y1 s2 := by
  have t1 : s1 256 6 = s 256 6 := f1 256 6 (hL1 4103 (by decide))
  have t2 : s2 46 3 = s1 46 3 := f2 46 3 (hL2 452 (by decide))
  have g46 : (0 : Int) ≤ s 46 3 ∧ s 46 3 ≤ 40 := hG 46 3
  have h1 := h.1
  obtain ⟨a1, a2⟩ := x1
  obtain ⟨b1, b2⟩ := x2
  unfold PiN at a1 b1
  have hz : z1 = z2 := by omega
  exact ⟨hz, h.pic hG f1 f2 (fun x hx => hL1 x (by revert x; decide)) (fun x hx => hL2 x (by revert x; decide)) (by omega) (by omega) (fun w => by omega) hz a2 b2⟩
