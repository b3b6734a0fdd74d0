/-! likely: pictures by how many marks that go along they show -/
theorem ctp_sub {P Q : Nat → Prop} (n : Nat) (h : ∀ k, k < n → P k → Q k) : ctp P n ≤ ctp Q n := by
  induction n with
  | zero => exact Int.le_refl _
  | succ n ih =>
    have i := ih (fun k hk => h k (by omega))
    show ctp P n + @ite Int (P n) (Classical.propDecidable _) 1 0 ≤ ctp Q n + @ite Int (Q n) (Classical.propDecidable _) 1 0
    by_cases p : P n
    · rw [if_pos p, if_pos (h n (by omega) p)]; omega
    · rw [if_neg p]
      by_cases q : Q n
      · rw [if_pos q]; omega
      · rw [if_neg q]; omega
section LK
variable {f : Nat → Int} {N : Nat}
/-- q comes ahead of (sc, p) -/
def bfr (f : Nat → Int) (sc : Int) (p q : Nat) : Prop := sc < f q ∨ (f q = sc ∧ q < p)
noncomputable def lkc (f : Nat → Int) (N : Nat) (sc : Int) (p : Nat) : Int := ctp (bfr f sc p) N
theorem lkc_in {sc : Int} {p : Nat} (hp : p < N) (e : f p = sc) : lkc f N sc (p + 1) = lkc f N sc p + 1 := by
  have hq : ¬ bfr f sc p p := fun w => by rcases w with w | w <;> omega
  unfold lkc
  rw [← (ctp_ins (bfr f sc p) hq N).2 hp]
  exact ctp_cg N (fun q _ => by
    unfold bfr
    constructor
    · rintro (w | w)
      · exact Or.inl (Or.inl w)
      · by_cases z : q = p
        · exact Or.inr z
        · exact Or.inl (Or.inr ⟨w.1, by omega⟩)
    · rintro ((w | w) | w)
      · exact Or.inl w
      · exact Or.inr ⟨w.1, by omega⟩
      · rw [w]; exact Or.inr ⟨e, by omega⟩)
theorem lkc_out {sc : Int} {p : Nat} (e : f p ≠ sc) (q : Nat) : bfr f sc (p + 1) q ↔ bfr f sc p q := by
  unfold bfr
  constructor
  · rintro (w | w)
    · exact Or.inl w
    · by_cases z : q = p
      · rw [z] at w; exact absurd w.1 e
      · exact Or.inr ⟨w.1, by omega⟩
  · rintro (w | w)
    · exact Or.inl w
    · exact Or.inr ⟨w.1, by omega⟩
theorem lkc_lt {p q : Nat} (hq : q < N) (h : bfr f (f p) p q) : lkc f N (f q) q < lkc f N (f p) p := by
  have h1 : lkc f N (f q) (q + 1) = lkc f N (f q) q + 1 := lkc_in hq rfl
  have h2 : lkc f N (f q) (q + 1) ≤ lkc f N (f p) p := ctp_sub N (fun k _ w => by
    unfold bfr at h w ⊢
    rcases h with h | h <;> rcases w with w | w
    · exact Or.inl (by omega)
    · exact Or.inl (by omega)
    · exact Or.inl (by omega)
    · exact Or.inr ⟨by omega, by omega⟩)
  omega
/-- the answer for d -/
def lkS (f : Nat → Int) (N : Nat) (d z : Int) : Prop := (d = -1 ∧ z = ctp (fun p => 0 < f p) N) ∨ (d ≠ -1 ∧ ((z = -1 ∧ ∀ p : Nat, p < N → 0 < f p → lkc f N (f p) p ≠ d) ∨ ∃ p : Nat, p < N ∧ z = (p : Int) ∧ 0 < f p ∧ lkc f N (f p) p = d))
theorem lkS.u {d z1 z2 : Int} (h1 : lkS f N d z1) (h2 : lkS f N d z2) : z1 = z2 := by
  rcases h1 with ⟨a1, a2⟩ | ⟨a1, ⟨a2, a3⟩ | ⟨i, a2, a3, a4, a5⟩⟩ <;> rcases h2 with ⟨b1, b2⟩ | ⟨b1, ⟨b2, b3⟩ | ⟨j, b2, b3, b4, b5⟩⟩
  case inr.inl.inr.inr => exact absurd b5 (a3 j b2 b4)
  case inr.inr.inr.inl => exact absurd a5 (b3 i a2 a4)
  case inr.inr.inr.inr =>
    have key : ∀ x y : Nat, x < N → y < N → lkc f N (f x) x = d → lkc f N (f y) y = d → ¬ bfr f (f y) y x := fun x y hx hy e1 e2 w => by
      have := lkc_lt hx w; omega
    have k1 := key i j a2 b2 a5 b5
    have k2 := key j i b2 a2 b5 a5
    unfold bfr at k1 k2
    omega
  all_goals omega
theorem lkS.cg {g : Nat → Int} {d z : Int} (h : lkS f N d z) (e : ∀ p, p < N → f p = g p) : lkS g N d z := by
  have b : ∀ p, p < N → lkc f N (f p) p = lkc g N (g p) p := fun p hp => by
    unfold lkc
    exact ctp_cg N (fun q hq => by unfold bfr; rw [e q hq, e p hp])
  rcases h with ⟨a1, a2⟩ | ⟨a1, ⟨a2, a3⟩ | ⟨i, a2, a3, a4, a5⟩⟩
  · exact Or.inl ⟨a1, by rw [a2]; exact ctp_cg N (fun p hp => by rw [e p hp])⟩
  · exact Or.inr ⟨a1, Or.inl ⟨a2, fun p hp hq => by rw [← b p hp]; exact a3 p hp (by rw [e p hp]; exact hq)⟩⟩
  · exact Or.inr ⟨a1, Or.inr ⟨i, a2, a3, by rw [← e i a2]; exact a4, by rw [← b i a2]; exact a5⟩⟩
/-- on the way: c are ahead of (sc, p), none of them the one asked for -/
def lkW (f : Nat → Int) (N : Nat) (d sc p c : Int) : Prop := c = lkc f N sc p.toNat ∧ ∀ q : Nat, q < N → bfr f sc p.toNat q → lkc f N (f q) q ≠ d
theorem lkW_0 {d sc : Int} (h : ∀ q, q < N → f q ≤ sc) : lkW f N d sc 0 0 := by
  have no : ∀ q, q < N → ¬ bfr f sc 0 q := fun q hq w => by
    have := h q hq
    rcases w with w | w <;> omega
  exact ⟨(ctp_0 N no).symm, fun q hq w => absurd w (no q hq)⟩
theorem lkW.skip {d sc p c : Int} (h : lkW f N d sc p c) (hp : 0 ≤ p) (e : f p.toNat ≠ sc) : lkW f N d sc (p + 1) c := by
  have e1 : (p + 1).toNat = p.toNat + 1 := by omega
  unfold lkW
  rw [e1]
  refine ⟨h.1.trans (ctp_cg N (fun q _ => (lkc_out e q).symm)), fun q hq w => h.2 q hq ((lkc_out e q).mp w)⟩
theorem lkW.hit {d sc p c : Int} (h : lkW f N d sc p c) (hp : 0 ≤ p ∧ p < N) (e : f p.toNat = sc) (hc : c ≠ d) : lkW f N d sc (p + 1) (c + 1) := by
  have e1 : (p + 1).toNat = p.toNat + 1 := by omega
  unfold lkW
  rw [e1]
  refine ⟨by rw [lkc_in (by omega) e, ← h.1], fun q hq w => ?_⟩
  by_cases z : q = p.toNat
  · rw [z, e, ← h.1]; exact hc
  · refine h.2 q hq ?_
    rcases w with w | w
    · exact Or.inl w
    · exact Or.inr ⟨w.1, by omega⟩
theorem lkW.got {d sc p c : Int} (h : lkW f N d sc p c) (hp : 0 ≤ p ∧ p < N) (e : f p.toNat = sc) (hs : 0 < sc) (hd : d ≠ -1) (hc : c = d) : lkS f N d p :=
  Or.inr ⟨hd, Or.inr ⟨p.toNat, by omega, by omega, by omega, by rw [e, ← h.1]; exact hc⟩⟩
theorem lkW.next {d sc p c : Int} (h : lkW f N d sc p c) (hp : p = N) : lkW f N d (sc - 1) 0 c := by
  have e : ∀ q, q < N → (bfr f (sc - 1) (0 : Int).toNat q ↔ bfr f sc p.toNat q) := fun q hq => by
    unfold bfr
    constructor
    · rintro (w | w)
      · by_cases z : sc < f q
        · exact Or.inl z
        · exact Or.inr ⟨by omega, by omega⟩
      · exact absurd w.2 (by omega)
    · rintro (w | w)
      · exact Or.inl (by omega)
      · exact Or.inl (by omega)
  exact ⟨h.1.trans (ctp_cg N (fun q hq => (e q hq).symm)), fun q hq w => h.2 q hq ((e q hq).mp w)⟩
theorem lkW.fin {d sc p c : Int} (h : lkW f N d sc p c) (hp : p = 0) (hs : sc = 0) : c = ctp (fun p => 0 < f p) N ∧ ∀ q : Nat, q < N → 0 < f q → lkc f N (f q) q ≠ d := by
  subst hp; subst hs
  refine ⟨h.1.trans (ctp_cg N (fun q _ => ?_)), fun q hq w => h.2 q hq (Or.inl w)⟩
  unfold bfr
  exact ⟨fun w => w.elim id (fun w => absurd w.2 (by omega)), Or.inl⟩
end LK
/-- how many marks that go along with m are shown by p, which does not show m; of the first n marks -/
noncomputable def liN (s : xS) (e m n : Int) (p : Nat) : Int := pIf (shC s e (p : Int) m) 0 (ctp (fun k => alC s e m (k : Int) ∧ shC s e (p : Int) (k : Int)) n.toNat)
theorem liN_0 {s : xS} {e m : Int} {p : Nat} : liN s e m 0 p = 0 := by
  unfold liN
  by_cases q : shC s e (p : Int) m
  · exact pIf_y q
  · exact pIf_n q
theorem liN_s {s : xS} {e m n : Int} {p : Nat} (hn : 0 ≤ n) : liN s e m (n + 1) p = liN s e m n p + pIf (alC s e m n ∧ ¬ shC s e (p : Int) m ∧ shC s e (p : Int) n) 1 0 := by
  have cs := ctp_s (fun k => alC s e m (k : Int) ∧ shC s e (p : Int) (k : Int)) hn
  rw [show ((n.toNat : Nat) : Int) = n by omega] at cs
  unfold liN
  by_cases q : shC s e (p : Int) m
  · rw [pIf_y q, pIf_y q, pIf_n (fun w => w.2.1 q)]; rfl
  · rw [pIf_n q, pIf_n q]
    by_cases w : alC s e m n ∧ shC s e (p : Int) n
    · rw [cs.1 w, pIf_y ⟨w.1, q, w.2⟩]
    · rw [cs.2 w, pIf_n (fun z => w ⟨z.1, z.2.2⟩)]; omega
theorem liN_b {s : xS} {e m n : Int} {p : Nat} (hn : 0 ≤ n) : 0 ≤ liN s e m n p ∧ liN s e m n p ≤ n := by
  have h1 := (ctp_ge (P := fun k => alC s e m (k : Int) ∧ shC s e (p : Int) (k : Int)) n.toNat).1
  have h2 := ctp_le (P := fun k => alC s e m (k : Int) ∧ shC s e (p : Int) (k : Int)) n.toNat
  unfold liN
  by_cases q : shC s e (p : Int) m
  · rw [pIf_y q]; omega
  · rw [pIf_n q]; omega
theorem liN_c {s : xS} {e m n : Int} {p : Nat} : liN s e m n p ≤ ctp (fun k => alC s e m (k : Int)) n.toNat := by
  have h1 := (ctp_ge (P := fun k => alC s e m (k : Int)) n.toNat).1
  have h2 := ctp_sub (P := fun k => alC s e m (k : Int) ∧ shC s e (p : Int) (k : Int)) (Q := fun k => alC s e m (k : Int)) n.toNat (fun k _ w => w.1)
  unfold liN
  by_cases q : shC s e (p : Int) m
  · rw [pIf_y q]; omega
  · rw [pIf_n q]; omega
def LkS (s : xS) (a b d z : Int) : Prop := (¬ (0 ≤ a ∧ a < s 1 4) ∧ z = -1001) ∨ ((0 ≤ a ∧ a < s 1 4) ∧ ¬ (0 ≤ b ∧ b ≤ s 0 10) ∧ z = -1002) ∨ ((0 ≤ a ∧ a < s 1 4) ∧ (0 ≤ b ∧ b ≤ s 0 10) ∧ lkS (liN s b a (s 1 4)) (s 46 3).toNat d z)
theorem LkS.u {s : xS} {a b d z1 z2 : Int} (h1 : LkS s a b d z1) (h2 : LkS s a b d z2) : z1 = z2 := by
  rcases h1 with ⟨a1, a2⟩ | ⟨a1, a2, a3⟩ | ⟨a1, a2, a3⟩ <;> rcases h2 with ⟨b1, b2⟩ | ⟨b1, b2, b3⟩ | ⟨b1, b2, b3⟩
  case inr.inr.inr.inr => exact a3.u b3
  all_goals omega
theorem VE.li {s σ : xS} (v : VE s σ) (h46 : s 46 3 = σ 46 3) (e m n : Int) (p : Nat) : liN s e m n p = liN σ e m n p :=
  pIf_c (v.sh _ _ _) rfl (ctp_cg _ (fun k _ => and_congr (v.ag h46 _ _ _) (v.sh _ _ _)))
theorem LkS.fl {L : List Nat} {s s' : xS} {a b d z : Int} (h : LkS s' a b d z) (hG : GI s) (f : FL L s s') (hL : ∀ x ∈ 452 :: LVQ, x ∉ L) : LkS s a b d z := by
  have v := f.ve hG (fun x hx => hL x (by revert x; decide))
  have e2 : s' 0 10 = s 0 10 := f 0 10 (hL 11 (by decide))
  have e3 : s' 46 3 = s 46 3 := f 46 3 (hL 452 (by decide))
  have e1 := v.1.1
  unfold LkS at h ⊢
  rw [e1, e2, e3] at h
  rcases h with h | h | ⟨h1, h2, h3⟩
  · exact Or.inl h
  · exact Or.inr (Or.inl h)
  · exact Or.inr (Or.inr ⟨h1, h2, h3.cg (fun p _ => v.li e3 _ _ _ _)⟩)
