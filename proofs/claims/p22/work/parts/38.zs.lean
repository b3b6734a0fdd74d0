/-! asks: the row that a text spells -/
/-- a pile in an array, its top the list's head -/
def stl (f : Nat → Int) : List Int → Prop
  | [] => True
  | x :: l => f l.length = x ∧ stl f l
theorem stl.cg {f g : Nat → Int} : ∀ {l : List Int}, stl f l → (∀ j : Nat, j < l.length → g j = f j) → stl g l := by
  intro l
  induction l with
  | nil => intro _ _; trivial
  | cons x l ih =>
    intro h e
    exact ⟨(e l.length (by rw [List.length_cons]; omega)).trans h.1, ih h.2 (fun j hj => e j (by rw [List.length_cons]; omega))⟩
theorem stl.eq {f g : Nat → Int} : ∀ {l : List Int}, stl f l → stl g l → ∀ j : Nat, j < l.length → f j = g j := by
  intro l
  induction l with
  | nil => intro _ _ j hj; exact absurd hj (Nat.not_lt_zero j)
  | cons x l ih =>
    intro h h' j hj
    rw [List.length_cons] at hj
    by_cases e : j = l.length
    · rw [e, h.1, h'.1]
    · exact ih h.2 h'.2 j (by omega)
theorem stl.push {f g : Nat → Int} {l : List Int} {x : Int} (h : stl f l) (e : ∀ j : Nat, g j = if j = l.length then x else f j) : stl g (x :: l) :=
  ⟨by rw [e, if_pos rfl], h.cg (fun j hj => by rw [e, if_neg (by omega)])⟩
/-- signs that wait and bind at least as close as m go into the row -/
def rel (m : Int) : List Int → List Int → List Int × List Int
  | [], r => ([], r)
  | x :: l, r => if m ≤ x then rel m l (1000 * x :: r) else (x :: l, r)
theorem rel_y {m x : Int} {l r : List Int} (h : m ≤ x) : rel m (x :: l) r = rel m l (1000 * x :: r) := by rw [rel, if_pos h]
theorem rel_n {m x : Int} {l r : List Int} (h : ¬ m ≤ x) : rel m (x :: l) r = (x :: l, r) := by rw [rel, if_neg h]
theorem rel_len {m : Int} : ∀ (l r : List Int), (rel m l r).1.length + (rel m l r).2.length = l.length + r.length := by
  intro l
  induction l with
  | nil => intro r; rfl
  | cons x l ih =>
    intro r
    by_cases h : m ≤ x
    · rw [rel_y h, ih, List.length_cons, List.length_cons]; omega
    · rw [rel_n h]
theorem rel_rel {m m' : Int} (hm : m ≤ m') : ∀ (l r : List Int), rel m (rel m' l r).1 (rel m' l r).2 = rel m l r := by
  intro l
  induction l with
  | nil => intro r; rfl
  | cons x l ih =>
    intro r
    by_cases h : m' ≤ x
    · rw [rel_y h, rel_y (show m ≤ x by omega), ih]
    · rw [rel_n h]
/-- a leaf's number, as a code holds it (q: behind the leaf's word) -/
def lnv (T : Nat → Int) (n q k : Int) : Int := if k = 2 then 100 * nva T n q + nva T n (nx T n q) else nva T n q
def lfc (T : Nat → Int) (n p : Int) : Int := 1000 * lkd T n p + lnv T n (nx T n p) (lkd T n p)
/-- what a step does to the signs that wait and to the row -/
def axs (T : Nat → Int) (n w p : Int) (q : List Int × List Int) : List Int × List Int :=
  if w = 1 then (if wv T n p = 10631 then (9 :: q.1, q.2) else if ch T n p = 40 then (6 :: q.1, q.2) else rel 9 q.1 (lfc T n p :: q.2))
  else if wv T n p = 1111 then (8 :: (rel 8 q.1 q.2).1, (rel 8 q.1 q.2).2) else if wv T n p = 423 then (7 :: (rel 7 q.1 q.2).1, (rel 7 q.1 q.2).2)
  else rel 9 (rel 7 q.1 q.2).1.tail (rel 7 q.1 q.2).2
def axc (T : Nat → Int) (n : Int) : Nat → List Int × List Int
  | 0 => ([], [])
  | k + 1 => axs T n (acf T n k).1 (acf T n k).2.2 (axc T n k)
/-- no fault so far: where the reading stands, what waits, the row -/
def AX (T : Nat → Int) (n w o p : Int) (l r : List Int) : Prop := ∃ k : Nat, OkA T n k ∧ acf T n k = (w, o, p) ∧ axc T n k = (l, r)
def ADX (T : Nat → Int) (n : Int) (row : List Int) : Prop := ∃ (w o p : Int) (l r : List Int), AX T n w o p l r ∧ asE n w o p ∧ row = (rel 7 l r).2
theorem AX.ai {T : Nat → Int} {n w o p : Int} {l r : List Int} (h : AX T n w o p l r) : AI T n w o p := by
  obtain ⟨k, h1, h2, _⟩ := h
  exact ⟨k, h1, h2⟩
theorem AX_0 {T : Nat → Int} {n : Int} : AX T n 1 0 (sk T n 0) [] [] := ⟨0, fun j hj => absurd hj (Nat.not_lt_zero j), rfl, rfl⟩
theorem AX.step {T : Nat → Int} {n w o p w' o' p' : Int} {l r : List Int} {q : List Int × List Int} (h : AX T n w o p l r) (hf : asf T n w o p = 0) (he : ¬ asE n w o p) (ew : asw T n w p = w') (eo : aso T n w o p = o') (ep : asn T n w p = p') (es : axs T n w p (l, r) = q) : AX T n w' o' p' q.1 q.2 := by
  obtain ⟨k, h1, h2, h3⟩ := h
  refine ⟨k + 1, fun j hj => ?_, ?_, ?_⟩
  · by_cases e : j = k
    · rw [e, h2]; exact ⟨hf, he⟩
    · exact h1 j (by omega)
  · show (asw T n (acf T n k).1 (acf T n k).2.2, aso T n (acf T n k).1 (acf T n k).2.1 (acf T n k).2.2, asn T n (acf T n k).1 (acf T n k).2.2) = _
    rw [h2, ← ew, ← eo, ← ep]
  · show axs T n (acf T n k).1 (acf T n k).2.2 (axc T n k) = _
    rw [h2, h3, ← es]
theorem ADX_u {T : Nat → Int} {n : Int} {a b : List Int} (h : ADX T n a) (h' : ADX T n b) : a = b := by
  obtain ⟨w, o, p, l, r, ⟨k, k1, k2, k3⟩, a1, a2⟩ := h
  obtain ⟨w', o', p', l', r', ⟨k', k1', k2', k3'⟩, a1', a2'⟩ := h'
  have e := OkA_u k1 k1' (Or.inr (by rw [k2]; exact a1)) (Or.inr (by rw [k2']; exact a1'))
  subst e
  rw [k3] at k3'
  injection k3' with e1 e2
  rw [a2, a2', e1, e2]
section AXS
variable {T : Nat → Int} {n o p : Int} {l r : List Int}
theorem AX.sn (h : AX T n 1 o p l r) (hw : wv T n p = 10631) : AX T n 1 o (nx T n p) (9 :: l) r := by
  refine h.step (q := (9 :: l, r)) ?_ (fun w => w.1 rfl) ?_ ?_ ?_ ?_
  · unfold asf; rw [if_pos rfl, if_pos hw]
  · unfold asw; rw [if_pos rfl, if_pos (Or.inl hw)]
  · unfold aso; rw [if_pos rfl, if_pos hw]
  · unfold asn; rw [if_pos rfl, if_pos (Or.inl hw)]
  · unfold axs; rw [if_pos rfl, if_pos hw]
theorem AX.op (h : AX T n 1 o p l r) (hc : ch T n p = 40) (ho : o < 5) : AX T n 1 (o + 1) (nx T n p) (6 :: l) r := by
  have hs := ch_sg hc (by decide) (by decide) (by decide)
  have hw : wv T n p ≠ 10631 := by omega
  refine h.step (q := (6 :: l, r)) ?_ (fun w => w.1 rfl) ?_ ?_ ?_ ?_
  · unfold asf; rw [if_pos rfl, if_neg hw, if_pos hc, if_neg (by omega)]
  · unfold asw; rw [if_pos rfl, if_pos (Or.inr hc)]
  · unfold aso; rw [if_pos rfl, if_neg hw, if_pos hc]
  · unfold asn; rw [if_pos rfl, if_pos (Or.inr hc)]
  · unfold axs; rw [if_pos rfl, if_neg hw, if_pos hc]
theorem AX.lf (h : AX T n 1 o p l r) (hw : wv T n p ≠ 10631) (hc : ch T n p ≠ 40) (hf : lff T n p = 0) : AX T n 0 o (lfn T n p) (rel 9 l (lfc T n p :: r)).1 (rel 9 l (lfc T n p :: r)).2 := by
  have hn : ¬ (wv T n p = 10631 ∨ ch T n p = 40) := fun w => w.elim hw hc
  refine h.step ?_ (fun w => w.1 rfl) ?_ ?_ ?_ ?_
  · unfold asf; rw [if_pos rfl, if_neg hw, if_neg hc]; exact hf
  · unfold asw; rw [if_pos rfl, if_neg hn]
  · unfold aso; rw [if_pos rfl, if_neg hw, if_neg hc]
  · unfold asn; rw [if_pos rfl, if_neg hn]
  · unfold axs; rw [if_pos rfl, if_neg hw, if_neg hc]
theorem AX.jn {m : Int} (h : AX T n 0 o p l r) (hw : (wv T n p = 1111 ∧ m = 8) ∨ (wv T n p = 423 ∧ m = 7)) : AX T n 1 o (nx T n p) (m :: (rel m l r).1) (rel m l r).2 := by
  have hl := wv_lt (T := T) (n := n) (p := p) (by omega)
  have h01 : ¬ ((0 : Int) = 1) := by decide
  have hq : wv T n p = 1111 ∨ wv T n p = 423 := by omega
  refine h.step (q := (m :: (rel m l r).1, (rel m l r).2)) ?_ (fun w => by have := w.2.2; omega) ?_ ?_ ?_ ?_
  · unfold asf; rw [if_neg h01, if_pos hq]
  · unfold asw; rw [if_neg h01, if_pos hq]
  · unfold aso; rw [if_neg h01, if_pos hq]
  · unfold asn; rw [if_neg h01]
  · unfold axs
    rcases hw with ⟨hw, e⟩ | ⟨hw, e⟩
    · rw [if_neg h01, if_pos hw, e]
    · rw [if_neg h01, if_neg (by omega), if_pos hw, e]
theorem AX.cl (h : AX T n 0 o p l r) (hc : ch T n p = 41) (ho : 0 < o) : AX T n 0 (o - 1) (nx T n p) (rel 9 (rel 7 l r).1.tail (rel 7 l r).2).1 (rel 9 (rel 7 l r).1.tail (rel 7 l r).2).2 := by
  have hs := ch_sg hc (by decide) (by decide) (by decide)
  have hw : ¬ (wv T n p = 1111 ∨ wv T n p = 423) := by omega
  have h01 : ¬ ((0 : Int) = 1) := by decide
  refine h.step ?_ (fun w => by have := w.2.1; omega) ?_ ?_ ?_ ?_
  · unfold asf; rw [if_neg h01, if_neg hw, if_pos ⟨hc, ho⟩]
  · unfold asw; rw [if_neg h01, if_neg hw]
  · unfold aso; rw [if_neg h01, if_neg hw]
  · unfold asn; rw [if_neg h01]
  · unfold axs; rw [if_neg h01, if_neg (by omega), if_neg (by omega)]
theorem AX.fin (h : AX T n 0 o p l r) (ho : o ≤ 0) (hp : n ≤ p) : ADX T n (rel 7 l r).2 := ⟨0, o, p, l, r, h, ⟨by decide, ho, hp⟩, rfl⟩
end AXS
/-! depth: how many sets lie on the pile behind a row -/
def dpl : List Int → Int
  | [] => 0
  | c :: r => dpl r + (if c < 6000 then 1 else if 9000 ≤ c then 0 else -1)
def okc (c : Int) : Prop := (1000 ≤ c ∧ c < 6000 ∧ (c < 2000 → c ≤ 1039) ∧ (2000 ≤ c → c < 3000 → c ≤ 2399) ∧ (3000 ≤ c → c < 4000 → c ≤ 3007) ∧ (5000 ≤ c → c ≤ 5009)) ∨ c = 7000 ∨ c = 8000 ∨ c = 9000
def wfl : List Int → Prop
  | [] => True
  | c :: r => wfl r ∧ okc c ∧ (6000 ≤ c → 1 ≤ dpl r) ∧ (6000 ≤ c → c < 9000 → 2 ≤ dpl r)
def bin : List Int → Int
  | [] => 0
  | x :: l => bin l + (if x = 7 ∨ x = 8 then 1 else 0)
def op6 : List Int → Int
  | [] => 0
  | x :: l => op6 l + (if x = 6 then 1 else 0)
def in69 (l : List Int) : Prop := ∀ x : Int, x ∈ l → 6 ≤ x ∧ x ≤ 9
theorem bin_b : ∀ l : List Int, 0 ≤ bin l := by
  intro l
  induction l with
  | nil => exact Int.le_refl _
  | cons x l ih => rw [bin]; split <;> omega
theorem op6_b : ∀ l : List Int, 0 ≤ op6 l := by
  intro l
  induction l with
  | nil => exact Int.le_refl _
  | cons x l ih => rw [op6]; split <;> omega
theorem in69.tl {x : Int} {l : List Int} (h : in69 (x :: l)) : in69 l := fun y hy => h y (List.mem_cons_of_mem x hy)
theorem in69.hd {x : Int} {l : List Int} (h : in69 (x :: l)) : 6 ≤ x ∧ x ≤ 9 := h x (List.mem_cons_self)
theorem in69.cons {x : Int} {l : List Int} (h : in69 l) (hx : 6 ≤ x ∧ x ≤ 9) : in69 (x :: l) := fun y hy => by
  rcases List.mem_cons.mp hy with e | e
  · rw [e]; exact hx
  · exact h y e
theorem rel_ok {m : Int} (hm : 7 ≤ m) : ∀ (l r : List Int), in69 l → wfl r → dpl r = bin l + 1 → in69 (rel m l r).1 ∧ wfl (rel m l r).2 ∧ dpl (rel m l r).2 = bin (rel m l r).1 + 1 ∧ op6 (rel m l r).1 = op6 l ∧ ((rel m l r).1 = [] ∨ ∃ x t, (rel m l r).1 = x :: t ∧ x < m) := by
  intro l
  induction l with
  | nil => intro r h1 h2 h3; exact ⟨h1, h2, h3, rfl, Or.inl rfl⟩
  | cons x l ih =>
    intro r h1 h2 h3
    by_cases h : m ≤ x
    · have hx := h1.hd
      have hb := bin_b l
      rw [rel_y h]
      rw [bin] at h3
      have e6 : op6 (x :: l) = op6 l := by rw [op6, if_neg (by omega)]; omega
      rw [e6]
      refine ih (1000 * x :: r) h1.tl ⟨h2, ?_, fun _ => ?_, fun _ q => ?_⟩ ?_
      · unfold okc; omega
      · split at h3 <;> omega
      · rw [if_pos (by omega)] at h3; omega
      · rw [dpl, if_neg (by omega)]
        by_cases q : x = 9
        · rw [if_pos (by omega)]; rw [if_neg (by omega)] at h3; omega
        · rw [if_neg (by omega)]; rw [if_pos (by omega)] at h3; omega
    · rw [rel_n h]
      exact ⟨h1, h2, h3, rfl, Or.inr ⟨x, l, rfl, by omega⟩⟩
theorem rel_all : ∀ (l r : List Int), in69 l → op6 l = 0 → (rel 7 l r).1 = [] := by
  intro l
  induction l with
  | nil => intro r _ _; rfl
  | cons x l ih =>
    intro r h1 h2
    rw [op6] at h2
    have hb := op6_b l
    have hx := h1.hd
    by_cases q : x = 6
    · rw [if_pos q] at h2; omega
    · rw [if_neg q] at h2
      rw [rel_y (by omega)]
      exact ih _ h1.tl (by omega)
theorem numf_z {T : Nat → Int} {n p lo hi g flt : Int} (h : numf T n p lo hi g flt = 0) (hf : flt ≠ 0) : lo ≤ nva T n p ∧ nva T n p ≤ hi := by
  unfold numf at h
  unfold nva
  split at h
  · omega
  · split at h
    · omega
    · split at h
      · assumption
      · omega
theorem lfc_ok {T : Nat → Int} {n p : Int} (h : lff T n p = 0) : okc (lfc T n p) ∧ lfc T n p < 6000 := by
  have lc : (lkd T n p = 1 ∨ lkd T n p = 2 ∨ lkd T n p = 3 ∨ lkd T n p = 4 ∨ lkd T n p = 5) ∨ lkd T n p = -1 := by
    have := lkw_cs (wv T n p)
    have e : lkw (wv T n p) = lkd T n p := rfl
    rw [e] at this
    omega
  unfold lff at h
  rcases lc with lc | lc
  · rw [if_neg (by omega)] at h
    by_cases q : numf T n (nx T n p) 0 (lhi (lkd T n p)) 3 2 = 0
    · rw [if_neg (fun w => w q)] at h
      have b1 := numf_z q (by decide)
      rcases lc with e | e | e | e | e <;> rw [e] at h b1 <;> unfold lfc lnv <;> rw [e]
      · rw [if_neg (by decide)]; have e2 : lhi 1 = 39 := rfl; rw [e2] at b1; unfold okc; omega
      · rw [if_pos rfl]; rw [if_pos rfl] at h; have b2 := numf_z h (by decide); have e2 : lhi 2 = 3 := rfl; rw [e2] at b1; unfold okc; omega
      · rw [if_neg (by decide)]; have e2 : lhi 3 = 7 := rfl; rw [e2] at b1; unfold okc; omega
      · rw [if_neg (by decide)]; have e2 : lhi 4 = 999 := rfl; rw [e2] at b1; unfold okc; omega
      · rw [if_neg (by decide)]; have e2 : lhi 5 = 9 := rfl; rw [e2] at b1; unfold okc; omega
    · rw [if_pos q] at h; exact absurd h q
  · rw [if_pos lc] at h; omega
theorem nx_b {T : Nat → Int} {n p : Int} : p ≤ nx T n p ∧ (p ≤ n → nx T n p ≤ n) ∧ (p < n → p < nx T n p) := by
  have h1 := te_le (T := T) (n := n) (p := p)
  have h2 := sk_le (T := T) (n := n) (p := te T n p)
  unfold nx
  exact ⟨by omega, fun q => h2.2 (h1.2.1 q), fun q => by have := h1.2.2 q; omega⟩
theorem lfn_b {T : Nat → Int} {n p : Int} (h : p < n) : p < lfn T n p ∧ lfn T n p ≤ n := by
  have h1 := nx_b (T := T) (n := n) (p := p)
  have h2 := nx_b (T := T) (n := n) (p := nx T n p)
  have h3 := nx_b (T := T) (n := n) (p := nx T n (nx T n p))
  have q1 := h1.2.1 (by omega)
  have q2 := h2.2.1 q1
  have q3 := h3.2.1 q2
  have q4 := h1.2.2 h
  unfold lfn
  split <;> omega
theorem lff_lt {T : Nat → Int} {n p : Int} (h : lff T n p = 0) : p < n := by
  have lc := lkw_cs (wv T n p)
  have e : lkw (wv T n p) = lkd T n p := rfl
  refine wv_lt (T := T) (n := n) (p := p) (fun w => ?_)
  unfold lff at h
  rw [if_pos (by rw [e] at lc; omega)] at h
  omega
/-- what holds of every place in the reading -/
def axI (n w o p : Int) (l r : List Int) : Prop := (w = 0 ∨ w = 1) ∧ (0 ≤ p ∧ p ≤ n) ∧ in69 l ∧ wfl r ∧ dpl r + w = bin l + 1 ∧ op6 l = o ∧ (l.length : Int) + r.length ≤ p
theorem axI_s {T : Nat → Int} {n w o p : Int} {l r : List Int} (h : axI n w o p l r) (hf : asf T n w o p = 0) (he : ¬ asE n w o p) : axI n (asw T n w p) (aso T n w o p) (asn T n w p) (axs T n w p (l, r)).1 (axs T n w p (l, r)).2 := by
  obtain ⟨h1, h2, h3, h4, h5, h6, h7⟩ := h
  have nb := nx_b (T := T) (n := n) (p := p)
  have lb := lfn_b (T := T) (n := n) (p := p)
  have hb := bin_b l
  unfold asf at hf
  unfold asw aso asn axs
  by_cases w1 : w = 1
  · rw [if_pos w1] at hf ⊢
    rw [if_pos w1, if_pos w1, if_pos w1]
    by_cases q1 : wv T n p = 10631
    · have hl := wv_lt (T := T) (n := n) (p := p) (by omega)
      have n1 := nb.2.2 hl
      rw [if_pos (Or.inl q1), if_pos q1, if_pos (Or.inl q1), if_pos q1]
      refine ⟨Or.inr rfl, ⟨by omega, nb.2.1 h2.2⟩, h3.cons ⟨by decide, by decide⟩, h4, ?_, ?_, ?_⟩
      · show dpl r + 1 = bin (9 :: l) + 1
        rw [bin, if_neg (by decide)]; omega
      · show op6 (9 :: l) = o
        rw [op6, if_neg (by decide)]; omega
      · show (((9 :: l : List Int).length : Nat) : Int) + r.length ≤ _
        rw [List.length_cons]; omega
    · rw [if_neg q1] at hf ⊢
      by_cases q2 : ch T n p = 40
      · have hs := ch_sg q2 (by decide) (by decide) (by decide)
        have n1 := nb.2.2 hs.2.2.1
        rw [if_pos (Or.inr q2), if_pos q2, if_pos (Or.inr q2), if_neg q1, if_pos q2]
        refine ⟨Or.inr rfl, ⟨by omega, nb.2.1 h2.2⟩, h3.cons ⟨by decide, by decide⟩, h4, ?_, ?_, ?_⟩
        · show dpl r + 1 = bin (6 :: l) + 1
          rw [bin, if_neg (by decide)]; omega
        · show op6 (6 :: l) = o + 1
          rw [op6, if_pos rfl]; omega
        · show (((6 :: l : List Int).length : Nat) : Int) + r.length ≤ _
          rw [List.length_cons]; omega
      · have hn : ¬ (wv T n p = 10631 ∨ ch T n p = 40) := fun z => z.elim q1 q2
        rw [if_neg q2] at hf
        have lo := lfc_ok hf
        have l1 := lb (lff_lt hf)
        rw [if_neg hn, if_neg q2, if_neg hn, if_neg q1, if_neg q2]
        have ro := rel_ok (m := 9) (by decide) l (lfc T n p :: r) h3 ⟨h4, lo.1, fun z => by omega, fun z => by omega⟩ (by rw [dpl, if_pos lo.2]; omega)
        have rl := rel_len (m := 9) l (lfc T n p :: r)
        rw [List.length_cons] at rl
        show axI n 0 o (lfn T n p) (rel 9 l (lfc T n p :: r)).1 (rel 9 l (lfc T n p :: r)).2
        exact ⟨Or.inl rfl, ⟨by omega, l1.2⟩, ro.1, ro.2.1, by omega, by omega, by omega⟩
  · have w0 : w = 0 := by omega
    rw [if_neg w1] at hf ⊢
    rw [if_neg w1, if_neg w1, if_neg w1]
    by_cases q1 : wv T n p = 1111 ∨ wv T n p = 423
    · have hl := wv_lt (T := T) (n := n) (p := p) (by omega)
      have n1 := nb.2.2 hl
      rw [if_pos q1, if_pos q1]
      have key : ∀ m : Int, m = 7 ∨ m = 8 → axI n 1 o (nx T n p) (m :: (rel m l r).1) (rel m l r).2 := fun m hm => by
        have ro := rel_ok (m := m) (by omega) l r h3 h4 (by omega)
        have rl := rel_len (m := m) l r
        refine ⟨Or.inr rfl, ⟨by omega, nb.2.1 h2.2⟩, ro.1.cons (by omega), ro.2.1, ?_, ?_, ?_⟩
        · rw [bin, if_pos hm]; omega
        · rw [op6, if_neg (by omega)]; omega
        · rw [List.length_cons]; omega
      by_cases q3 : wv T n p = 1111
      · rw [if_pos q3]; exact key 8 (Or.inr rfl)
      · rw [if_neg q3, if_pos (by omega)]; exact key 7 (Or.inl rfl)
    · rw [if_neg q1] at hf ⊢
      rw [if_neg q1, if_neg (by omega), if_neg (by omega)]
      by_cases q2 : ch T n p = 41 ∧ 0 < o
      · have hs := ch_sg q2.1 (by decide) (by decide) (by decide)
        have n1 := nb.2.2 hs.2.2.1
        have ro := rel_ok (m := 7) (by decide) l r h3 h4 (by omega)
        have rl := rel_len (m := 7) l r
        obtain ⟨a1, a2, a3, a4, a5⟩ := ro
        rcases a5 with a5 | ⟨x, t, a5, a6⟩
        · rw [a5] at a4
          have e0 : op6 [] = 0 := rfl
          omega
        · rw [a5] at a1 a3 a4 rl ⊢
          have x6 : x = 6 := by have := a1.hd; omega
          rw [bin, if_neg (by omega)] at a3
          rw [op6, if_pos x6] at a4
          rw [List.length_cons] at rl
          have so := rel_ok (m := 9) (by decide) t (rel 7 l r).2 a1.tl a2 (by omega)
          have sl := rel_len (m := 9) t (rel 7 l r).2
          show axI n 0 (o - 1) (nx T n p) (rel 9 t (rel 7 l r).2).1 (rel 9 t (rel 7 l r).2).2
          exact ⟨Or.inl rfl, ⟨by omega, nb.2.1 h2.2⟩, so.1, so.2.1, by omega, by omega, by omega⟩
      · rw [if_neg q2] at hf; omega
theorem AX.inv {T : Nat → Int} {n w o p : Int} {l r : List Int} (h : AX T n w o p l r) (hn : 0 ≤ n) : axI n w o p l r := by
  obtain ⟨k, h1, h2, h3⟩ := h
  have key : ∀ k : Nat, OkA T n k → axI n (acf T n k).1 (acf T n k).2.1 (acf T n k).2.2 (axc T n k).1 (axc T n k).2 := by
    intro k
    induction k with
    | zero =>
      intro _
      have s := sk_le (T := T) (n := n) (p := 0)
      exact ⟨Or.inr rfl, ⟨s.1, s.2 hn⟩, (fun x hx => by cases hx), trivial, rfl, rfl, by show ((0 : Nat) : Int) + ((0 : Nat) : Int) ≤ sk T n 0; omega⟩
    | succ k ih =>
      intro hk
      exact axI_s (ih (fun j hj => hk j (by omega))) (hk k (by omega)).1 (hk k (by omega)).2
  have q := key k h1
  rw [h2, h3] at q
  exact q
theorem ADX.ok {T : Nat → Int} {n : Int} {row : List Int} (h : ADX T n row) (hn : 0 ≤ n) : wfl row ∧ dpl row = 1 ∧ (row.length : Int) ≤ n := by
  obtain ⟨w, o, p, l, r, hx, he, e⟩ := h
  obtain ⟨h1, h2, h3, h4, h5, h6, h7⟩ := hx.inv hn
  have ro := rel_ok (m := 7) (by decide) l r h3 h4 (by have := he.1; omega)
  have ra := rel_all l r h3 (by have := he.2.1; have := op6_b l; omega)
  have rl := rel_len (m := 7) l r
  obtain ⟨a1, a2, a3, a4, a5⟩ := ro
  rw [ra] at a3 rl
  rw [e]
  have e0 : bin [] = 0 := rfl
  have e1 : ([] : List Int).length = 0 := rfl
  exact ⟨a2, by omega, by omega⟩
