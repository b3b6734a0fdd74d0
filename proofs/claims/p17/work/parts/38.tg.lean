/-! an ask, as its text spells it: a small machine over (w: wants one, o: open brackets, p: place) -/
def lkw (w : Int) : Int := if w = 257105 then 1 else if w = 464134 then 2 else if w = 158575 then 3 else if w = 31484543 then 4 else if w = 47 then 5 else -1
theorem lkw_cs (w : Int) : (lkw w = 1 ∧ w = 257105) ∨ (lkw w = 2 ∧ w = 464134) ∨ (lkw w = 3 ∧ w = 158575) ∨ (lkw w = 4 ∧ w = 31484543) ∨ (lkw w = 5 ∧ w = 47) ∨ (lkw w = -1 ∧ w ≠ 257105 ∧ w ≠ 464134 ∧ w ≠ 158575 ∧ w ≠ 31484543 ∧ w ≠ 47) := by
  unfold lkw
  split
  · omega
  · split
    · omega
    · split
      · omega
      · split
        · omega
        · split
          · omega
          · omega
def lkd (T : Nat → Int) (n p : Int) : Int := lkw (wv T n p)
def lhi (k : Int) : Int := if k = 1 then 39 else if k = 2 then 3 else if k = 3 then 7 else if k = 4 then 999 else 9
/-- a leaf's fault, its place, the place behind it -/
def lff (T : Nat → Int) (n p : Int) : Int := if lkd T n p = -1 then 1 else if numf T n (nx T n p) 0 (lhi (lkd T n p)) 3 2 ≠ 0 then numf T n (nx T n p) 0 (lhi (lkd T n p)) 3 2 else if lkd T n p = 2 then numf T n (nx T n (nx T n p)) 0 99 3 2 else 0
def lfp (T : Nat → Int) (n p : Int) : Int := if lkd T n p = -1 then p else if numf T n (nx T n p) 0 (lhi (lkd T n p)) 3 2 ≠ 0 then nx T n p else nx T n (nx T n p)
def lfn (T : Nat → Int) (n p : Int) : Int := if lkd T n p = 2 then nx T n (nx T n (nx T n p)) else nx T n (nx T n p)
/-- a step: its fault and place; what is wanted then, brackets open then, the place behind it -/
def asf (T : Nat → Int) (n w o p : Int) : Int := if w = 1 then (if wv T n p = 10631 then 0 else if ch T n p = 40 then (if 5 ≤ o then 5 else 0) else lff T n p) else if wv T n p = 1111 ∨ wv T n p = 423 then 0 else if ch T n p = 41 ∧ 0 < o then 0 else 1
def asp (T : Nat → Int) (n w p : Int) : Int := if w = 1 then (if wv T n p = 10631 ∨ ch T n p = 40 then p else lfp T n p) else p
def asw (T : Nat → Int) (n w p : Int) : Int := if w = 1 then (if wv T n p = 10631 ∨ ch T n p = 40 then 1 else 0) else if wv T n p = 1111 ∨ wv T n p = 423 then 1 else 0
def aso (T : Nat → Int) (n w o p : Int) : Int := if w = 1 then (if wv T n p = 10631 then o else if ch T n p = 40 then o + 1 else o) else if wv T n p = 1111 ∨ wv T n p = 423 then o else o - 1
def asn (T : Nat → Int) (n w p : Int) : Int := if w = 1 then (if wv T n p = 10631 ∨ ch T n p = 40 then nx T n p else lfn T n p) else nx T n p
def asE (n w o p : Int) : Prop := w ≠ 1 ∧ o ≤ 0 ∧ n ≤ p
def acf (T : Nat → Int) (n : Int) : Nat → Int × Int × Int
  | 0 => (1, 0, sk T n 0)
  | k + 1 => (asw T n (acf T n k).1 (acf T n k).2.2, aso T n (acf T n k).1 (acf T n k).2.1 (acf T n k).2.2, asn T n (acf T n k).1 (acf T n k).2.2)
def OkA (T : Nat → Int) (n : Int) (k : Nat) : Prop := ∀ j : Nat, j < k → asf T n (acf T n j).1 (acf T n j).2.1 (acf T n j).2.2 = 0 ∧ ¬ asE n (acf T n j).1 (acf T n j).2.1 (acf T n j).2.2
/-- no fault so far: where the reading stands -/
def AI (T : Nat → Int) (n w o p : Int) : Prop := ∃ k : Nat, OkA T n k ∧ acf T n k = (w, o, p)
/-- the first fault -/
def AF (T : Nat → Int) (n f g : Int) : Prop := ∃ w o p : Int, AI T n w o p ∧ ¬ asE n w o p ∧ asf T n w o p ≠ 0 ∧ f = asf T n w o p ∧ g = asp T n w p
/-- the end, without one -/
def AD (T : Nat → Int) (n : Int) : Prop := ∃ w o p : Int, AI T n w o p ∧ asE n w o p
theorem AI_0 {T : Nat → Int} {n : Int} : AI T n 1 0 (sk T n 0) := ⟨0, fun j hj => absurd hj (Nat.not_lt_zero j), rfl⟩
theorem AI.step {T : Nat → Int} {n w o p w' o' p' : Int} (h : AI T n w o p) (hf : asf T n w o p = 0) (he : ¬ asE n w o p) (ew : w' = asw T n w p) (eo : o' = aso T n w o p) (ep : p' = asn T n w p) : AI T n w' o' p' := by
  obtain ⟨k, h1, h2⟩ := h
  refine ⟨k + 1, fun j hj => ?_, ?_⟩
  · by_cases e : j = k
    · rw [e, h2]; exact ⟨hf, he⟩
    · exact h1 j (by omega)
  · show (asw T n (acf T n k).1 (acf T n k).2.2, aso T n (acf T n k).1 (acf T n k).2.1 (acf T n k).2.2, asn T n (acf T n k).1 (acf T n k).2.2) = _
    rw [h2, ew, eo, ep]
theorem OkA_u {T : Nat → Int} {n : Int} {k k' : Nat} (h : OkA T n k) (h' : OkA T n k') (e : asf T n (acf T n k).1 (acf T n k).2.1 (acf T n k).2.2 ≠ 0 ∨ asE n (acf T n k).1 (acf T n k).2.1 (acf T n k).2.2) (e' : asf T n (acf T n k').1 (acf T n k').2.1 (acf T n k').2.2 ≠ 0 ∨ asE n (acf T n k').1 (acf T n k').2.1 (acf T n k').2.2) : k = k' := by
  rcases Nat.lt_trichotomy k k' with q | q | q
  · obtain ⟨a, b⟩ := h' k q
    exact absurd a (e.elim id (fun w => absurd w b))
  · exact q
  · obtain ⟨a, b⟩ := h k' q
    exact absurd a (e'.elim id (fun w => absurd w b))
theorem AF_u {T : Nat → Int} {n f g f' g' : Int} (h : AF T n f g) (h' : AF T n f' g') : f = f' ∧ g = g' := by
  obtain ⟨w, o, p, ⟨k, k1, k2⟩, a1, a2, a3, a4⟩ := h
  obtain ⟨w', o', p', ⟨k', k1', k2'⟩, a1', a2', a3', a4'⟩ := h'
  have e := OkA_u k1 k1' (Or.inl (by rw [k2]; exact a2)) (Or.inl (by rw [k2']; exact a2'))
  subst e
  rw [k2] at k2'
  injection k2' with e1 e2
  injection e2 with e2 e3
  subst e1; subst e2; subst e3
  exact ⟨a3.trans a3'.symm, a4.trans a4'.symm⟩
theorem AF_AD {T : Nat → Int} {n f g : Int} (h : AF T n f g) (h' : AD T n) : False := by
  obtain ⟨w, o, p, ⟨k, k1, k2⟩, a1, a2, a3, a4⟩ := h
  obtain ⟨w', o', p', ⟨k', k1', k2'⟩, a1'⟩ := h'
  have e := OkA_u k1 k1' (Or.inl (by rw [k2]; exact a2)) (Or.inr (by rw [k2']; exact a1'))
  subst e
  rw [k2] at k2'
  injection k2' with e1 e2
  injection e2 with e2 e3
  subst e1; subst e2; subst e3
  exact a1 a1'
theorem ch_sg {T : Nat → Int} {n p c : Int} (h : ch T n p = c) (hc : 0 ≤ c) (h1 : ¬ (97 ≤ c ∧ c ≤ 122)) (h2 : ¬ (48 ≤ c ∧ c ≤ 57)) : kd T n p = 3 ∧ wv T n p = 0 ∧ p < n ∧ nx T n p = sk T n (p + 1) := by
  have kc := kd_cs (T := T) (n := n) (p := p)
  have hk : kd T n p = 3 ∧ p < n := by
    unfold ch at h
    split at h <;> omega
  refine ⟨hk.1, wv_0 (by omega), hk.2, ?_⟩
  unfold nx
  rw [te_3 hk.1]
theorem wv_lt {T : Nat → Int} {n p : Int} (h : wv T n p ≠ 0) : p < n := by
  have kc := kd_cs (T := T) (n := n) (p := p)
  have := (wv_kd h).1
  omega
section AIS
variable {T : Nat → Int} {n o p : Int}
theorem AI.sn (h : AI T n 1 o p) (hw : wv T n p = 10631) : AI T n 1 o (nx T n p) := by
  refine h.step ?_ (fun w => w.1 rfl) ?_ ?_ ?_
  · unfold asf; rw [if_pos rfl, if_pos hw]
  · unfold asw; rw [if_pos rfl, if_pos (Or.inl hw)]
  · unfold aso; rw [if_pos rfl, if_pos hw]
  · unfold asn; rw [if_pos rfl, if_pos (Or.inl hw)]
theorem AI.op (h : AI T n 1 o p) (hc : ch T n p = 40) (ho : o < 5) : AI T n 1 (o + 1) (nx T n p) := by
  have hs := ch_sg hc (by decide) (by decide) (by decide)
  have hw : wv T n p ≠ 10631 := by omega
  refine h.step ?_ (fun w => w.1 rfl) ?_ ?_ ?_
  · unfold asf; rw [if_pos rfl, if_neg hw, if_pos hc, if_neg (by omega)]
  · unfold asw; rw [if_pos rfl, if_pos (Or.inr hc)]
  · unfold aso; rw [if_pos rfl, if_neg hw, if_pos hc]
  · unfold asn; rw [if_pos rfl, if_pos (Or.inr hc)]
theorem AI.op5 (h : AI T n 1 o p) (hc : ch T n p = 40) (ho : 5 ≤ o) : AF T n 5 p := by
  have hs := ch_sg hc (by decide) (by decide) (by decide)
  have hw : wv T n p ≠ 10631 := by omega
  have e : asf T n 1 o p = 5 := by unfold asf; rw [if_pos rfl, if_neg hw, if_pos hc, if_pos ho]
  exact ⟨1, o, p, h, fun w => w.1 rfl, by omega, e.symm, by unfold asp; rw [if_pos rfl, if_pos (Or.inr hc)]⟩
theorem AI.lf (h : AI T n 1 o p) (hw : wv T n p ≠ 10631) (hc : ch T n p ≠ 40) (hf : lff T n p = 0) : AI T n 0 o (lfn T n p) := by
  have hn : ¬ (wv T n p = 10631 ∨ ch T n p = 40) := fun w => w.elim hw hc
  refine h.step ?_ (fun w => w.1 rfl) ?_ ?_ ?_
  · unfold asf; rw [if_pos rfl, if_neg hw, if_neg hc]; exact hf
  · unfold asw; rw [if_pos rfl, if_neg hn]
  · unfold aso; rw [if_pos rfl, if_neg hw, if_neg hc]
  · unfold asn; rw [if_pos rfl, if_neg hn]
theorem AI.lfb (h : AI T n 1 o p) (hw : wv T n p ≠ 10631) (hc : ch T n p ≠ 40) (hf : lff T n p ≠ 0) : AF T n (lff T n p) (lfp T n p) := by
  have hn : ¬ (wv T n p = 10631 ∨ ch T n p = 40) := fun w => w.elim hw hc
  have e : asf T n 1 o p = lff T n p := by unfold asf; rw [if_pos rfl, if_neg hw, if_neg hc]
  exact ⟨1, o, p, h, fun w => w.1 rfl, by rw [e]; exact hf, e.symm, by unfold asp; rw [if_pos rfl, if_neg hn]⟩
theorem AI.jn (h : AI T n 0 o p) (hw : wv T n p = 1111 ∨ wv T n p = 423) : AI T n 1 o (nx T n p) := by
  have hl := wv_lt (T := T) (n := n) (p := p) (by omega)
  have h01 : ¬ ((0 : Int) = 1) := by decide
  refine h.step ?_ (fun w => by have := w.2.2; omega) ?_ ?_ ?_
  · unfold asf; rw [if_neg h01, if_pos hw]
  · unfold asw; rw [if_neg h01, if_pos hw]
  · unfold aso; rw [if_neg h01, if_pos hw]
  · unfold asn; rw [if_neg h01]
theorem AI.cl (h : AI T n 0 o p) (hc : ch T n p = 41) (ho : 0 < o) : AI T n 0 (o - 1) (nx T n p) := by
  have hs := ch_sg hc (by decide) (by decide) (by decide)
  have hw : ¬ (wv T n p = 1111 ∨ wv T n p = 423) := by omega
  have h01 : ¬ ((0 : Int) = 1) := by decide
  refine h.step ?_ (fun w => by have := w.2.1; omega) ?_ ?_ ?_
  · unfold asf; rw [if_neg h01, if_neg hw, if_pos ⟨hc, ho⟩]
  · unfold asw; rw [if_neg h01, if_neg hw]
  · unfold aso; rw [if_neg h01, if_neg hw]
  · unfold asn; rw [if_neg h01]
theorem AI.bad (h : AI T n 0 o p) (hw : wv T n p ≠ 1111 ∧ wv T n p ≠ 423) (hc : ¬ (ch T n p = 41 ∧ 0 < o)) (he : ¬ (o ≤ 0 ∧ n ≤ p)) : AF T n 1 p := by
  have h01 : ¬ ((0 : Int) = 1) := by decide
  have e : asf T n 0 o p = 1 := by unfold asf; rw [if_neg h01, if_neg (by omega), if_neg hc]
  exact ⟨0, o, p, h, fun w => he w.2, by omega, e.symm, by unfold asp; rw [if_neg h01]⟩
theorem AI.fin (h : AI T n 0 o p) (ho : o ≤ 0) (hp : n ≤ p) : AD T n := ⟨0, o, p, h, by decide, ho, hp⟩
end AIS
/-- the numbers of a leaf: their fault, its place, the place behind them (q: the token behind the leaf's word) -/
theorem lff_k {T : Nat → Int} {n p : Int} (h : lkd T n p = -1) : lff T n p = 1 ∧ lfp T n p = p := ⟨if_pos h, if_pos h⟩
theorem lff_1 {T : Nat → Int} {n p : Int} (h : lkd T n p ≠ -1) (h1 : numf T n (nx T n p) 0 (lhi (lkd T n p)) 3 2 ≠ 0) : lff T n p = numf T n (nx T n p) 0 (lhi (lkd T n p)) 3 2 ∧ lfp T n p = nx T n p := by
  unfold lff lfp
  rw [if_neg h, if_pos h1, if_neg h, if_pos h1]
  exact ⟨rfl, rfl⟩
theorem lff_2 {T : Nat → Int} {n p : Int} (h : lkd T n p = 2) (h1 : numf T n (nx T n p) 0 3 3 2 = 0) : lff T n p = numf T n (nx T n (nx T n p)) 0 99 3 2 ∧ lfp T n p = nx T n (nx T n p) ∧ lfn T n p = nx T n (nx T n (nx T n p)) := by
  have e : lhi 2 = 3 := rfl
  unfold lff lfp lfn
  rw [h, e, if_neg (by decide), if_neg (by omega), if_pos rfl, if_neg (by decide), if_neg (by omega), if_pos rfl]
  exact ⟨rfl, rfl, rfl⟩
theorem lff_0 {T : Nat → Int} {n p : Int} (h : lkd T n p ≠ -1) (h2 : lkd T n p ≠ 2) (h1 : numf T n (nx T n p) 0 (lhi (lkd T n p)) 3 2 = 0) : lff T n p = 0 ∧ lfn T n p = nx T n (nx T n p) := by
  unfold lff lfn
  rw [if_neg h, if_neg (by omega), if_neg h2, if_neg h2]
  exact ⟨rfl, rfl⟩
theorem wv_2 {T : Nat → Int} {n p : Int} (h : 26 < wv T n p) : p + 2 ≤ nx T n p := by
  obtain ⟨hk, ht⟩ := wv_kd (T := T) (n := n) (p := p) (by omega)
  have hl := (te_le (T := T) (n := n) (p := p)).2.2 (wv_lt (T := T) (n := n) (p := p) (by omega))
  have hs := (sk_le (T := T) (n := n) (p := te T n p)).1
  unfold nx
  by_cases e : te T n p = p + 1
  · exfalso
    have hi := rn_in (T := T) (n := n) (lo := 97) (hi := 122) (p := p) p (Int.le_refl p) (by omega)
    unfold wv at h
    rw [← ht, e, show (p + 1 - p).toNat = 0 + 1 by omega, wp, wp, if_neg (by decide), show p + ((0 : Nat) : Int) = p by omega] at h
    omega
  · omega
/-- what the class's reading of a leaf's numbers does -/
def LnC (s s' : xS) (k : Int) : Prop :=
  (s 177 5 ≠ 0 ∧ s' 177 5 = s 177 5 ∧ s' 177 6 = s 177 6) ∨
  (s 177 5 = 0 ∧ numf (s 178) (s 177 1) (s 177 3) 0 (lhi k) 3 2 = 0 ∧ k ≠ 2 ∧ s' 177 5 = 0 ∧ s' 177 6 = s 177 6 ∧ s' 177 3 = nx (s 178) (s 177 1) (s 177 3)) ∨
  (s 177 5 = 0 ∧ numf (s 178) (s 177 1) (s 177 3) 0 (lhi k) 3 2 = 0 ∧ k = 2 ∧ numf (s 178) (s 177 1) (nx (s 178) (s 177 1) (s 177 3)) 0 99 3 2 = 0 ∧ s' 177 5 = 0 ∧ s' 177 6 = s 177 6 ∧ s' 177 3 = nx (s 178) (s 177 1) (nx (s 178) (s 177 1) (s 177 3))) ∨
  (s 177 5 = 0 ∧ numf (s 178) (s 177 1) (s 177 3) 0 (lhi k) 3 2 = 0 ∧ k = 2 ∧ numf (s 178) (s 177 1) (nx (s 178) (s 177 1) (s 177 3)) 0 99 3 2 ≠ 0 ∧ s' 177 5 = numf (s 178) (s 177 1) (nx (s 178) (s 177 1) (s 177 3)) 0 99 3 2 ∧ s' 177 6 = nx (s 178) (s 177 1) (s 177 3)) ∨
  (s 177 5 = 0 ∧ numf (s 178) (s 177 1) (s 177 3) 0 (lhi k) 3 2 ≠ 0 ∧ s' 177 5 = numf (s 178) (s 177 1) (s 177 3) 0 (lhi k) 3 2 ∧ s' 177 6 = s 177 3)
/-- a leaf is read, or its fault is told -/
theorem LnC.lf {s1 s' : xS} {T : Nat → Int} {n o p : Int} (h : LnC s1 s' (lkd T n p)) (hT : s1 178 = T) (hn : s1 177 1 = n) (hp : s1 177 3 = nx T n p) (h5 : s1 177 5 = 0) (hk : lkd T n p ≠ -1) (ai : AI T n 1 o p) (hw : wv T n p ≠ 10631) (hc : ch T n p ≠ 40) :
    (s' 177 5 = 0 ∧ s' 177 6 = s1 177 6 ∧ AI T n 0 o (s' 177 3) ∧ nx T n p ≤ s' 177 3) ∨ (s' 177 5 ≠ 0 ∧ AF T n (s' 177 5) (s' 177 6)) := by
  unfold LnC at h
  rw [hT, hn, hp] at h
  have g1 := (te_le (T := T) (n := n) (p := nx T n p)).1
  have g2 := (sk_le (T := T) (n := n) (p := te T n (nx T n p))).1
  have g3 := (te_le (T := T) (n := n) (p := nx T n (nx T n p))).1
  have g4 := (sk_le (T := T) (n := n) (p := te T n (nx T n (nx T n p)))).1
  have f1 : sk T n (te T n (nx T n p)) = nx T n (nx T n p) := rfl
  have f2 : sk T n (te T n (nx T n (nx T n p))) = nx T n (nx T n (nx T n p)) := rfl
  rcases h with ⟨a1, _⟩ | ⟨a1, a2, a3, a4, a5, a6⟩ | ⟨a1, a2, a3, a4, a5, a6, a7⟩ | ⟨a1, a2, a3, a4, a5, a6⟩ | ⟨a1, a2, a3, a4⟩
  · exact absurd h5 a1
  · obtain ⟨l1, l2⟩ := lff_0 hk a3 a2
    left
    refine ⟨a4, a5, ?_, by omega⟩
    rw [a6, ← l2]
    exact ai.lf hw hc l1
  · rw [a3] at a2
    obtain ⟨l1, l2, l3⟩ := lff_2 a3 a2
    left
    refine ⟨a5, a6, ?_, by omega⟩
    rw [a7, ← l3]
    exact ai.lf hw hc (by omega)
  · rw [a3] at a2
    obtain ⟨l1, l2, l3⟩ := lff_2 a3 a2
    right
    refine ⟨by omega, ?_⟩
    rw [a5, a6, ← l1, ← l2]
    exact ai.lfb hw hc (by omega)
  · obtain ⟨l1, l2⟩ := lff_1 hk a2
    right
    refine ⟨by omega, ?_⟩
    rw [a3, a4, ← l1, ← l2]
    exact ai.lfb hw hc (by omega)
/-- what the class's ask does -/
def AkC (s s' : xS) (z : Int) : Prop :=
  (100 < s 177 1 ∧ z = -1003 ∧ s' = s) ∨ (s 177 1 ≤ 100 ∧ 8 ≤ s 218 6 ∧ z = -1004 ∧ s' = s) ∨
  (s 177 1 ≤ 100 ∧ s 218 6 < 8 ∧ s' 177 1 = 0 ∧ ((AD (s 178) (s 177 1) ∧ z = s 218 6 ∧ s' 218 6 = s 218 6 + 1 ∧ s' 0 11 = -1) ∨ (s' 177 5 ≠ 0 ∧ AF (s 178) (s 177 1) (s' 177 5) (s' 177 6) ∧ z = -10 - s' 177 5 ∧ s' 218 6 = s 218 6 ∧ s' 0 11 = s' 177 6)))
/-- what the reference's ask does -/
def AkR (s s' : xS) (z : Int) : Prop :=
  (100 < s 256 34 ∧ z = -1003 ∧ s' = s) ∨ (s 256 34 ≤ 100 ∧ s 256 43 = 8 ∧ z = -1004 ∧ s' = s) ∨
  (s 256 34 ≤ 100 ∧ s 256 43 ≠ 8 ∧ s' 256 34 = 0 ∧ ((AD (s 283) (s 256 34) ∧ z = s 256 43 ∧ s' 256 43 = s 256 43 + 1 ∧ s' 256 35 = -1) ∨ (∃ f, f ≠ 0 ∧ AF (s 283) (s 256 34) f (s' 256 35) ∧ z = -10 - f ∧ s' 256 43 = s 256 43)))
