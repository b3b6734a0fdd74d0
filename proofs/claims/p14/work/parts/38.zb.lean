/-! rules of both -/
/-- a clause's numbers, k its kind, r its rule -/
def okS (k a b r : Int) : Prop := (1 ≤ k ∧ k ≤ 6) ∧ (k = 6 → 0 ≤ a ∧ a < r) ∧ ((k = 1 ∨ k = 2 ∨ k = 3) → 0 ≤ a ∧ a ≤ 5) ∧ (k = 4 → 0 ≤ a ∧ a ≤ 39) ∧ (k = 5 → 1 ≤ a ∧ a ≤ 20) ∧ (k = 1 → 0 ≤ b ∧ b ≤ 2) ∧ (k = 3 → 0 ≤ b ∧ b ≤ 5) ∧ ((k = 2 ∨ k = 4) → 0 ≤ b ∧ b ≤ 39)
theorem numf_in {T : Nat → Int} {n p lo hi g flt : Int} (hf : flt ≠ 0) (h : numf T n p lo hi g flt = 0) : lo ≤ nva T n p ∧ nva T n p ≤ hi := by
  unfold numf at h
  unfold nva
  split at h
  · omega
  · split at h
    · omega
    · split at h
      · assumption
      · exact absurd h hf
theorem cl_ok {T : Nat → Int} {n p i R : Int} (h : clf T n p i R = 0) : okS (kwd T n p) (nva T n (nx T n p)) (s2v T n (nx T n (nx T n p)) (kwd T n p)) R := by
  have kc := kwd_cs T n p
  have h1 : kwd T n p ≠ -1 := fun w => by have := (cl_k (i := i) (R := R) w).1; omega
  have h8 : i < 8 := by
    by_cases w : 8 ≤ i
    · have := (cl_8 (R := R) h1 w).1; omega
    · omega
  have hf : f1f T n (nx T n p) (kwd T n p) R = 0 := by
    by_cases w : f1f T n (nx T n p) (kwd T n p) R = 0
    · exact w
    · have := (cl_1 h1 h8 w).1; omega
  have hs : s2f T n (nx T n (nx T n p)) (kwd T n p) = 0 := by
    by_cases w : s2f T n (nx T n (nx T n p)) (kwd T n p) = 0
    · exact w
    · have := (cl_2 h1 h8 hf w).1; omega
  have hk : kwd T n p = 1 ∨ kwd T n p = 2 ∨ kwd T n p = 3 ∨ kwd T n p = 4 ∨ kwd T n p = 5 ∨ kwd T n p = 6 := by omega
  generalize kwd T n p = k at hf hs hk ⊢
  generalize nx T n p = q at hf hs ⊢
  rcases hk with rfl | rfl | rfl | rfl | rfl | rfl
  · have a := numf_in (flt := 2) (by decide) (show numf T n q 0 5 2 2 = 0 from hf)
    have sc := sns_cs T n (nx T n q)
    have s1 := s2_1 T n (nx T n q)
    have hn : sns T n (nx T n q) ≠ -1 := fun w => by have := (s1.2 w).1; omega
    have := (s1.1 hn).2.1
    unfold okS
    omega
  · have a := numf_in (flt := 2) (by decide) (show numf T n q 0 5 2 2 = 0 from hf)
    have s1 := s2_2 T n (nx T n q)
    by_cases w : wv T n (nx T n q) = 11438892
    · obtain ⟨b1, b2, b3, b4⟩ := s1.1 w
      rw [b1] at hs
      have := numf_in (by decide) hs
      unfold okS
      omega
    · have := (s1.2 w).1; omega
  · have a := numf_in (flt := 2) (by decide) (show numf T n q 0 5 2 2 = 0 from hf)
    have s1 := s2_3 T n (nx T n q)
    by_cases w : wv T n (nx T n q) = 459818
    · obtain ⟨b1, b2, b3, b4⟩ := s1.1 w
      rw [b1] at hs
      have := numf_in (by decide) hs
      unfold okS
      omega
    · have := (s1.2 w).1; omega
  · have a := numf_in (flt := 2) (by decide) (show numf T n q 0 39 2 2 = 0 from hf)
    have s1 := s2_4 T n (nx T n q)
    by_cases w : wv T n (nx T n q) = 459818
    · obtain ⟨b1, b2, b3, b4⟩ := s1.1 w
      rw [b1] at hs
      have := numf_in (by decide) hs
      unfold okS
      omega
    · have := (s1.2 w).1; omega
  · have a := numf_in (flt := 2) (by decide) (show numf T n q 1 20 2 2 = 0 from hf)
    unfold okS
    omega
  · have a := numf_in (flt := 3) (by decide) (show numf T n q 0 (R - 1) 2 3 = 0 from hf)
    unfold okS
    omega
def R1 (s : xS) : Prop := (s 179 5 = s 256 17 ∧ s 256 17 ≤ 8) ∧ s 271 0 = 0 ∧ ∀ r : Int, 0 ≤ r → r < s 256 17 → s 180 r.toNat = s 270 r.toNat ∧ (0 ≤ s 271 r.toNat ∧ s 271 (r + 1).toNat = s 271 r.toNat + s 181 r.toNat) ∧ ∀ n : Int, 0 ≤ n → n < s 181 r.toNat → s (182 + 1 + r.toNat) n.toNat = s 272 (s 271 r.toNat + n).toNat + 1 ∧ s (191 + 1 + r.toNat) n.toNat = s 273 (s 271 r.toNat + n).toNat ∧ (s 272 (s 271 r.toNat + n).toNat ≤ 3 → s (200 + 1 + r.toNat) n.toNat = s 274 (s 271 r.toNat + n).toNat) ∧ okS (s (182 + 1 + r.toNat) n.toNat) (s (191 + 1 + r.toNat) n.toNat) (s (200 + 1 + r.toNat) n.toNat) r
def LR1 : List Nat := [1350, 5056, 4114, 1408, 4992, 1472, 1600, 1664, 1728, 1792, 1856, 5120, 5184, 5248]
theorem R1.fl {L : List Nat} {s s' : xS} (h : R1 s) (f : FL L s s') (hL : ∀ x ∈ LR1, x ∉ L) : R1 s' := by
  have a1 : s' 271 = s 271 := funext fun i => f 271 i (hL 5056 (by decide))
  have a2 : s' 256 17 = s 256 17 := f 256 17 (hL 4114 (by decide))
  have a3 : s' 180 = s 180 := funext fun i => f 180 i (hL 1408 (by decide))
  have a4 : s' 270 = s 270 := funext fun i => f 270 i (hL 4992 (by decide))
  have a5 : s' 181 = s 181 := funext fun i => f 181 i (hL 1472 (by decide))
  have a6 : s' 272 = s 272 := funext fun i => f 272 i (hL 5120 (by decide))
  have a7 : s' 273 = s 273 := funext fun i => f 273 i (hL 5184 (by decide))
  have a8 : s' 274 = s 274 := funext fun i => f 274 i (hL 5248 (by decide))
  have a9 := f.rows (fun x hx => hL x (by revert x; decide))
  have b0 : s' 179 5 = s 179 5 := f 179 5 (hL 1350 (by decide))
  obtain ⟨h0, h1, h2⟩ := h
  unfold R1
  rw [a1, a2, a3, a4, a5, a6, a7, a8, b0]
  refine ⟨h0, h1, fun r r0 r1 => ?_⟩
  have h08 := h0.2
  obtain ⟨k1, k2, k3⟩ := h2 r r0 r1
  refine ⟨k1, k2, fun n n0 n1 => ?_⟩
  rw [a9 _ _ (by omega) (by omega), a9 _ _ (by omega) (by omega), a9 _ _ (by omega) (by omega)]
  exact k3 n n0 n1
theorem R1.up {s : xS} {q i : Nat} {v : Int} (h : R1 s) (hL : x_pl q i ∉ LR1) : R1 (x_up s q i v) := h.fl FL.one (fun x hx hm => hL (by rw [← List.mem_singleton.mp hm]; exact hx))
theorem R1.rule {L1 L2 : List Nat} {s s1 s2 : xS} {a z1 z2 : Int} (h : R1 s) (x : X1 s) (hJ : J s) (hG : GI s) (f1 : FL L1 s s1) (f2 : FL L2 s1 s2) (hL1 : ∀ x ∈ [4131, 5824, 4114, 4117, 4992, 5056, 5120, 5184, 5248], x ∉ L1) (hL2 : ∀ x ∈ [1350, 1408, 1472, 1600, 1664, 1728, 1792, 1856], x ∉ L2) (x1 : RuC s s1 a z1) (x2 : RuR s1 s2 a z2) : R1 s2 := by
  obtain ⟨q1, q2, q3, -, -⟩ := x
  obtain ⟨h0, h1, h2⟩ := id h
  have g1 : (0 : Int) ≤ s 256 17 ∧ s 256 17 ≤ 8 := hG 256 17
  have gc : (0 : Int) ≤ s 256 20 ∧ s 256 20 ≤ 64 := hG 256 20
  have jr := hJ.2.2.2.2.2.2.1.1
  have a2 : s1 256 34 = s 256 34 := f1 256 34 (hL1 4131 (by decide))
  have a4 : s1 283 = s 283 := funext fun i => f1 283 i (hL1 5824 (by decide))
  have a6 : s1 256 17 = s 256 17 := f1 256 17 (hL1 4114 (by decide))
  have a7 : s1 256 20 = s 256 20 := f1 256 20 (hL1 4117 (by decide))
  have b0 : s1 270 = s 270 := funext fun i => f1 270 i (hL1 4992 (by decide))
  have b1 : s1 271 = s 271 := funext fun i => f1 271 i (hL1 5056 (by decide))
  have b2 : s1 272 = s 272 := funext fun i => f1 272 i (hL1 5120 (by decide))
  have b3 : s1 273 = s 273 := funext fun i => f1 273 i (hL1 5184 (by decide))
  have b4 : s1 274 = s 274 := funext fun i => f1 274 i (hL1 5248 (by decide))
  have c0 : s2 180 = s1 180 := funext fun i => f2 180 i (hL2 1408 (by decide))
  have c1 : s2 181 = s1 181 := funext fun i => f2 181 i (hL2 1472 (by decide))
  have c2 := f2.rows (fun x hx => hL2 x (by revert x; decide))
  have c9 : s2 179 5 = s1 179 5 := f2 179 5 (hL2 1350 (by decide))
  unfold RuC at x1
  unfold RuR at x2
  rw [a2, a4, a6, a7, b0, b1, b2, b3, b4, ← q1, ← q2] at x2
  rcases x1 with ⟨k1, k2, k3⟩ | ⟨k1, k2, k3, k4⟩ | ⟨k1, k2, k3, k4, k5⟩ <;> rcases x2 with ⟨m1, m2, m3⟩ | ⟨m1, m2, m3, m4⟩ | ⟨m1, m2, m3, m4, m5⟩
  case inl.inl => rw [m3, k3]; exact h
  case inr.inl.inr.inl => rw [m4, k4]; exact h
  case inr.inr.inr.inr =>
    obtain ⟨m, hm, o1, o2, o3⟩ := k3
    obtain ⟨m', hm', p1, p2⟩ := m5
    rw [q3] at o1 o2 o3
    have e : m = m' := OkU o1 p1 hm.1 hm'.1 (o3.elim (fun q => Or.inl q.1) (fun q => Or.inr q.2.1)) (p2.elim (fun q => Or.inl q.1) (fun q => Or.inr q.2.1))
    subst e
    have hrow : ∀ r j : Nat, 183 ≤ r → r ≤ 208 → (r ≠ 182 + 1 + (s 256 17).toNat ∧ r ≠ 191 + 1 + (s 256 17).toNat ∧ r ≠ 200 + 1 + (s 256 17).toNat) → s2 r j = s r j := fun r j r1 r2 r3 => (c2 r j r1 r2).trans (o2 r j r1 r2 r3)
    -- rows of the rules that were there
    have old : s2 271 0 = 0 → (∀ j : Int, 0 ≤ j → j ≤ s 256 17 → s2 271 j.toNat = s 271 j.toNat) → (∀ j : Int, 0 ≤ j → j < s 256 17 → s2 180 j.toNat = s 180 j.toNat ∧ s2 181 j.toNat = s 181 j.toNat ∧ s2 270 j.toNat = s 270 j.toNat) → ∀ r : Int, 0 ≤ r → r < s 256 17 → s2 180 r.toNat = s2 270 r.toNat ∧ (0 ≤ s2 271 r.toNat ∧ s2 271 (r + 1).toNat = s2 271 r.toNat + s2 181 r.toNat) ∧ ∀ n : Int, 0 ≤ n → n < s2 181 r.toNat → s2 (182 + 1 + r.toNat) n.toNat = s2 272 (s2 271 r.toNat + n).toNat + 1 ∧ s2 (191 + 1 + r.toNat) n.toNat = s2 273 (s2 271 r.toNat + n).toNat ∧ (s2 272 (s2 271 r.toNat + n).toNat ≤ 3 → s2 (200 + 1 + r.toNat) n.toNat = s2 274 (s2 271 r.toNat + n).toNat) ∧ okS (s2 (182 + 1 + r.toNat) n.toNat) (s2 (191 + 1 + r.toNat) n.toNat) (s2 (200 + 1 + r.toNat) n.toNat) r := by
      intro _ e1 e2 r r0 r1
      obtain ⟨k1, k2, k3⟩ := h2 r r0 r1
      obtain ⟨u1, u2, u3⟩ := e2 r r0 r1
      rw [u1, u2, u3, e1 r r0 (by omega), e1 (r + 1) (by omega) (by omega)]
      refine ⟨k1, k2, fun n n0 n1 => ?_⟩
      have hl := hJ.rl (r + 1) ⟨by omega, by omega⟩
      obtain ⟨v1, v2, v3⟩ := m4 (s 271 r.toNat + n).toNat (by omega)
      rw [hrow (182 + 1 + r.toNat) n.toNat (by omega) (by omega) (by omega), hrow (191 + 1 + r.toNat) n.toNat (by omega) (by omega) (by omega), hrow (200 + 1 + r.toNat) n.toNat (by omega) (by omega) (by omega), v1, v2, v3]
      exact k3 n n0 n1
    rcases o3 with ⟨q1, q2, q3, q4, q5, q6, q7⟩ | ⟨q1, q2, q3, q4, q5, q6, q7⟩ <;> rcases p2 with ⟨r1, r2, r3, r4, r5, r6, r7, r8⟩ | ⟨r1, r2, r3, r4, r5, r6, r7, r8⟩
    · have e0 : s2 271 0 = 0 := by
        rw [r7 0]
        by_cases z : s 256 17 = 0
        · rw [if_neg (by omega), if_pos (by omega)]; rw [z] at jr; exact jr.symm.trans h1
        · rw [if_neg (by omega), if_neg (by omega)]; exact h1
      have e1 : ∀ j : Int, 0 ≤ j → j ≤ s 256 17 → s2 271 j.toNat = s 271 j.toNat := fun j j0 j1 => by
        rw [r7 j.toNat, if_neg (by omega)]
        by_cases z : j = s 256 17
        · rw [if_pos (by omega), z]; exact jr.symm
        · rw [if_neg (by omega)]
      refine ⟨⟨by omega, by omega⟩, e0, fun r r0 r1 => ?_⟩
      by_cases er : r = s 256 17
      · subst er
        have w1 : s2 181 (s 256 17).toNat = m := by rw [c1, q6, if_pos rfl]
        have w2 : s2 271 (s 256 17).toNat = s 256 20 := by rw [e1 _ g1.1 (Int.le_refl _)]; exact jr
        have w3 : s2 271 (s 256 17 + 1).toNat = s 256 20 + m := by rw [r7, if_pos rfl]
        rw [w1, w2, w3]
        refine ⟨by rw [c0, q5, r6, if_pos rfl, if_pos rfl], ⟨gc.1, rfl⟩, fun n n0 n1 => ?_⟩
        obtain ⟨t1, t2, t3⟩ := q7 n n0 n1
        obtain ⟨u1, u2, u3⟩ := r8 n n0 n1
        rw [c2 (182 + 1 + (s 256 17).toNat) n.toNat (by omega) (by omega), c2 (191 + 1 + (s 256 17).toNat) n.toNat (by omega) (by omega), c2 (200 + 1 + (s 256 17).toNat) n.toNat (by omega) (by omega), t1, t2, t3]
        exact ⟨u1.symm, u2.symm, fun w => (u3 (by omega)).symm, cl_ok (o1 n n0 n1).2⟩
      · exact old e0 e1 (fun j j0 j1 => ⟨by rw [c0, q5, if_neg (by omega)], by rw [c1, q6, if_neg (by omega)], by rw [r6, if_neg (by omega)]⟩) r r0 (by omega)
    · exfalso; omega
    · exfalso; omega
    · refine ⟨⟨by omega, by omega⟩, by rw [r8]; exact h1, fun r r0 r1 => ?_⟩
      exact old (by rw [r8]; exact h1) (fun j _ _ => by rw [r8]) (fun j _ _ => ⟨by rw [c0, q6], by rw [c1, q7], by rw [r7]⟩) r r0 (by omega)
  all_goals (exfalso; omega)
/-! what rules come to: ed, cl the rules' editions and how many clauses; kd, fi, sc the clauses -/
def edC (s : xS) (r : Int) : Int := if 0 ≤ r ∧ r < s 179 5 then s 180 r.toNat else 0
def clC (s : xS) (r : Int) : Int := if 0 ≤ r ∧ r < s 179 5 then s 181 r.toNat else 0
def kdC (s : xS) (r n : Int) : Int := if (0 ≤ r ∧ r < s 179 5) ∧ 0 ≤ n ∧ n < s 181 r.toNat then s (182 + 1 + r.toNat) n.toNat else 0
def fiC (s : xS) (r n : Int) : Int := if (0 ≤ r ∧ r < s 179 5) ∧ 0 ≤ n ∧ n < s 181 r.toNat then s (191 + 1 + r.toNat) n.toNat else 0
def scC (s : xS) (r n : Int) : Int := if ((0 ≤ r ∧ r < s 179 5) ∧ 0 ≤ n ∧ n < s 181 r.toNat) ∧ s (182 + 1 + r.toNat) n.toNat ≤ 4 then s (200 + 1 + r.toNat) n.toNat else 0
def edR (s : xS) (r : Int) : Int := if 0 ≤ r ∧ r < s 256 17 then s 270 r.toNat else 0
def clR (s : xS) (r : Int) : Int := if 0 ≤ r ∧ r < s 256 17 then s 271 (r + 1).toNat - s 271 r.toNat else 0
def kdR (s : xS) (r n : Int) : Int := if (0 ≤ r ∧ r < s 256 17) ∧ 0 ≤ n ∧ n < s 271 (r + 1).toNat - s 271 r.toNat then s 272 (s 271 r.toNat + n).toNat + 1 else 0
def fiR (s : xS) (r n : Int) : Int := if (0 ≤ r ∧ r < s 256 17) ∧ 0 ≤ n ∧ n < s 271 (r + 1).toNat - s 271 r.toNat then s 273 (s 271 r.toNat + n).toNat else 0
def scR (s : xS) (r n : Int) : Int := if ((0 ≤ r ∧ r < s 256 17) ∧ 0 ≤ n ∧ n < s 271 (r + 1).toNat - s 271 r.toNat) ∧ s 272 (s 271 r.toNat + n).toNat ≤ 3 then s 274 (s 271 r.toNat + n).toNat else 0
theorem R1.eq {s : xS} (h : R1 s) : edC s = edR s ∧ clC s = clR s ∧ kdC s = kdR s ∧ fiC s = fiR s ∧ scC s = scR s := by
  obtain ⟨⟨hr, h0⟩, h1, h2⟩ := h
  have hn : ∀ r : Int, 0 ≤ r → r < s 256 17 → s 271 (r + 1).toNat - s 271 r.toNat = s 181 r.toNat := fun r r0 r1 => by have := (h2 r r0 r1).2.1.2; omega
  refine ⟨funext fun r => ?_, funext fun r => ?_, funext fun r => funext fun n => ?_, funext fun r => funext fun n => ?_, funext fun r => funext fun n => ?_⟩
  · unfold edC edR; rw [hr]
    by_cases q : 0 ≤ r ∧ r < s 256 17
    · rw [if_pos q, if_pos q]; exact (h2 r q.1 q.2).1
    · rw [if_neg q, if_neg q]
  · unfold clC clR; rw [hr]
    by_cases q : 0 ≤ r ∧ r < s 256 17
    · rw [if_pos q, if_pos q, hn r q.1 q.2]
    · rw [if_neg q, if_neg q]
  · unfold kdC kdR; rw [hr]
    by_cases q : (0 ≤ r ∧ r < s 256 17) ∧ 0 ≤ n ∧ n < s 181 r.toNat
    · rw [if_pos q, if_pos (by rw [hn r q.1.1 q.1.2]; exact q)]; exact ((h2 r q.1.1 q.1.2).2.2 n q.2.1 q.2.2).1
    · rw [if_neg q, if_neg (fun w => q ⟨w.1, by rw [← hn r w.1.1 w.1.2]; exact w.2⟩)]
  · unfold fiC fiR; rw [hr]
    by_cases q : (0 ≤ r ∧ r < s 256 17) ∧ 0 ≤ n ∧ n < s 181 r.toNat
    · rw [if_pos q, if_pos (by rw [hn r q.1.1 q.1.2]; exact q)]; exact ((h2 r q.1.1 q.1.2).2.2 n q.2.1 q.2.2).2.1
    · rw [if_neg q, if_neg (fun w => q ⟨w.1, by rw [← hn r w.1.1 w.1.2]; exact w.2⟩)]
  · unfold scC scR; rw [hr]
    by_cases q : (0 ≤ r ∧ r < s 256 17) ∧ 0 ≤ n ∧ n < s 181 r.toNat
    · obtain ⟨k1, k2, k3, -⟩ := (h2 r q.1.1 q.1.2).2.2 n q.2.1 q.2.2
      by_cases q4 : s (182 + 1 + r.toNat) n.toNat ≤ 4
      · rw [if_pos ⟨q, q4⟩, if_pos ⟨by rw [hn r q.1.1 q.1.2]; exact q, by omega⟩]; exact k3 (by omega)
      · rw [if_neg (fun w => q4 w.2), if_neg (fun w => q4 (by have := w.2; omega))]
    · rw [if_neg (fun w => q w.1), if_neg (fun w => q ⟨w.1.1, by rw [← hn r w.1.1.1 w.1.1.2]; exact w.1.2⟩)]
theorem R1.ok {s : xS} (h : R1 s) {r n : Int} (hr : 0 ≤ r ∧ r < s 179 5) (hn : 0 ≤ n ∧ n < s 181 r.toNat) : okS (s (182 + 1 + r.toNat) n.toNat) (s (191 + 1 + r.toNat) n.toNat) (s (200 + 1 + r.toNat) n.toNat) r := ((h.2.2 r hr.1 (by have := h.1.1; omega)).2.2 n hn.1 hn.2).2.2.2
section RSP
variable (ed cl : Int → Int) (kd fi sc : Int → Int → Int) (R e : Int)
/-- rule j strikes rule k -/
def Sk (j k : Int) : Prop := ∃ n : Int, (0 ≤ n ∧ n < cl j) ∧ kd j n = 6 ∧ fi j n = k
/-- rule r is struck by one of the k last rules -/
def stk : Nat → Int → Prop
  | 0, _ => False
  | k + 1, r => stk k r ∨ ((ed (R - 1 - k) ≤ e ∧ ¬ stk k (R - 1 - k)) ∧ Sk cl kd fi (R - 1 - k) r)
/-- rule r counts -/
def cnt (r : Int) : Prop := ed r ≤ e ∧ ¬ stk ed cl kd fi R e (R - 1 - r).toNat r
/-- what a clause makes of the senses (0 to 5), of most (6), of the counts of allow, bar, need (7, 8, 9) -/
def upS (k a b : Int) (f : Int → Int) : Int → Int := fun i => if k = 1 ∧ i = a then b else if k = 5 ∧ i = 6 then a else if (k = 2 ∧ i = 7) ∨ (k = 3 ∧ i = 8) ∨ (k = 4 ∧ i = 9) then f i + 1 else f i
def foN (r : Int) : Nat → (Int → Int) → Int → Int
  | 0, f => f
  | n + 1, f => upS (kd r n) (fi r n) (sc r n) (foN r n f)
noncomputable def foR (t : Int) : Nat → (Int → Int) → Int → Int
  | 0, f => f
  | r + 1, f => @ite _ (ed r = t ∧ cnt ed cl kd fi R e r) (Classical.propDecidable _) (foN kd fi sc r (cl r).toNat (foR t r f)) (foR t r f)
noncomputable def foE : Nat → Int → Int
  | 0 => fun i => if i = 6 then 20 else 0
  | t + 1 => foR ed cl kd fi sc R e t R.toNat (foE t)
end RSP
section RSQ
variable {ed cl : Int → Int} {kd fi sc : Int → Int → Int} {R e : Int}
theorem stk_s {k : Nat} {r j : Int} (hj : j = R - 1 - k) : stk ed cl kd fi R e (k + 1) r ↔ stk ed cl kd fi R e k r ∨ (cnt ed cl kd fi R e j ∧ Sk cl kd fi j r) := by
  subst hj
  unfold cnt
  rw [show (R - 1 - (R - 1 - (k : Int))).toNat = k by omega]
  exact Iff.rfl
theorem stk_ex (k : Nat) (r : Int) : stk ed cl kd fi R e k r ↔ ∃ j : Int, (R - 1 - k < j ∧ j ≤ R - 1) ∧ cnt ed cl kd fi R e j ∧ Sk cl kd fi j r := by
  induction k with
  | zero => exact ⟨fun h => h.elim, fun ⟨j, h, _⟩ => by omega⟩
  | succ k ih =>
    rw [stk_s rfl, ih]
    constructor
    · rintro (⟨j, h1, h2⟩ | h)
      · exact ⟨j, by omega, h2⟩
      · exact ⟨R - 1 - k, by omega, h⟩
    · rintro ⟨j, h1, h2⟩
      by_cases q : j = R - 1 - k
      · subst q; exact Or.inr h2
      · exact Or.inl ⟨j, by omega, h2⟩
/-- the reference's way to say it -/
theorem cnt_ex {r : Int} (hr : r < R) : cnt ed cl kd fi R e r ↔ ed r ≤ e ∧ ¬ ∃ j : Int, (r < j ∧ j ≤ R - 1) ∧ cnt ed cl kd fi R e j ∧ Sk cl kd fi j r := by
  have h := stk_ex (ed := ed) (cl := cl) (kd := kd) (fi := fi) (R := R) (e := e) (R - 1 - r).toNat r
  rw [show R - 1 - (((R - 1 - r).toNat : Nat) : Int) = r by omega] at h
  conv => lhs; unfold cnt
  rw [h]
theorem foR_y {t : Int} {r : Int} {f : Int → Int} (h0 : 0 ≤ r) (h : ed r = t ∧ cnt ed cl kd fi R e r) : foR ed cl kd fi sc R e t (r + 1).toNat f = foN kd fi sc r (cl r).toNat (foR ed cl kd fi sc R e t r.toNat f) := by
  rw [show (r + 1).toNat = r.toNat + 1 by omega, foR, show ((r.toNat : Nat) : Int) = r by omega, if_pos h]
theorem foR_n {t : Int} {r : Int} {f : Int → Int} (h0 : 0 ≤ r) (h : ¬ (ed r = t ∧ cnt ed cl kd fi R e r)) : foR ed cl kd fi sc R e t (r + 1).toNat f = foR ed cl kd fi sc R e t r.toNat f := by
  rw [show (r + 1).toNat = r.toNat + 1 by omega, foR, show ((r.toNat : Nat) : Int) = r by omega, if_neg h]
theorem foE_s {t : Int} (h0 : 0 ≤ t) : foE ed cl kd fi sc R e (t + 1).toNat = foR ed cl kd fi sc R e t R.toNat (foE ed cl kd fi sc R e t.toNat) := by
  rw [show (t + 1).toNat = t.toNat + 1 by omega, foE, show ((t.toNat : Nat) : Int) = t by omega]
theorem foN_s {r n : Int} {f : Int → Int} (h0 : 0 ≤ n) : foN kd fi sc r (n + 1).toNat f = upS (kd r n) (fi r n) (sc r n) (foN kd fi sc r n.toNat f) := by
  rw [show (n + 1).toNat = n.toNat + 1 by omega, foN, show ((n.toNat : Nat) : Int) = n by omega]
end RSQ
