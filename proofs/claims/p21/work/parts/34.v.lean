/-! J IS KEPT: rules -/
/-- the first n clauses of the class's row r -/
def NRr (s : xS) (r n : Int) : Prop := 0 ≤ r ∧ r ≤ 7 ∧ ∀ j : Int, 0 ≤ j → j < n → j < 8 ∧ okC (s (182 + 1 + r.toNat) j.toNat) (s (191 + 1 + r.toNat) j.toNat) (s (200 + 1 + r.toNat) j.toNat)
theorem NRr.fl {L : List Nat} {s s' : xS} {r n : Int} (h : NRr s r n) (f : FL L s s') (hL : ∀ x ∈ [1600, 1728, 1856], x ∉ L) : NRr s' r n := by
  obtain ⟨r0, r1, h⟩ := h
  refine ⟨r0, r1, fun j j0 j1 => ?_⟩
  rw [f (182 + 1 + r.toNat) j.toNat (by rw [(gr_183 j.toNat (by omega) (by omega)).2.2]; exact hL 1600 (by decide)), f (191 + 1 + r.toNat) j.toNat (by rw [(gr_192 j.toNat (by omega) (by omega)).2.2]; exact hL 1728 (by decide)), f (200 + 1 + r.toNat) j.toNat (by rw [(gr_201 j.toNat (by omega) (by omega)).2.2]; exact hL 1856 (by decide))]
  exact h j j0 j1
theorem FL.one {s : xS} {q i : Nat} {v : Int} : FL [x_pl q i] s (x_up s q i v) := FL.rf.up (List.mem_singleton.mpr rfl)
theorem NRr.up {s : xS} {r n : Int} {q i : Nat} {v : Int} (h : NRr s r n) (hL : x_pl q i ∉ [1600, 1728, 1856]) : NRr (x_up s q i v) r n := h.fl FL.one (fun x hx hm => hL (by rw [← List.mem_singleton.mp hm]; exact hx))
theorem NRr.st {s : xS} {r n : Int} {q : Nat} {v : Int} (h : NRr s r n) (hn : 0 ≤ n) : NRr (x_up s q n.toNat v) r n := by
  obtain ⟨r0, r1, h⟩ := h
  refine ⟨r0, r1, fun j j0 j1 => ?_⟩
  rw [x_up_i (by omega), x_up_i (by omega), x_up_i (by omega)]
  exact h j j0 j1
theorem NRr.add {s : xS} {r n k a b : Int} (h : NRr s r n) (h0 : 0 ≤ n ∧ n < 8) (e1 : s (182 + 1 + r.toNat) n.toNat = k) (e2 : s (191 + 1 + r.toNat) n.toNat = a) (e3 : s (200 + 1 + r.toNat) n.toNat = b) (hk : ((k = 1 ∨ k = 2 ∨ k = 3) → 0 ≤ a ∧ a ≤ 5) ∧ (k = 3 → 0 ≤ b ∧ b ≤ 5) ∧ (k = 4 → 0 ≤ a ∧ a ≤ 39)) : NRr s r (n + 1) := by
  obtain ⟨r0, r1, h⟩ := h
  refine ⟨r0, r1, fun j j0 j1 => ?_⟩
  by_cases e : j = n
  · subst e
    rw [e1, e2, e3]
    exact ⟨h0.2, hk⟩
  · exact h j j0 (by omega)
theorem J.st {s : xS} (h : J s) {r : Int} (hr : r = s 179 5) (h0 : 0 ≤ r ∧ r ≤ 7) {q i : Nat} {v : Int} (hq : q = 182 + 1 + r.toNat ∨ q = 191 + 1 + r.toNat ∨ q = 200 + 1 + r.toNat) : J (x_up s q i v) := by
  have hp : x_pl q i ∈ [1600, 1728, 1856] := by
    rcases hq with hq | hq | hq
    · rw [(gr_183 i (by omega) (by omega)).2.2]; decide
    · rw [(gr_192 i (by omega) (by omega)).2.2]; decide
    · rw [(gr_201 i (by omega) (by omega)).2.2]; decide
  have f : FL [1600, 1728, 1856] s (x_up s q i v) := FL.rf.up hp
  obtain ⟨h1, ⟨rk, h2⟩, h3, ⟨jr, h4⟩, h5, h6, h7, h8, h9⟩ := h
  refine ⟨?_, ⟨rk, h2.fl f (by decide)⟩, h3.fl f (by decide), ⟨jr, h4.fl f (by decide)⟩, h5.fl f (by decide), ?_, h7.fl f (by decide), h8.fl f (by decide), h9.fl f (by decide)⟩
  · rw [f 179 5 (by decide)]
    intro r' n r0 r1 r2 n0 n1
    rw [f 181 _ (show 1472 ∉ [1600, 1728, 1856] from by decide)] at n1
    rw [x_up_q (by omega), x_up_q (by omega), x_up_q (by omega)]
    exact h1 r' n r0 r1 r2 n0 n1
  · rw [f 256 20 (by decide)]; exact h6.fl f (by decide)
theorem J.crule {s : xS} (h : J s) {r r1 e n : Int} (hr : r = s 179 5) (h0 : 0 ≤ r ∧ r ≤ 7) (h1 : r1 = r + 1) (hN : NRr s r n) : J (x_up (x_up (x_up s 180 r.toNat e) 181 r.toNat n) 179 5 r1) := by
  have f : FL [1408, 1472, 1350] s (x_up (x_up (x_up s 180 r.toNat e) 181 r.toNat n) 179 5 r1) := ((FL.rf.up (show 1408 ∈ [1408, 1472, 1350] from by decide)).up (show 1472 ∈ [1408, 1472, 1350] from by decide)).up (show 1350 ∈ [1408, 1472, 1350] from by decide)
  have c1 : ∀ j, x_up (x_up (x_up s 180 r.toNat e) 181 r.toNat n) 179 5 r1 181 j = if j = r.toNat then n else s 181 j := fun j => by rw [x_up_q (by decide), x_up_at, x_up_q (by decide)]
  have c5 : x_up (x_up (x_up s 180 r.toNat e) 181 r.toNat n) 179 5 r1 179 5 = r1 := x_up_same
  obtain ⟨g1, ⟨rk, h2⟩, h3, ⟨jr, h4⟩, h5, h6, h7, h8, h9⟩ := h
  refine ⟨?_, ⟨rk, h2.fl f (by decide)⟩, h3.fl f (by decide), ⟨jr, h4.fl f (by decide)⟩, h5.fl f (by decide), ?_, h7.fl f (by decide), h8.fl f (by decide), h9.fl f (by decide)⟩
  · rw [c5]
    intro r' j r0 r7 r2 j0 j1
    rw [c1] at j1
    rw [f (182 + 1 + r'.toNat) j.toNat (by rw [(gr_183 j.toNat (by omega) (by omega)).2.2]; decide), f (191 + 1 + r'.toNat) j.toNat (by rw [(gr_192 j.toNat (by omega) (by omega)).2.2]; decide), f (200 + 1 + r'.toNat) j.toNat (by rw [(gr_201 j.toNat (by omega) (by omega)).2.2]; decide)]
    by_cases e : r' = r
    · subst e
      rw [if_pos rfl] at j1
      exact hN.2.2 j j0 j1
    · rw [if_neg (by omega)] at j1
      exact g1 r' j r0 r7 (by omega) j0 j1
  · rw [f 256 20 (by decide)]; exact h6.fl f (by decide)
/-! the reference's -/
theorem JRc.up {s : xS} {N : Int} {q i : Nat} {v : Int} (h : JRc s N) (hL : x_pl q i ∉ [5120, 5184]) : JRc (x_up s q i v) N := h.fl FL.one (fun x hx hm => hL (by rw [← List.mem_singleton.mp hm]; exact hx))
theorem JRc.st {s : xS} {N : Int} {q : Nat} {v : Int} (h : JRc s N) (hN : 0 ≤ N) : JRc (x_up s q N.toNat v) N := by
  intro c c0 c1 hc
  rw [x_up_i (by omega)] at hc
  rw [x_up_i (by omega)]
  exact h c c0 c1 hc
theorem JRc.add {s : xS} {N : Int} (h : JRc s N) (hN : 0 ≤ N) (hk : s 272 N.toNat = 0 → 0 ≤ s 273 N.toNat ∧ s 273 N.toNat ≤ 5) : JRc s (N + 1) := by
  intro c c0 c1 hc
  by_cases e : c = N
  · subst e; exact hk hc
  · exact h c c0 (by omega) hc
theorem JRc.mono {s : xS} {N M : Int} (h : JRc s N) (hM : M ≤ N) : JRc s M := fun c c0 c1 hc => h c c0 (by omega) hc
theorem J.rc {L : List Nat} {s s' : xS} {N : Int} (h : J s) (f : FL L s s') (hL : ∀ x ∈ [1350, 1472, 1600, 1728, 1856, 4352, 4097, 4098, 4160, 4224, 4288, 5056, 4114, 4117, 4544, 4103, 4140, 6016, 6080], x ∉ L) (hN : JRc s' N) (hc : s 256 20 ≤ N) : J s' := by
  obtain ⟨h1, ⟨rk, h2⟩, h3, ⟨jr, h4⟩, h5, h6, h7, h8, h9⟩ := h
  refine ⟨?_, ⟨rk, h2.fl f (hL _ (by decide))⟩, h3.fl f (fun x hx => hL x (by revert x; decide)), ⟨jr, h4.fl f (hL _ (by decide))⟩, h5.fl f (fun x hx => hL x (by revert x; decide)), ?_, h7.fl f (fun x hx => hL x (by revert x; decide)), h8.fl f (fun x hx => hL x (by revert x; decide)), h9.fl f (fun x hx => hL x (by revert x; decide))⟩
  · rw [f 179 5 (hL 1350 (by decide))]; exact h1.fl f (fun x hx => hL x (by revert x; decide))
  · rw [f 256 20 (hL 4117 (by decide))]; exact hN.mono hc
theorem J.rule {s : xS} (h : J s) {r r1 e c c1 n : Int} (hr : r = s 256 17) (h0 : 0 ≤ r ∧ r ≤ 7) (hr1 : r1 = r + 1) (hc : c = s 256 20) (hn : 0 ≤ n ∧ n ≤ 8) (hc1 : c1 = c + n) (hN : JRc s c1) : J (x_up (x_up (x_up (x_up (x_up s 270 r.toNat e) 271 r.toNat c) 256 20 c1) 256 17 r1) 271 r1.toNat c1) := by
  have f : FL [4992, 5056, 4117, 4114] s (x_up (x_up (x_up (x_up (x_up s 270 r.toNat e) 271 r.toNat c) 256 20 c1) 256 17 r1) 271 r1.toNat c1) := ((((FL.rf.up (show 4992 ∈ [4992, 5056, 4117, 4114] from by decide)).up (show 5056 ∈ [4992, 5056, 4117, 4114] from by decide)).up (show 4117 ∈ [4992, 5056, 4117, 4114] from by decide)).up (show 4114 ∈ [4992, 5056, 4117, 4114] from by decide)).up (show 5056 ∈ [4992, 5056, 4117, 4114] from by decide)
  have e1 : ∀ j, x_up (x_up (x_up (x_up (x_up s 270 r.toNat e) 271 r.toNat c) 256 20 c1) 256 17 r1) 271 r1.toNat c1 271 j = if j = r1.toNat then c1 else if j = r.toNat then c else s 271 j := fun j => by rw [x_up_at, x_up_q (by decide), x_up_q (by decide), x_up_at, x_up_q (by decide)]
  have e2 : x_up (x_up (x_up (x_up (x_up s 270 r.toNat e) 271 r.toNat c) 256 20 c1) 256 17 r1) 271 r1.toNat c1 256 20 = c1 := by rw [x_up_q (by decide), x_up_i (by decide), x_up_same]
  have e3 : x_up (x_up (x_up (x_up (x_up s 270 r.toNat e) 271 r.toNat c) 256 20 c1) 256 17 r1) 271 r1.toNat c1 256 17 = r1 := by rw [x_up_q (by decide), x_up_same]
  obtain ⟨h1, ⟨rk, h2⟩, h3, ⟨jr, h4⟩, h5, h6, h7, h8, h9⟩ := h
  refine ⟨?_, ⟨rk, h2.fl f (by decide)⟩, h3.fl f (by decide), ⟨jr, h4.fl f (by decide)⟩, h5.fl f (by decide), ?_, ?_, h8.fl f (by decide), h9.fl f (by decide)⟩
  · rw [f 179 5 (by decide)]; exact h1.fl f (by decide)
  · rw [e2]; exact hN.fl f (by decide)
  · unfold JR2
    rw [e2, e3]
    refine ⟨by rw [e1, if_pos rfl], by have := h7.2.1; omega, fun k k0 k1 => ?_⟩
    rw [e1]
    have := h7.2.2 k k0 k1
    split
    · omega
    · split <;> omega
