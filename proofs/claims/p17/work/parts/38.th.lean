/-- a leaf's numbers, as the class takes them -/
theorem LnC.one {s s' : xS} {k hi z : Int} (hk : k ≠ 2) (hh : lhi k = hi) (n1 : NmC s s' 0 hi 3 z) : LnC s s' k := by
  subst hh
  unfold NmC NmR at n1
  unfold LnC
  rcases n1 with ⟨a1, a2, a3, a4, a5⟩ | ⟨a1, a2, a3, a4, a5, a6⟩ | ⟨a1, a2, a3, a4, a5, a6⟩
  · exact Or.inl ⟨a1, a3, a4⟩
  · exact Or.inr (Or.inl ⟨a1, a2, hk, a4.trans a1, a5, a6⟩)
  · exact Or.inr (Or.inr (Or.inr (Or.inr ⟨a1, a2, a4, a5⟩)))
theorem LnC.two {s s1 s' : xS} {z1 z2 : Int} (t1 : NmC s s1 0 3 3 z1) (n1 : NmC s1 s' 0 99 3 z2) (h8 : s1 178 = s 178) (h1 : s1 177 1 = s 177 1) : LnC s s' 2 := by
  have e : lhi 2 = 3 := rfl
  unfold NmC NmR at t1 n1
  unfold LnC
  rw [h8, h1] at n1
  rw [e]
  rcases t1 with ⟨a1, a2, a3, a4, a5⟩ | ⟨a1, a2, a3, a4, a5, a6⟩ | ⟨a1, a2, a3, a4, a5, a6⟩
  · rcases n1 with ⟨b1, b2, b3, b4, b5⟩ | ⟨b1, _⟩ | ⟨b1, _⟩
    · exact Or.inl ⟨a1, b3.trans a3, b4.trans a4⟩
    · exact absurd (a3.symm.trans b1) a1
    · exact absurd (a3.symm.trans b1) a1
  · rw [a6] at n1
    rcases n1 with ⟨b1, _⟩ | ⟨b1, b2, b3, b4, b5, b6⟩ | ⟨b1, b2, b3, b4, b5, b6⟩
    · exact absurd (a4.trans a1) b1
    · exact Or.inr (Or.inr (Or.inl ⟨a1, a2, rfl, b2, b4.trans b1, b5.trans a5, b6⟩))
    · exact Or.inr (Or.inr (Or.inr (Or.inl ⟨a1, a2, rfl, b2, b4, b5⟩)))
  · rcases n1 with ⟨b1, b2, b3, b4, b5⟩ | ⟨b1, _⟩ | ⟨b1, _⟩
    · exact Or.inr (Or.inr (Or.inr (Or.inr ⟨a1, a2, b3.trans a4, b4.trans a5⟩)))
    · exact absurd (a4.symm.trans b1) a2
    · exact absurd (a4.symm.trans b1) a2
theorem lkd_r {T : Nat → Int} {n p z : Int} (h : z = lkd T n p) : (z = -1 ∧ lkd T n p = -1) ∨ ((1 ≤ z ∧ z ≤ 5) ∧ lkd T n p = z ∧ 26 < wv T n p) := by
  have lc := lkw_cs (wv T n p)
  have e : lkw (wv T n p) = lkd T n p := rfl
  rw [e] at lc
  omega
