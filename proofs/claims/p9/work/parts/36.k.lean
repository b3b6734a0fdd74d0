/-! ASKS OF THE REFERENCE: signs that wait, and the row so far -/
def cn3 (g : Nat → Int) : Nat → Int
  | 0 => 0
  | k + 1 => cn3 g k + (if g k = 3 then 1 else 0)
def nbi (g : Nat → Int) : Nat → Int
  | 0 => 0
  | k + 1 => nbi g k + (if g k < 2 then 1 else 0)
theorem cn3_cg {g g' : Nat → Int} (k : Nat) (h : ∀ j, j < k → g' j = g j) : cn3 g' k = cn3 g k := by
  induction k with
  | zero => rfl
  | succ k ih => rw [cn3, cn3, ih (fun j hj => h j (by omega)), h k (by omega)]
theorem nbi_cg {g g' : Nat → Int} (k : Nat) (h : ∀ j, j < k → g' j = g j) : nbi g' k = nbi g k := by
  induction k with
  | zero => rfl
  | succ k ih => rw [nbi, nbi, ih (fun j hj => h j (by omega)), h k (by omega)]
theorem nbi_ge (g : Nat → Int) (k : Nat) : 0 ≤ nbi g k := by
  induction k with
  | zero => exact Int.le_refl 0
  | succ k ih => rw [nbi]; split <;> omega
theorem dp_cg {f f' : Int → Int} (k : Nat) (h : ∀ j : Nat, j < k → f' j = f j) : dp f' k = dp f k := by
  induction k with
  | zero => rfl
  | succ k ih => rw [dp, dp, ih (fun j hj => h j (by omega)), h k (by omega)]
theorem okrow_cg {f f' : Int → Int} {n : Int} (h : ∀ j : Nat, (j : Int) < n → f' j = f j) (hr : okrow f n) : okrow f' n := by
  intro k hk
  rw [h k hk, dp_cg k (fun j hj => h j (by omega))]
  exact hr k hk
def AW (s : xS) (d c t : Int) : Prop := okrow (fun k => s 287 (110 * s 256 43 + k).toNat) (s 256 47) ∧ dp (fun k => s 287 (110 * s 256 43 + k).toNat) (s 256 47).toNat = nbi (s 289) (s 256 48).toNat + d ∧ cn3 (s 289) (s 256 48).toNat = c ∧ s 256 47 + s 256 48 = t
theorem AW.fl {L : List Nat} {s s' : xS} {d c t : Int} (h : AW s d c t) (f : FL L s s') (hL : ∀ x ∈ [6080, 4140, 4144, 4145, 6208], x ∉ L) : AW s' d c t := by
  have b1 : s' 287 = s 287 := funext fun i => f 287 i (hL 6080 (by decide))
  have b2 : s' 289 = s 289 := funext fun i => f 289 i (hL 6208 (by decide))
  have a1 : s' 256 43 = s 256 43 := f 256 43 (hL 4140 (by decide))
  have a2 : s' 256 47 = s 256 47 := f 256 47 (hL 4144 (by decide))
  have a3 : s' 256 48 = s 256 48 := f 256 48 (hL 4145 (by decide))
  unfold AW; rw [b1, b2, a1, a2, a3]; exact h
theorem AW.up {s : xS} {d c t : Int} {q i : Nat} {v : Int} (h : AW s d c t) (hL : x_pl q i ∉ [6080, 4140, 4144, 4145, 6208]) : AW (x_up s q i v) d c t := h.fl FL.one (fun x hx hm => hL (by rw [← List.mem_singleton.mp hm]; exact hx))
theorem AW.rf {s : xS} {d c t : Int} (h : AW s d c t) : AW s d (cn3 (s 289) (s 256 48).toNat) (s 256 47 + s 256 48) := ⟨h.1, h.2.1, rfl, rfl⟩
theorem AW.tr {s s' : xS} {d d' c t : Int} (h : AW s d c t) (h' : AW s' d' (cn3 (s 289) (s 256 48).toNat) (s 256 47 + s 256 48)) : AW s' d' c t := by
  rw [h.2.2.1, h.2.2.2] at h'
  exact h'
/-- a step is put behind the row -/
theorem AW_put {s s' : xS} {k : Int} (g0 : 0 ≤ s 256 43) (g1 : 0 ≤ s 256 47) (e3 : s' 256 43 = s 256 43) (e7 : s' 256 47 = s 256 47 + 1) (e9 : ∀ i, s' 287 i = if i = (110 * s 256 43 + s 256 47).toNat then k else s 287 i)
    (hr : okrow (fun k => s 287 (110 * s 256 43 + k).toNat) (s 256 47)) (h1 : k < 2 → 2 ≤ dp (fun k => s 287 (110 * s 256 43 + k).toNat) (s 256 47).toNat) (h2 : k = 2 → 1 ≤ dp (fun k => s 287 (110 * s 256 43 + k).toNat) (s 256 47).toNat) :
    okrow (fun k => s' 287 (110 * s' 256 43 + k).toNat) (s' 256 47) ∧ dp (fun k => s' 287 (110 * s' 256 43 + k).toNat) (s' 256 47).toNat = dp (fun k => s 287 (110 * s 256 43 + k).toNat) (s 256 47).toNat + (if k < 2 then -1 else if k = 2 then 0 else 1) := by
  rw [e3, e7]
  have hj : ∀ j : Nat, (j : Int) < s 256 47 → s' 287 (110 * s 256 43 + j).toNat = s 287 (110 * s 256 43 + j).toNat := fun j hj => by rw [e9, if_neg (by omega)]
  have hk : s' 287 (110 * s 256 43 + (((s 256 47).toNat : Nat) : Int)).toNat = k := by rw [e9, if_pos (by omega)]
  have hd : dp (fun k => s' 287 (110 * s 256 43 + k).toNat) (s 256 47).toNat = dp (fun k => s 287 (110 * s 256 43 + k).toNat) (s 256 47).toNat := dp_cg _ (fun j hj2 => hj j (by omega))
  refine ⟨fun j hj2 => ?_, ?_⟩
  · by_cases e : (j : Int) = s 256 47
    · have ej : j = (s 256 47).toNat := by omega
      subst ej
      show (s' 287 (110 * s 256 43 + (((s 256 47).toNat : Nat) : Int)).toNat < 2 → _) ∧ (s' 287 (110 * s 256 43 + (((s 256 47).toNat : Nat) : Int)).toNat = 2 → _)
      rw [hk, hd]
      exact ⟨h1, h2⟩
    · exact okrow_cg (f' := fun k => s' 287 (110 * s 256 43 + k).toNat) (n := s 256 47) hj hr j (by omega)
  · rw [show (s 256 47 + 1).toNat = (s 256 47).toNat + 1 by omega, dp, hd]
    show _ + (if s' 287 (110 * s 256 43 + (((s 256 47).toNat : Nat) : Int)).toNat < 2 then _ else if s' 287 (110 * s 256 43 + (((s 256 47).toNat : Nat) : Int)).toNat = 2 then _ else _) = _
    rw [hk]
theorem AW.leaf {s s' : xS} {k c t : Int} (h : AW s 0 c t) (g0 : 0 ≤ s 256 43) (g1 : 0 ≤ s 256 47) (hk : 2 < k) (e3 : s' 256 43 = s 256 43) (e7 : s' 256 47 = s 256 47 + 1) (e8 : s' 256 48 = s 256 48) (ew : s' 289 = s 289) (e9 : ∀ i, s' 287 i = if i = (110 * s 256 43 + s 256 47).toNat then k else s 287 i) : AW s' 1 c (t + 1) := by
  obtain ⟨h1, h2, h3, h4⟩ := h
  obtain ⟨p1, p2⟩ := AW_put g0 g1 e3 e7 e9 h1 (fun z => by omega) (fun z => by omega)
  rw [if_neg (by omega), if_neg (by omega)] at p2
  refine ⟨p1, by rw [p2, ew, e8]; omega, by rw [ew, e8]; exact h3, by omega⟩
theorem AW.pop {s s' : xS} {k c t : Int} (h : AW s 1 c t) (g0 : 0 ≤ s 256 43) (g1 : 0 ≤ s 256 47) (hw : 1 ≤ s 256 48) (hk : s 289 (s 256 48 - 1).toNat = k) (h3k : k ≠ 3) (h2k : k ≤ 3) (e3 : s' 256 43 = s 256 43) (e7 : s' 256 47 = s 256 47 + 1) (e8 : s' 256 48 = s 256 48 - 1) (ew : s' 289 = s 289) (e9 : ∀ i, s' 287 i = if i = (110 * s 256 43 + s 256 47).toNat then k else s 287 i) : AW s' 1 c t := by
  obtain ⟨h1, h2, h3, h4⟩ := h
  have hn := nbi_ge (s 289) (s 256 48 - 1).toNat
  rw [show (s 256 48).toNat = (s 256 48 - 1).toNat + 1 by omega, nbi, hk] at h2
  rw [show (s 256 48).toNat = (s 256 48 - 1).toNat + 1 by omega, cn3, hk, if_neg h3k] at h3
  obtain ⟨p1, p2⟩ := AW_put g0 g1 e3 e7 e9 h1 (fun z => by rw [if_pos z] at h2; omega) (fun z => by rw [if_neg (by omega)] at h2; omega)
  refine ⟨p1, ?_, by rw [ew, e8]; omega, by omega⟩
  rw [p2, ew, e8]
  by_cases hz : k < 2
  · rw [if_pos hz] at h2 ⊢; omega
  · rw [if_neg hz] at h2 ⊢; rw [if_pos (by omega)]; omega
/-- a sign waits -/
theorem AW.hold {s s' : xS} {k d c t : Int} (h : AW s d c t) (hw : 0 ≤ s 256 48) (e3 : s' 256 43 = s 256 43) (e7 : s' 256 47 = s 256 47) (e8 : s' 256 48 = s 256 48 + 1) (er : s' 287 = s 287) (e9 : ∀ i, s' 289 i = if i = (s 256 48).toNat then k else s 289 i) : AW s' (d - (if k < 2 then 1 else 0)) (c + (if k = 3 then 1 else 0)) (t + 1) := by
  obtain ⟨h1, h2, h3, h4⟩ := h
  have hj : ∀ j, j < (s 256 48).toNat → s' 289 j = s 289 j := fun j hj => by rw [e9, if_neg (by omega)]
  have hk : s' 289 (s 256 48).toNat = k := by rw [e9, if_pos rfl]
  unfold AW
  rw [e3, e7, e8, er, show (s 256 48 + 1).toNat = (s 256 48).toNat + 1 by omega, nbi, cn3, nbi_cg _ hj, cn3_cg _ hj, hk]
  exact ⟨h1, by omega, by omega, by omega⟩
/-- the bracket that waits last is closed -/
theorem AW.close {s s' : xS} {d c t : Int} (h : AW s d c t) (hw : 1 ≤ s 256 48) (hk : s 289 (s 256 48 - 1).toNat = 3) (e3 : s' 256 43 = s 256 43) (e7 : s' 256 47 = s 256 47) (e8 : s' 256 48 = s 256 48 - 1) (er : s' 287 = s 287) (ew : s' 289 = s 289) : AW s' d (c - 1) (t - 1) := by
  obtain ⟨h1, h2, h3, h4⟩ := h
  rw [show (s 256 48).toNat = (s 256 48 - 1).toNat + 1 by omega, nbi, hk, if_neg (by omega)] at h2
  rw [show (s 256 48).toNat = (s 256 48 - 1).toNat + 1 by omega, cn3, hk, if_pos rfl] at h3
  unfold AW
  rw [e3, e7, e8, er, ew]
  exact ⟨h1, by omega, by omega, by omega⟩
theorem AW.has3 {s : xS} {d c t : Int} (h : AW s d c t) (hc : 1 ≤ c) (hw : 0 ≤ s 256 48) : 1 ≤ s 256 48 := by
  by_cases e : s 256 48 = 0
  · have h3 := h.2.2.1
    rw [e] at h3
    have : (0 : Int) = c := h3
    omega
  · omega
theorem AW_0 {s : xS} (h7 : s 256 47 = 0) (h8 : s 256 48 = 0) : AW s 0 0 0 := by
  unfold AW
  rw [h7, h8]
  exact ⟨fun k hk => by omega, rfl, rfl, rfl⟩
/-- J and asks -/
theorem J.put {s : xS} (h : J s) (hG : GI s) {z v : Int} (hz : 110 * s 256 43 ≤ z) : J (x_up s 287 z.toNat v) := by
  have f : FL [6080] s (x_up s 287 z.toNat v) := FL.rf.up (show 6080 ∈ [6080] from by decide)
  obtain ⟨h1, ⟨rk, h2⟩, h3, ⟨jr, h4⟩, h5, h6, h7, h8, h9⟩ := h
  refine ⟨?_, ⟨rk, h2.fl f (by decide)⟩, h3.fl f (by decide), ⟨jr, h4.fl f (by decide)⟩, h5.fl f (by decide), ?_, h7.fl f (by decide), h8.fl f (by decide), ?_⟩
  · rw [f 179 5 (by decide)]; exact h1.fl f (by decide)
  · rw [f 256 20 (by decide)]; exact h6.fl f (by decide)
  · intro a a0 a1
    rw [f 256 43 (by decide)] at a1
    rw [f 286 _ (show 6016 ∉ [6080] from by decide)]
    have g : (0 : Int) ≤ s 286 a.toNat ∧ s 286 a.toNat ≤ 110 := hG 286 a.toNat
    refine okrow_cg (fun j hj => ?_) (h9 a a0 a1)
    show x_up s 287 z.toNat v 287 (110 * a + j).toNat = s 287 (110 * a + j).toNat
    rw [x_up_i (by omega)]
theorem J.ask {s : xS} (h : J s) {a a1 n : Int} (ha : a = s 256 43) (h0 : 0 ≤ a) (h1 : a1 = a + 1) (hr : okrow (fun k => s 287 (110 * s 256 43 + k).toNat) n) : J (x_up (x_up s 286 a.toNat n) 256 43 a1) := by
  have f : FL [6016, 4140] s (x_up (x_up s 286 a.toNat n) 256 43 a1) := (FL.rf.up (show 6016 ∈ [6016, 4140] from by decide)).up (show 4140 ∈ [6016, 4140] from by decide)
  have c6 : ∀ j, x_up (x_up s 286 a.toNat n) 256 43 a1 286 j = if j = a.toNat then n else s 286 j := fun j => by rw [x_up_q (by decide), x_up_at]
  have c3 : x_up (x_up s 286 a.toNat n) 256 43 a1 256 43 = a1 := x_up_same
  have c7 : x_up (x_up s 286 a.toNat n) 256 43 a1 287 = s 287 := funext fun i => f 287 i (show 6080 ∉ _ from by decide)
  obtain ⟨g1, ⟨rk, h2⟩, h3, ⟨jr, h4⟩, h5, h6, h7, h8, h9⟩ := h
  refine ⟨?_, ⟨rk, h2.fl f (by decide)⟩, h3.fl f (by decide), ⟨jr, h4.fl f (by decide)⟩, h5.fl f (by decide), ?_, h7.fl f (by decide), h8.fl f (by decide), ?_⟩
  · rw [f 179 5 (by decide)]; exact g1.fl f (by decide)
  · rw [f 256 20 (by decide)]; exact h6.fl f (by decide)
  · unfold JA
    rw [c3, c7]
    intro b b0 b1
    rw [c6]
    by_cases e : b = a
    · subst e
      rw [if_pos rfl, ha]
      exact hr
    · rw [if_neg (by omega)]
      exact h9 b b0 (by omega)
theorem AW.ca {s : xS} {d d' c c' t t' : Int} (h : AW s d c t) (e1 : d' = d) (e2 : c' = c) (e3 : t' = t) : AW s d' c' t' := by
  subst e1; subst e2; subst e3; exact h
theorem AW.hold2 {s s' : xS} {d c t : Int} (h : AW s d c t) (hw : 0 ≤ s 256 48) (e3 : s' 256 43 = s 256 43) (e7 : s' 256 47 = s 256 47) (e8 : s' 256 48 = s 256 48 + 1) (er : s' 287 = s 287) (e9 : ∀ i, s' 289 i = if i = (s 256 48).toNat then 2 else s 289 i) : AW s' d c (t + 1) := (h.hold hw e3 e7 e8 er e9).ca (by rw [if_neg (by omega)]; omega) (by rw [if_neg (by omega)]; omega) rfl
theorem AW.hold3 {s s' : xS} {d c t : Int} (h : AW s d c t) (hw : 0 ≤ s 256 48) (e3 : s' 256 43 = s 256 43) (e7 : s' 256 47 = s 256 47) (e8 : s' 256 48 = s 256 48 + 1) (er : s' 287 = s 287) (e9 : ∀ i, s' 289 i = if i = (s 256 48).toNat then 3 else s 289 i) : AW s' d (c + 1) (t + 1) := (h.hold hw e3 e7 e8 er e9).ca (by rw [if_neg (by omega)]; omega) (by rw [if_pos rfl]) rfl
theorem AW.holdb {s s' : xS} {k d c t : Int} (h : AW s d c t) (hw : 0 ≤ s 256 48) (hk : k < 2) (e3 : s' 256 43 = s 256 43) (e7 : s' 256 47 = s 256 47) (e8 : s' 256 48 = s 256 48 + 1) (er : s' 287 = s 287) (e9 : ∀ i, s' 289 i = if i = (s 256 48).toNat then k else s 289 i) : AW s' (d - 1) c (t + 1) := (h.hold hw e3 e7 e8 er e9).ca (by rw [if_pos hk]) (by rw [if_neg (by omega)]; omega) rfl
