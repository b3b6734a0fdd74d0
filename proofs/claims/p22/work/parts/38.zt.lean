/-! asks: both readers' heaps -/
theorem x_up_rz {s : xS} {k a r i j : Nat} {v : Int} : x_up s (k + a) i v (k + r) j = if r = a ∧ j = i then v else s (k + r) j := by
  by_cases h : r = a ∧ j = i
  · rw [if_pos h, h.1, h.2, x_up_same]
  · rw [if_neg h]
    exact if_neg (fun z => h ⟨by omega, z.2⟩)
theorem rowsA {L : List Nat} {s s' : xS} (f : FL L s s') (hL : 2688 ∉ L) : ∀ j i : Nat, j < 8 → s' (220 + 1 + j) i = s (220 + 1 + j) i := fun j i hj => f (220 + 1 + j) i (by rw [(gr_221 i (by omega) (by omega)).2.2]; exact hL)
/-- the class: what waits, the row of the next ask -/
def CK (s : xS) (l r : List Int) : Prop := s 218 4 = l.length ∧ stl (s 230) l ∧ s 219 (s 218 6).toNat = r.length ∧ stl (s (220 + 1 + (s 218 6).toNat)) r
def LCK : List Nat := [2501, 2503, 2560, 2688, 2816]
theorem CK.fl {L : List Nat} {s s' : xS} {l r : List Int} (h : CK s l r) (f : FL L s s') (g : 0 ≤ s 218 6 ∧ s 218 6 < 8) (hL : ∀ x ∈ LCK, x ∉ L) : CK s' l r := by
  have e6 : s' 218 6 = s 218 6 := f 218 6 (hL 2503 (by decide))
  have e4 : s' 218 4 = s 218 4 := f 218 4 (hL 2501 (by decide))
  have e9 : s' 219 = s 219 := funext fun i => f 219 i (hL 2560 (by decide))
  have e0 : s' 230 = s 230 := funext fun i => f 230 i (hL 2816 (by decide))
  have er := rowsA f (hL 2688 (by decide))
  unfold CK
  rw [e6, e4, e9, e0]
  exact ⟨h.1, h.2.1, h.2.2.1, h.2.2.2.cg (fun j _ => er _ j (by omega))⟩
/-- the other asks of the class are as they were -/
def KF (s σ : xS) : Prop := ∀ j : Nat, j < 8 → (j : Int) ≠ σ 218 6 → s 219 j = σ 219 j ∧ ∀ i : Nat, s (220 + 1 + j) i = σ (220 + 1 + j) i
theorem KF.rf {s : xS} : KF s s := fun _ _ _ => ⟨rfl, fun _ => rfl⟩
theorem KF.tr {s1 s2 σ : xS} (h : KF s1 σ) (e : s1 218 6 = σ 218 6) (h2 : KF s2 s1) : KF s2 σ := fun j hj hn => by
  have a := h j hj hn
  have b := h2 j hj (by rw [e]; exact hn)
  exact ⟨b.1.trans a.1, fun i => (b.2 i).trans (a.2 i)⟩
theorem KF_fl {L : List Nat} {s s' : xS} (f : FL L s s') (hL : ∀ x ∈ [2560, 2688], x ∉ L) : KF s' s := fun j hj _ => ⟨f 219 j (hL 2560 (by decide)), fun i => rowsA f (hL 2688 (by decide)) j i hj⟩
theorem KF.fl {L : List Nat} {s s' σ : xS} (h : KF s σ) (f : FL L s s') (hL : ∀ x ∈ [2560, 2688], x ∉ L) : KF s' σ := fun j hj hn => by
  have a := h j hj hn
  have b := KF_fl f hL
  exact ⟨(f 219 j (hL 2560 (by decide))).trans a.1, fun i => (rowsA f (hL 2688 (by decide)) j i hj).trans (a.2 i)⟩
def EmW (s s' : xS) (a : Int) : Prop := KF s' s ∧ (s 219 (s 218 6).toNat < 100 → s' 219 (s 218 6).toNat = s 219 (s 218 6).toNat + 1 ∧ ∀ i : Nat, s' (220 + 1 + (s 218 6).toNat) i = if i = (s 219 (s 218 6).toNat).toNat then a else s (220 + 1 + (s 218 6).toNat) i)
theorem EmW_1 {s : xS} {a c d : Int} {n : Nat} (g : 0 ≤ s 218 6 ∧ s 218 6 < 8) (hn : n = (s 218 6).toNat) (hc : c = s 219 n) (hd : d = s 219 n + 1) : EmW s (x_up (x_up s (220 + 1 + n) c.toNat a) 219 n d) a := by
  subst hn
  subst hc
  refine ⟨fun j hj hn => ⟨?_, fun i => ?_⟩, fun _ => ⟨?_, fun i => ?_⟩⟩
  · rw [x_up_at, if_neg (by omega), x_up_q (by omega)]
  · rw [x_up_q (by omega), x_up_rz, if_neg (by omega)]
  · rw [x_up_at, if_pos rfl]; exact hd
  · rw [x_up_q (by omega), x_up_rz]
    by_cases e : i = (s 219 (s 218 6).toNat).toNat
    · rw [if_pos ⟨rfl, e⟩, if_pos e]
    · rw [if_neg (fun w => e w.2), if_neg e]
theorem EmW_0 {s : xS} {a : Int} (h : 100 ≤ s 219 (s 218 6).toNat) : EmW s s a := ⟨KF.rf, fun w => by omega⟩
def HoW (s s' : xS) (a : Int) : Prop := s 218 4 < 100 → s' 218 4 = s 218 4 + 1 ∧ ∀ i : Nat, s' 230 i = if i = (s 218 4).toNat then a else s 230 i
theorem CK.emit {s s' : xS} {l r : List Int} {a : Int} (h : CK s l r) (w : EmW s s' a) (f : FL [2560, 2688] s s') (hr : (r.length : Int) < 100) : CK s' l (a :: r) := by
  have e6 : s' 218 6 = s 218 6 := f 218 6 (show 2503 ∉ _ from by decide)
  have e4 : s' 218 4 = s 218 4 := f 218 4 (show 2501 ∉ _ from by decide)
  have e0 : s' 230 = s 230 := funext fun i => f 230 i (show 2816 ∉ _ from by decide)
  obtain ⟨h1, h2, h3, h4⟩ := h
  obtain ⟨-, w⟩ := w
  obtain ⟨w1, w2⟩ := w (by omega)
  unfold CK
  rw [e6, e4, e0]
  refine ⟨h1, h2, by rw [w1, h3, List.length_cons]; omega, h4.push (fun j => ?_)⟩
  rw [w2 j, show (s 219 (s 218 6).toNat).toNat = r.length by omega]
theorem CK.hold {s s' : xS} {l r : List Int} {a : Int} (h : CK s l r) (g : 0 ≤ s 218 6 ∧ s 218 6 < 8) (w : HoW s s' a) (f : FL [2501, 2816] s s') (hl : (l.length : Int) < 100) : CK s' (a :: l) r := by
  have e6 : s' 218 6 = s 218 6 := f 218 6 (show 2503 ∉ _ from by decide)
  have e9 : s' 219 = s 219 := funext fun i => f 219 i (show 2560 ∉ _ from by decide)
  have er := rowsA f (by decide)
  obtain ⟨h1, h2, h3, h4⟩ := h
  obtain ⟨w1, w2⟩ := w (by omega)
  unfold CK
  rw [e6, e9]
  refine ⟨by rw [w1, h1, List.length_cons]; omega, h2.push (fun j => ?_), h3, h4.cg (fun j _ => er _ j (by omega))⟩
  rw [w2 j, show (s 218 4).toNat = l.length by omega]
/-- signs go into the row -/
def ReI (s0 s : xS) (a : Int) : Prop := KF s s0 ∧ s 218 6 = s0 218 6 ∧ ∀ l r : List Int, CK s0 l r → (l.length : Int) + r.length ≤ 100 → ∃ l1 r1 : List Int, CK s l1 r1 ∧ rel a l1 r1 = rel a l r ∧ (l1.length : Int) + r1.length = l.length + r.length
def ReW (s0 s : xS) (a : Int) : Prop := KF s s0 ∧ ∀ l r : List Int, CK s0 l r → (l.length : Int) + r.length ≤ 100 → CK s (rel a l r).1 (rel a l r).2
theorem ReI_0 {s : xS} {a : Int} : ReI s s a := ⟨KF.rf, rfl, fun l r h _ => ⟨l, r, h, rfl, rfl⟩⟩
theorem ReI.pop {s0 s s1 s2 : xS} {a c : Int} (h : ReI s0 s a) (g : 0 ≤ s 218 6 ∧ s 218 6 < 8) (hw : 0 < s 218 4) (hx : a ≤ s 230 (s 218 4 - 1).toNat) (f1 : FL [2501] s s1) (e1 : s1 218 4 = s 218 4 - 1) (w : EmW s1 s2 c) (hc : c = 1000 * s 230 (s 218 4 - 1).toNat) (f2 : FL [2560, 2688] s1 s2) : ReI s0 s2 a := by
  have e6 : s1 218 6 = s 218 6 := f1 218 6 (show 2503 ∉ _ from by decide)
  have e62 : s2 218 6 = s1 218 6 := f2 218 6 (show 2503 ∉ _ from by decide)
  have e9 : s1 219 = s 219 := funext fun i => f1 219 i (show 2560 ∉ _ from by decide)
  have e0 : s1 230 = s 230 := funext fun i => f1 230 i (show 2816 ∉ _ from by decide)
  have er := rowsA f1 (by decide)
  obtain ⟨h1, h2, h3⟩ := h
  refine ⟨(h1.fl f1 (by decide)).tr (e6.trans h2) w.1, e62.trans (e6.trans h2), fun l r hk hl => ?_⟩
  obtain ⟨l1, r1, k1, k2, k3⟩ := h3 l r hk hl
  cases l1 with
  | nil => have q := k1.1; rw [List.length_nil] at q; omega
  | cons x l2 =>
    obtain ⟨a1, a2, a3, a4⟩ := k1
    rw [List.length_cons] at a1 k3
    have ex : s 230 (s 218 4 - 1).toNat = x := by rw [show (s 218 4 - 1).toNat = l2.length by omega]; exact a2.1
    have ck : CK s1 l2 r1 := by
      unfold CK
      rw [e6, e9, e0]
      exact ⟨by omega, a2.2, a3, a4.cg (fun j _ => er _ j (by omega))⟩
    refine ⟨l2, c :: r1, ck.emit w f2 (by omega), ?_, by rw [List.length_cons]; omega⟩
    rw [← k2, rel_y (by omega), hc, ex]
theorem ReI.fin0 {s0 s : xS} {a : Int} (h : ReI s0 s a) (hw : s 218 4 ≤ 0) : ReW s0 s a := by
  obtain ⟨h1, h2, h3⟩ := h
  refine ⟨h1, fun l r hk hl => ?_⟩
  obtain ⟨l1, r1, k1, k2, k3⟩ := h3 l r hk hl
  cases l1 with
  | nil => rw [← k2]; exact k1
  | cons x l2 => have q := k1.1; rw [List.length_cons] at q; omega
theorem ReI.fin1 {s0 s : xS} {a : Int} (h : ReI s0 s a) (hx : s 230 (s 218 4 - 1).toNat < a) : ReW s0 s a := by
  obtain ⟨h1, h2, h3⟩ := h
  refine ⟨h1, fun l r hk hl => ?_⟩
  obtain ⟨l1, r1, k1, k2, k3⟩ := h3 l r hk hl
  cases l1 with
  | nil => rw [← k2]; exact k1
  | cons x l2 =>
    have a1 := k1.1
    rw [List.length_cons] at a1
    have ex : s 230 (s 218 4 - 1).toNat = x := by rw [show (s 218 4 - 1).toNat = l2.length by omega]; exact k1.2.1.1
    rw [← k2, rel_n (by omega)]
    exact k1
def JoW (s0 s : xS) (a : Int) : Prop := KF s s0 ∧ ∀ l r : List Int, CK s0 l r → (l.length : Int) + r.length ≤ 99 → CK s (a :: (rel a l r).1) (rel a l r).2
theorem JoW.of {s0 s1 s2 : xS} {a : Int} (h : ReW s0 s1 a) (e6 : s1 218 6 = s0 218 6) (g : 0 ≤ s1 218 6 ∧ s1 218 6 < 8) (w : HoW s1 s2 a) (f : FL [2501, 2816] s1 s2) : JoW s0 s2 a := by
  refine ⟨h.1.fl f (by decide), fun l r hk hl => ?_⟩
  have q := rel_len (m := a) l r
  exact (h.2 l r hk (by omega)).hold g w f (by omega)
def ClW (s0 s : xS) : Prop := KF s s0 ∧ ∀ l r : List Int, CK s0 l r → (l.length : Int) + r.length ≤ 100 → CK s (rel 7 l r).1.tail (rel 7 l r).2
theorem ClW.of {s0 s1 s2 : xS} (h : ReW s0 s1 7) (g : 0 ≤ s1 218 6 ∧ s1 218 6 < 8) (f : FL [2501, 2502] s1 s2) (e4 : (0 < s1 218 4 ∧ s2 218 4 = s1 218 4 - 1) ∨ (s1 218 4 ≤ 0 ∧ s2 218 4 = s1 218 4)) : ClW s0 s2 := by
  have e6 : s2 218 6 = s1 218 6 := f 218 6 (show 2503 ∉ _ from by decide)
  have e9 : s2 219 = s1 219 := funext fun i => f 219 i (show 2560 ∉ _ from by decide)
  have e0 : s2 230 = s1 230 := funext fun i => f 230 i (show 2816 ∉ _ from by decide)
  have er := rowsA f (by decide)
  refine ⟨h.1.fl f (by decide), fun l r hk hl => ?_⟩
  have q := h.2 l r hk hl
  generalize (rel 7 l r).1 = l1 at q
  generalize (rel 7 l r).2 = r1 at q
  obtain ⟨a1, a2, a3, a4⟩ := q
  unfold CK
  rw [e6, e9, e0]
  cases l1 with
  | nil => rw [List.length_nil] at a1; exact ⟨by show _ = (([] : List Int).length : Int); rw [List.length_nil]; omega, trivial, a3, a4.cg (fun j _ => er _ j (by omega))⟩
  | cons x l2 => rw [List.length_cons] at a1; exact ⟨by show _ = (l2.length : Int); omega, a2.2, a3, a4.cg (fun j _ => er _ j (by omega))⟩
def OpW (s0 s : xS) : Prop := ∀ l r : List Int, CK s0 l r → (l.length : Int) + r.length ≤ 99 → CK s (6 :: l) r
theorem OpW.of {L : List Nat} {s0 s1 s2 : xS} (f1 : FL L s0 s1) (hL : ∀ x ∈ LCK, x ∉ L) (g : 0 ≤ s0 218 6 ∧ s0 218 6 < 8) (w : HoW s1 s2 6) (f : FL [2501, 2816] s1 s2) : OpW s0 s2 := fun l r hk hl => by
  have e6 : s1 218 6 = s0 218 6 := f1 218 6 (hL 2503 (by decide))
  exact (hk.fl f1 g hL).hold (by omega) w f (by omega)
/-- the value of a leaf's numbers -/
theorem LnZ.one {s s' : xS} {k hi z : Int} (hk : k ≠ 2) (n1 : NmC s s' 0 hi 3 z) (h0 : s' 177 5 = 0) : z = lnv (s 178) (s 177 1) (s 177 3) k := by
  unfold NmC NmR at n1
  unfold lnv
  rw [if_neg hk]
  rcases n1 with ⟨a1, a2, a3, a4, a5⟩ | ⟨a1, a2, a3, a4, a5, a6⟩ | ⟨a1, a2, a3, a4, a5, a6⟩
  · exact absurd (a3.symm.trans h0) a1
  · exact a3
  · exact absurd (a4.symm.trans h0) a2
theorem LnZ.two {s s1 s' : xS} {z1 z2 z : Int} (t1 : NmC s s1 0 3 3 z1) (n1 : NmC s1 s' 0 99 3 z2) (h8 : s1 178 = s 178) (h1 : s1 177 1 = s 177 1) (hz : z = 100 * z1 + z2) (h0 : s' 177 5 = 0) : z = lnv (s 178) (s 177 1) (s 177 3) 2 := by
  unfold NmC NmR at t1 n1
  unfold lnv
  rw [h8, h1] at n1
  rw [if_pos rfl]
  rcases n1 with ⟨b1, b2, b3, b4, b5⟩ | ⟨b1, b2, b3, b4, b5, b6⟩ | ⟨b1, b2, b3, b4, b5, b6⟩
  · exact absurd (b3.symm.trans h0) b1
  · rcases t1 with ⟨a1, a2, a3, a4, a5⟩ | ⟨a1, a2, a3, a4, a5, a6⟩ | ⟨a1, a2, a3, a4, a5, a6⟩
    · exact absurd (a3.symm.trans b1) a1
    · rw [a6] at b3; rw [hz, a3, b3]
    · exact absurd (a4.symm.trans b1) a2
  · exact absurd (b4.symm.trans h0) b2
/-- a leaf was read -/
theorem LnC.lfX {s1 s' : xS} {T : Nat → Int} {n p : Int} (h : LnC s1 s' (lkd T n p)) (hT : s1 178 = T) (hn : s1 177 1 = n) (hp : s1 177 3 = nx T n p) (hk : lkd T n p ≠ -1) (h0 : s' 177 5 = 0) : lff T n p = 0 ∧ s' 177 3 = lfn T n p := by
  unfold LnC at h
  rw [hT, hn, hp] at h
  rcases h with ⟨a1, a2, _⟩ | ⟨a1, a2, a3, a4, a5, a6⟩ | ⟨a1, a2, a3, a4, a5, a6, a7⟩ | ⟨a1, a2, a3, a4, a5, a6⟩ | ⟨a1, a2, a3, a4⟩
  · exact absurd (a2.symm.trans h0) a1
  · obtain ⟨l1, l2⟩ := lff_0 hk a3 a2
    exact ⟨l1, a6.trans l2.symm⟩
  · rw [a3] at a2
    obtain ⟨l1, l2, l3⟩ := lff_2 a3 a2
    exact ⟨l1.trans a4, a7.trans l3.symm⟩
  · exact absurd (a5.symm.trans h0) a4
  · exact absurd (a3.symm.trans h0) a2
/-- the class stands: wants one; or one was read (signs not stay where they wait) -/
def YK (T : Nat → Int) (n : Int) (s : xS) (o p : Int) : Prop := ∃ l r : List Int, AX T n 1 o p l r ∧ CK s l r
def XK (T : Nat → Int) (n : Int) (s : xS) (o p : Int) : Prop := ∃ l r : List Int, AX T n 0 o p (rel 9 l r).1 (rel 9 l r).2 ∧ CK s l r
def ZK (T : Nat → Int) (n : Int) (s : xS) : Prop := ∃ l r : List Int, ADX T n (rel 7 l r).2 ∧ CK s l r ∧ (l.length : Int) + r.length ≤ 100
section YKS
variable {T : Nat → Int} {n o p : Int} {s s1 s2 : xS} {L : List Nat}
theorem YK.fl (y : YK T n s o p) (f : FL L s s1) (g : 0 ≤ s 218 6 ∧ s 218 6 < 8) (hL : ∀ x ∈ LCK, x ∉ L) : YK T n s1 o p := by
  obtain ⟨l, r, h1, h2⟩ := y
  exact ⟨l, r, h1, h2.fl f g hL⟩
theorem XK.fl (y : XK T n s o p) (f : FL L s s1) (g : 0 ≤ s 218 6 ∧ s 218 6 < 8) (hL : ∀ x ∈ LCK, x ∉ L) : XK T n s1 o p := by
  obtain ⟨l, r, h1, h2⟩ := y
  exact ⟨l, r, h1, h2.fl f g hL⟩
theorem YK.sn (y : YK T n s o p) (hn : 0 ≤ n ∧ n ≤ 100) (g : 0 ≤ s 218 6 ∧ s 218 6 < 8) (hw : wv T n p = 10631) (w : HoW s s1 9) (f : FL [2501, 2816] s s1) : YK T n s1 o (nx T n p) := by
  obtain ⟨l, r, h1, h2⟩ := y
  have q := (h1.inv hn.1).2.2.2.2.2.2
  have hl := wv_lt (T := T) (n := n) (p := p) (by omega)
  exact ⟨9 :: l, r, h1.sn hw, h2.hold g w f (by omega)⟩
theorem YK.op (y : YK T n s o p) (hn : 0 ≤ n ∧ n ≤ 100) (hc : ch T n p = 40) (ho : o < 5) (w : OpW s s1) : YK T n s1 (o + 1) (nx T n p) := by
  obtain ⟨l, r, h1, h2⟩ := y
  have q := (h1.inv hn.1).2.2.2.2.2.2
  have hs := (ch_sg hc (by decide) (by decide) (by decide)).2.2.1
  exact ⟨6 :: l, r, h1.op hc ho, w l r h2 (by omega)⟩
theorem YK.lf (y : YK T n s o p) (hn : 0 ≤ n ∧ n ≤ 100) (hw : wv T n p ≠ 10631) (hc : ch T n p ≠ 40) (hf : lff T n p = 0) (w : ∀ l r : List Int, CK s l r → (l.length : Int) + r.length ≤ 99 → CK s1 l (lfc T n p :: r)) : XK T n s1 o (lfn T n p) := by
  obtain ⟨l, r, h1, h2⟩ := y
  have q := (h1.inv hn.1).2.2.2.2.2.2
  have hl := lff_lt hf
  exact ⟨l, lfc T n p :: r, h1.lf hw hc hf, w l r h2 (by omega)⟩
theorem XK.cl (y : XK T n s o p) (hn : 0 ≤ n ∧ n ≤ 100) (hc : ch T n p = 41) (ho : 0 < o) (w : ClW s s1) : XK T n s1 (o - 1) (nx T n p) := by
  obtain ⟨l, r, h1, h2⟩ := y
  have q := (h1.inv hn.1).2.2.2.2.2.2
  have q2 := (h1.inv hn.1).2.1
  have q3 := rel_len (m := 9) l r
  have h3 := h1.cl hc ho
  rw [rel_rel (by decide)] at h3
  exact ⟨_, _, h3, w.2 l r h2 (by omega)⟩
theorem XK.jn {m : Int} (y : XK T n s o p) (hn : 0 ≤ n ∧ n ≤ 100) (hw : (wv T n p = 1111 ∧ m = 8) ∨ (wv T n p = 423 ∧ m = 7)) (w : JoW s s1 m) : YK T n s1 o (nx T n p) := by
  obtain ⟨l, r, h1, h2⟩ := y
  have q := (h1.inv hn.1).2.2.2.2.2.2
  have hl := wv_lt (T := T) (n := n) (p := p) (by omega)
  have q3 := rel_len (m := 9) l r
  have h3 := h1.jn hw
  rw [rel_rel (by omega)] at h3
  exact ⟨_, _, h3, w.2 l r h2 (by omega)⟩
theorem XK.fin (y : XK T n s o p) (hn : 0 ≤ n ∧ n ≤ 100) (ho : o ≤ 0) (hp : n ≤ p) : ZK T n s := by
  obtain ⟨l, r, h1, h2⟩ := y
  have q := (h1.inv hn.1).2.2.2.2.2.2
  have q2 := (h1.inv hn.1).2.1
  have q3 := rel_len (m := 9) l r
  have h3 := h1.fin ho hp
  rw [rel_rel (by decide)] at h3
  exact ⟨l, r, h3, h2, by omega⟩
end YKS
/-- what the class's reading of an ask leaves behind -/
def RdX (s s' : xS) : Prop := ∃ row : List Int, ADX (s 178) (s 177 1) row ∧ s' 219 (s 218 6).toNat = row.length ∧ stl (s' (220 + 1 + (s 218 6).toNat)) row
theorem RdX.of {s s1 s2 s3 : xS} (z : ZK (s 178) (s 177 1) s1) (e6 : s1 218 6 = s 218 6) (w : ReW s1 s2 7) (e62 : s2 218 6 = s1 218 6) (f : FL [2503] s2 s3) (g : 0 ≤ s 218 6 ∧ s 218 6 < 8) : RdX s s3 := by
  obtain ⟨l, r, h1, h2, h3⟩ := z
  obtain ⟨-, -, k3, k4⟩ := w.2 l r h2 h3
  rw [e62, e6] at k3 k4
  refine ⟨_, h1, ?_, ?_⟩
  · rw [f 219 _ (show 2560 ∉ _ from by decide)]; exact k3
  · exact k4.cg (fun j _ => rowsA f (by decide) _ j (by omega))
/-! the reference -/
def wd (w : Int) : Int := if w = 3 then 6 else w + 7
def dc (k a : Int) : Int := if k < 3 then 1000 * (k + 7) else 1000 * (k - 2) + a
def rkF (s : xS) (A i : Nat) : Int := dc (s 287 (110 * A + i)) (s 288 (110 * A + i))
def RK (s : xS) (l r : List Int) : Prop := s 256 48 = l.length ∧ stl (fun i => wd (s 289 i)) l ∧ s 256 47 = r.length ∧ stl (rkF s (s 256 43).toNat) r
def LRKq : List Nat := [4140, 4144, 4145, 6080, 6144, 6208]
theorem RK.fl {L : List Nat} {s s' : xS} {l r : List Int} (h : RK s l r) (f : FL L s s') (hL : ∀ x ∈ LRKq, x ∉ L) : RK s' l r := by
  have a3 : s' 256 43 = s 256 43 := f 256 43 (hL 4140 (by decide))
  have a7 : s' 256 47 = s 256 47 := f 256 47 (hL 4144 (by decide))
  have a8 : s' 256 48 = s 256 48 := f 256 48 (hL 4145 (by decide))
  have b7 : s' 287 = s 287 := funext fun i => f 287 i (hL 6080 (by decide))
  have b8 : s' 288 = s 288 := funext fun i => f 288 i (hL 6144 (by decide))
  have b9 : s' 289 = s 289 := funext fun i => f 289 i (hL 6208 (by decide))
  unfold RK rkF at h ⊢
  rw [a3, a7, a8, b7, b8, b9]
  exact h
/-- the other asks of the reference are as they were -/
def KR (s σ : xS) : Prop := ∀ j : Nat, j < 110 * (σ 256 43).toNat → s 287 j = σ 287 j ∧ s 288 j = σ 288 j
theorem KR.rf {s : xS} : KR s s := fun _ _ => ⟨rfl, rfl⟩
theorem KR.tr {s1 s2 σ : xS} (h : KR s1 σ) (e : s1 256 43 = σ 256 43) (h2 : KR s2 s1) : KR s2 σ := fun j hj => by
  have a := h j hj
  have b := h2 j (by rw [e]; exact hj)
  exact ⟨b.1.trans a.1, b.2.trans a.2⟩
theorem KR.fl {L : List Nat} {s s' σ : xS} (h : KR s σ) (f : FL L s s') (hL : ∀ x ∈ [6080, 6144], x ∉ L) : KR s' σ := fun j hj => ⟨(f 287 j (hL 6080 (by decide))).trans (h j hj).1, (f 288 j (hL 6144 (by decide))).trans (h j hj).2⟩
def PuW (s s' : xS) (a b : Int) : Prop := s' 256 47 = s 256 47 + 1 ∧ (∀ i : Nat, s' 287 i = if i = (110 * s 256 43 + s 256 47).toNat then a else s 287 i) ∧ ∀ i : Nat, s' 288 i = if i = (110 * s 256 43 + s 256 47).toNat then b else s 288 i
theorem KR.put {s s' : xS} {a b : Int} (w : PuW s s' a b) (g : 0 ≤ s 256 43 ∧ 0 ≤ s 256 47) : KR s' s := fun j hj => by
  rw [w.2.1 j, w.2.2 j, if_neg (by omega), if_neg (by omega)]
  exact ⟨rfl, rfl⟩
theorem RK.put {s s' : xS} {l r : List Int} {a b : Int} (h : RK s l r) (w : PuW s s' a b) (g : 0 ≤ s 256 43 ∧ 0 ≤ s 256 47) (f : FL [6080, 6144, 4144] s s') : RK s' l (dc a b :: r) := by
  have a3 : s' 256 43 = s 256 43 := f 256 43 (show 4140 ∉ _ from by decide)
  have a8 : s' 256 48 = s 256 48 := f 256 48 (show 4145 ∉ _ from by decide)
  have b9 : s' 289 = s 289 := funext fun i => f 289 i (show 6208 ∉ _ from by decide)
  obtain ⟨h1, h2, h3, h4⟩ := h
  obtain ⟨w1, w2, w3⟩ := w
  unfold RK
  rw [a3, a8, b9]
  refine ⟨h1, h2, by rw [w1, h3, List.length_cons]; omega, h4.push (fun j => ?_)⟩
  unfold rkF
  rw [w2, w3, show (110 * s 256 43 + s 256 47).toNat = 110 * (s 256 43).toNat + r.length by omega]
  by_cases e : j = r.length
  · rw [if_pos e, if_pos (by rw [e]), if_pos (by rw [e])]
  · rw [if_neg e, if_neg (by omega), if_neg (by omega)]
theorem RK.hold {s s' : xS} {l r : List Int} {a : Int} (h : RK s l r) (w : s' 256 48 = s 256 48 + 1 ∧ ∀ i : Nat, s' 289 i = if i = (s 256 48).toNat then a else s 289 i) (f : FL [6208, 4145] s s') : RK s' (wd a :: l) r := by
  have a3 : s' 256 43 = s 256 43 := f 256 43 (show 4140 ∉ _ from by decide)
  have a7 : s' 256 47 = s 256 47 := f 256 47 (show 4144 ∉ _ from by decide)
  have b7 : s' 287 = s 287 := funext fun i => f 287 i (show 6080 ∉ _ from by decide)
  have b8 : s' 288 = s 288 := funext fun i => f 288 i (show 6144 ∉ _ from by decide)
  obtain ⟨h1, h2, h3, h4⟩ := h
  obtain ⟨w1, w2⟩ := w
  unfold RK rkF
  rw [a3, a7, b7, b8]
  refine ⟨by rw [w1, h1, List.length_cons]; omega, h2.push (fun j => ?_), h3, h4⟩
  rw [w2 j, show (s 256 48).toNat = l.length by omega]
  by_cases e : j = l.length
  · rw [if_pos e, if_pos e]
  · rw [if_neg e, if_neg e]
/-- signs go into the row -/
def WkI (s0 s : xS) (a : Int) : Prop := KR s s0 ∧ ∀ l r : List Int, RK s0 l r → ∃ l1 r1 : List Int, RK s l1 r1 ∧ rel (a + 7) l1 r1 = rel (a + 7) l r
def WkW (s0 s : xS) (a : Int) : Prop := KR s s0 ∧ ∀ l r : List Int, RK s0 l r → RK s (rel (a + 7) l r).1 (rel (a + 7) l r).2
theorem WkI_0 {s : xS} {a : Int} : WkI s s a := ⟨KR.rf, fun l r h => ⟨l, r, h, rfl⟩⟩
theorem WkI.pop {s0 s s1 s2 : xS} {a t : Int} (h : WkI s0 s a) (e3 : s 256 43 = s0 256 43) (g : 0 ≤ s 256 43 ∧ 0 ≤ s 256 47) (hw : 0 < s 256 48) (ht : t = s 289 (s 256 48 - 1).toNat) (ht3 : 0 ≤ t ∧ t ≤ 2) (hx : a ≤ t) (f1 : FL [4145] s s1) (e1 : s1 256 48 = s 256 48 - 1) (w : PuW s1 s2 t 0) (f2 : FL [6080, 6144, 4144] s1 s2) : WkI s0 s2 a := by
  have a3 : s1 256 43 = s 256 43 := f1 256 43 (show 4140 ∉ _ from by decide)
  have a7 : s1 256 47 = s 256 47 := f1 256 47 (show 4144 ∉ _ from by decide)
  have b7 : s1 287 = s 287 := funext fun i => f1 287 i (show 6080 ∉ _ from by decide)
  have b8 : s1 288 = s 288 := funext fun i => f1 288 i (show 6144 ∉ _ from by decide)
  have b9 : s1 289 = s 289 := funext fun i => f1 289 i (show 6208 ∉ _ from by decide)
  obtain ⟨h1, h3⟩ := h
  refine ⟨(h1.fl f1 (by decide)).tr (a3.trans e3) (KR.put w (by omega)), fun l r hk => ?_⟩
  obtain ⟨l1, r1, k1, k2⟩ := h3 l r hk
  cases l1 with
  | nil => have q := k1.1; rw [List.length_nil] at q; omega
  | cons x l2 =>
    obtain ⟨c1, c2, c3, c4⟩ := k1
    rw [List.length_cons] at c1
    have ex : wd t = x := by rw [ht, show (s 256 48 - 1).toNat = l2.length by omega]; exact c2.1
    have ck : RK s1 l2 r1 := by
      unfold RK rkF at *
      rw [a3, a7, b7, b8, b9]
      exact ⟨by omega, c2.2, c3, c4⟩
    have e7 : wd t = t + 7 := by unfold wd; rw [if_neg (by omega)]
    refine ⟨l2, dc t 0 :: r1, ck.put w (by omega) f2, ?_⟩
    rw [← k2, rel_y (by omega), ← ex, e7]
    unfold dc
    rw [if_pos (by omega)]
theorem WkI.fin0 {s0 s : xS} {a : Int} (h : WkI s0 s a) (hw : s 256 48 ≤ 0) : WkW s0 s a := by
  refine ⟨h.1, fun l r hk => ?_⟩
  obtain ⟨l1, r1, k1, k2⟩ := h.2 l r hk
  cases l1 with
  | nil => rw [← k2]; exact k1
  | cons x l2 => have q := k1.1; rw [List.length_cons] at q; omega
theorem WkI.fin1 {s0 s : xS} {a : Int} (h : WkI s0 s a) (ha : 0 ≤ a) (hx : s 289 (s 256 48 - 1).toNat = 3 ∨ s 289 (s 256 48 - 1).toNat < a) : WkW s0 s a := by
  refine ⟨h.1, fun l r hk => ?_⟩
  obtain ⟨l1, r1, k1, k2⟩ := h.2 l r hk
  cases l1 with
  | nil => rw [← k2]; exact k1
  | cons x l2 =>
    have c1 := k1.1
    rw [List.length_cons] at c1
    have ex : wd (s 289 (s 256 48 - 1).toNat) = x := by rw [show (s 256 48 - 1).toNat = l2.length by omega]; exact k1.2.1.1
    unfold wd at ex
    rw [← k2, rel_n (by split at ex <;> omega)]
    exact k1
/-- the reference stands -/
def YR (T : Nat → Int) (n : Int) (s : xS) (w o p : Int) : Prop := ∃ l r : List Int, AX T n w o p l r ∧ RK s l r
section YRS
variable {T : Nat → Int} {n o p : Int} {s s1 s2 s3 : xS} {L : List Nat}
theorem YR.fl {w : Int} (y : YR T n s w o p) (f : FL L s s1) (hL : ∀ x ∈ LRKq, x ∉ L) : YR T n s1 w o p := by
  obtain ⟨l, r, h1, h2⟩ := y
  exact ⟨l, r, h1, h2.fl f hL⟩
theorem YR.sn (y : YR T n s 1 o p) (hw : wv T n p = 10631) (w : s1 256 48 = s 256 48 + 1 ∧ ∀ i : Nat, s1 289 i = if i = (s 256 48).toNat then 2 else s 289 i) (f : FL [6208, 4145] s s1) : YR T n s1 1 o (nx T n p) := by
  obtain ⟨l, r, h1, h2⟩ := y
  exact ⟨9 :: l, r, h1.sn hw, h2.hold w f⟩
theorem YR.op (y : YR T n s 1 o p) (hc : ch T n p = 40) (ho : o < 5) (w : s1 256 48 = s 256 48 + 1 ∧ ∀ i : Nat, s1 289 i = if i = (s 256 48).toNat then 3 else s 289 i) (f : FL [6208, 4145] s s1) : YR T n s1 1 (o + 1) (nx T n p) := by
  obtain ⟨l, r, h1, h2⟩ := y
  exact ⟨6 :: l, r, h1.op hc ho, h2.hold w f⟩
theorem YR.lf (y : YR T n s 1 o p) (hw : wv T n p ≠ 10631) (hc : ch T n p ≠ 40) (hf : lff T n p = 0) (w : ∀ l r : List Int, RK s l r → RK s1 (rel 9 l (lfc T n p :: r)).1 (rel 9 l (lfc T n p :: r)).2) : YR T n s1 0 o (lfn T n p) := by
  obtain ⟨l, r, h1, h2⟩ := y
  exact ⟨_, _, h1.lf hw hc hf, w l r h2⟩
theorem YR.jn {m : Int} (y : YR T n s 0 o p) (hw : (wv T n p = 1111 ∧ m = 1) ∨ (wv T n p = 423 ∧ m = 0)) (k : WkW s s1 m) (w : s2 256 48 = s1 256 48 + 1 ∧ ∀ i : Nat, s2 289 i = if i = (s1 256 48).toNat then m else s1 289 i) (f : FL [6208, 4145] s1 s2) : YR T n s2 1 o (nx T n p) := by
  obtain ⟨l, r, h1, h2⟩ := y
  have e : wd m = m + 7 := by unfold wd; rw [if_neg (by omega)]
  refine ⟨(m + 7) :: (rel (m + 7) l r).1, (rel (m + 7) l r).2, h1.jn (by omega), ?_⟩
  rw [← e]
  rw [e]
  have q := (k.2 l r h2).hold w f
  rw [e] at q
  exact q
theorem YR.cl (y : YR T n s 0 o p) (hc : ch T n p = 41) (ho : 0 < o) (k : WkW s s1 0) (f1 : FL [4145] s1 s2) (h0 : 0 < s1 256 48) (e1 : s2 256 48 = s1 256 48 - 1) (k2 : WkW s2 s3 2) : YR T n s3 0 (o - 1) (nx T n p) := by
  obtain ⟨l, r, h1, h2⟩ := y
  have a3 : s2 256 43 = s1 256 43 := f1 256 43 (show 4140 ∉ _ from by decide)
  have a7 : s2 256 47 = s1 256 47 := f1 256 47 (show 4144 ∉ _ from by decide)
  have b7 : s2 287 = s1 287 := funext fun i => f1 287 i (show 6080 ∉ _ from by decide)
  have b8 : s2 288 = s1 288 := funext fun i => f1 288 i (show 6144 ∉ _ from by decide)
  have b9 : s2 289 = s1 289 := funext fun i => f1 289 i (show 6208 ∉ _ from by decide)
  have h3 := h1.cl hc ho
  have h4 := k.2 l r h2
  rw [show (0 : Int) + 7 = 7 from rfl] at h4
  refine ⟨_, _, h3, ?_⟩
  have h5 : RK s2 (rel 7 l r).1.tail (rel 7 l r).2 := by
    generalize (rel 7 l r).1 = l1 at h4
    generalize (rel 7 l r).2 = r1 at h4
    obtain ⟨c1, c2, c3, c4⟩ := h4
    unfold RK rkF at *
    rw [a3, a7, b7, b8, b9]
    cases l1 with
    | nil => rw [List.length_nil] at c1; omega
    | cons x l2 => rw [List.length_cons] at c1; exact ⟨by show _ = (l2.length : Int); omega, c2.2, c3, c4⟩
  exact k2.2 _ _ h5
end YRS
/-- what the reference's ask leaves behind -/
def RrX (s s' : xS) : Prop := ∃ row : List Int, ADX (s 283) (s 256 34) row ∧ s' 286 (s 256 43).toNat = row.length ∧ stl (rkF s' (s 256 43).toNat) row
theorem RrX.of {s s1 s2 s3 : xS} {o p a b : Int} (y : YR (s 283) (s 256 34) s1 0 o p) (ho : o ≤ 0) (hp : s 256 34 ≤ p) (k : WkW s1 s2 0) (e3 : s2 256 43 = s 256 43) (ea : a = s 256 43) (eb : b = s2 256 47) (f : FL [4140] (x_up s2 286 a.toNat b) s3) : RrX s s3 := by
  obtain ⟨l, r, h1, h2⟩ := y
  obtain ⟨-, -, c3, c4⟩ := k.2 l r h2
  rw [show (0 : Int) + 7 = 7 from rfl] at c3 c4
  refine ⟨_, h1.fin ho hp, ?_, ?_⟩
  · rw [f 286 _ (show 6016 ∉ _ from by decide), x_up_at, if_pos (by rw [ea]), eb, c3]
  · rw [e3] at c4
    refine c4.cg (fun j _ => ?_)
    unfold rkF
    rw [f 287 _ (show 6080 ∉ _ from by decide), f 288 _ (show 6144 ∉ _ from by decide), x_up_q (by decide), x_up_q (by decide)]
theorem CK_0 {s : xS} (h1 : s 218 4 = 0) (h2 : s 219 (s 218 6).toNat = 0) : CK s [] [] := ⟨h1, trivial, h2, trivial⟩
theorem KF.st {s σ : xS} {n : Nat} {v : Int} (h : KF s σ) (hn : (n : Int) = σ 218 6) : KF (x_up s 219 n v) σ := fun j hj hn2 => by
  have a := h j hj hn2
  refine ⟨?_, fun i => ?_⟩
  · rw [x_up_at, if_neg (by omega)]; exact a.1
  · rw [x_up_q (by omega)]; exact a.2 i
theorem RdX.fl {L : List Nat} {s s1 s2 : xS} (h : RdX s s1) (f : FL L s1 s2) (g : 0 ≤ s 218 6 ∧ s 218 6 < 8) (hL : ∀ x ∈ [2560, 2688], x ∉ L) : RdX s s2 := by
  obtain ⟨row, h1, h2, h3⟩ := h
  exact ⟨row, h1, (f 219 _ (hL 2560 (by decide))).trans h2, h3.cg (fun j _ => rowsA f (hL 2688 (by decide)) _ j (by omega))⟩
def AkX (s s' : xS) (z : Int) : Prop := KF s' s ∧ (0 ≤ z → RdX s s')
theorem KF.up {s σ : xS} {q i : Nat} {v : Int} (h : KF s σ) (hL : x_pl q i ∉ [2560, 2688]) : KF (x_up s q i v) σ := h.fl FL.one (fun x hx hm => hL (by rw [← List.mem_singleton.mp hm]; exact hx))
theorem KR.up {s σ : xS} {q i : Nat} {v : Int} (h : KR s σ) (hL : x_pl q i ∉ [6080, 6144]) : KR (x_up s q i v) σ := h.fl FL.one (fun x hx hm => hL (by rw [← List.mem_singleton.mp hm]; exact hx))
/-- what waits and the row are as they were -/
def RT (σ s : xS) : Prop := ∀ l r : List Int, RK σ l r → RK s l r
theorem RT.rf {s : xS} : RT s s := fun _ _ h => h
theorem RT.fl {L : List Nat} {s s' σ : xS} (h : RT σ s) (f : FL L s s') (hL : ∀ x ∈ LRKq, x ∉ L) : RT σ s' := fun l r k => (h l r k).fl f hL
theorem RT.up {s σ : xS} {q i : Nat} {v : Int} (h : RT σ s) (hL : x_pl q i ∉ LRKq) : RT σ (x_up s q i v) := h.fl FL.one (fun x hx hm => hL (by rw [← List.mem_singleton.mp hm]; exact hx))
theorem YR.rt {T : Nat → Int} {n w o p : Int} {s s1 : xS} (y : YR T n s w o p) (t : RT s s1) : YR T n s1 w o p := by
  obtain ⟨l, r, h1, h2⟩ := y
  exact ⟨l, r, h1, t l r h2⟩
def M6 (s σ : xS) : Prop := s 286 = σ 286
theorem M6.fl {L : List Nat} {s s' σ : xS} (h : M6 s σ) (f : FL L s s') (hL : ∀ x ∈ [6016], x ∉ L) : M6 s' σ := (funext fun i => f 286 i (hL 6016 (by decide))).trans h
theorem M6.up {s σ : xS} {q i : Nat} {v : Int} (h : M6 s σ) (hL : x_pl q i ∉ [6016]) : M6 (x_up s q i v) σ := h.fl FL.one (fun x hx hm => hL (by rw [← List.mem_singleton.mp hm]; exact hx))
def LfW (s s' : xS) (z : Int) : Prop := KR s' s ∧ (z = 0 → ∀ l r : List Int, RK s l r → RK s' (rel 9 l (lfc (s 283) (s 256 34) (s 256 36) :: r)).1 (rel 9 l (lfc (s 283) (s 256 34) (s 256 36) :: r)).2)
theorem LfW.of {s s1 s2 s3 : xS} {z k v : Int} (t : RT s s1) (w : PuW s1 s2 k v) (g : 0 ≤ s1 256 43 ∧ 0 ≤ s1 256 47) (f : FL [6080, 6144, 4144] s1 s2) (e : dc k v = lfc (s 283) (s 256 34) (s 256 36)) (x : WkW s2 s3 2) (kr : KR s3 s) : LfW s s3 z := by
  refine ⟨kr, fun _ l r h => ?_⟩
  have q := x.2 _ _ ((t l r h).put w g f)
  rw [e] at q
  exact q
theorem RK_0 {s : xS} (h1 : s 256 48 = 0) (h2 : s 256 47 = 0) : RK s [] [] := ⟨h1, trivial, h2, trivial⟩
def ArX (s s' : xS) (z : Int) : Prop := KR s' s ∧ (∀ j : Nat, j ≠ (s 256 43).toNat → s' 286 j = s 286 j) ∧ (0 ≤ z → RrX s s')
