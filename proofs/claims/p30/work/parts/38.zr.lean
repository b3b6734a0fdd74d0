/-! of: moments of a story that a picture may show -/
theorem rowsM {L : List Nat} {s s' : xS} (f : FL L s s') (hL : 3200 ∉ L) : ∀ r j : Nat, r < 4 → s' (238 + 1 + r) j = s (238 + 1 + r) j := fun r j hr => f (238 + 1 + r) j (by rw [(gr_239 j (by omega) (by omega)).2.2]; exact hL)
/-- all marks of a moment are shown -/
def ofP (s : xS) (e p t i : Int) : Prop := ∀ k : Nat, k < 64 → bt (s (238 + 1 + t.toNat) i.toNat) k = true → shC s e p k
def ofF (s : xS) (e p t M z : Int) : Prop := (z = -1 ∧ ∀ i : Int, 0 ≤ i → i < M → ¬ ofP s e p t i) ∨ ((0 ≤ z ∧ z < M) ∧ ofP s e p t z ∧ ∀ i : Int, 0 ≤ i → i < z → ¬ ofP s e p t i)
theorem ofF.u {s : xS} {e p t M z1 z2 : Int} (h1 : ofF s e p t M z1) (h2 : ofF s e p t M z2) : z1 = z2 := by
  rcases h1 with ⟨a3, a4⟩ | ⟨a3, a4, a5⟩ <;> rcases h2 with ⟨b3, b4⟩ | ⟨b3, b4, b5⟩
  · omega
  · exact absurd b4 (a4 z2 b3.1 b3.2)
  · exact absurd a4 (b4 z1 a3.1 a3.2)
  · by_cases q : z1 < z2
    · exact absurd a4 (b5 z1 a3.1 q)
    · by_cases q2 : z2 < z1
      · exact absurd b4 (a5 z2 b3.1 q2)
      · omega
noncomputable def ofN (s : xS) (e p t : Int) (M : Nat) : Int := ctp (fun i => ofP s e p t (i : Int)) M
def OfS (s : xS) (a b d e z : Int) : Prop := (¬ ((0 ≤ a ∧ a < s 46 3) ∧ 0 ≤ b ∧ b < s 231 3) ∧ z = -1001) ∨ (((0 ≤ a ∧ a < s 46 3) ∧ 0 ≤ b ∧ b < s 231 3) ∧ ¬ ((0 ≤ d ∧ d ≤ s 0 10) ∧ 0 ≤ e ∧ e ≤ 2) ∧ z = -1002) ∨
  (((0 ≤ a ∧ a < s 46 3) ∧ 0 ≤ b ∧ b < s 231 3) ∧ ((0 ≤ d ∧ d ≤ s 0 10) ∧ 0 ≤ e ∧ e ≤ 2) ∧ (e = 0 → z = ofN s d a b (s 232 b.toNat).toNat) ∧ (e = 1 → ofF s d a b (s 232 b.toNat) z) ∧ (e = 2 → z = pIf (ofN s d a b (s 232 b.toNat).toNat = 1) 1 0))
theorem OfS.u {s : xS} {a b d e z1 z2 : Int} (h1 : OfS s a b d e z1) (h2 : OfS s a b d e z2) : z1 = z2 := by
  rcases h1 with ⟨a1, a2⟩ | ⟨a1, a2, a3⟩ | ⟨a1, a2, a3, a4, a5⟩ <;> rcases h2 with ⟨b1, b2⟩ | ⟨b1, b2, b3⟩ | ⟨b1, b2, b3, b4, b5⟩
  case inr.inr.inr.inr =>
    rcases show e = 0 ∨ e = 1 ∨ e = 2 by omega with q | q | q
    · rw [a3 q, b3 q]
    · exact (a4 q).u (b4 q)
    · rw [a5 q, b5 q]
  all_goals omega
theorem OfS.fl {L : List Nat} {s s' : xS} {a b d e z : Int} (h : OfS s' a b d e z) (hG : GI s) (f : FL L s s') (hL : ∀ x ∈ 452 :: 2884 :: 2944 :: 3200 :: LVQ, x ∉ L) : OfS s a b d e z := by
  have v := f.ve hG (fun x hx => hL x (by revert x; decide))
  have e2 : s' 0 10 = s 0 10 := f 0 10 (hL 11 (by decide))
  have e3 : s' 46 3 = s 46 3 := f 46 3 (hL 452 (by decide))
  have e4 : s' 231 3 = s 231 3 := f 231 3 (hL 2884 (by decide))
  have e5 : s' 232 = s 232 := funext fun i => f 232 i (hL 2944 (by decide))
  have e6 := rowsM f (hL 3200 (by decide))
  have g4 : (0 : Int) ≤ s 231 3 ∧ s 231 3 ≤ 4 := hG 231 3
  have p : ∀ i : Int, (0 ≤ b ∧ b < s 231 3) → (ofP s' d a b i ↔ ofP s d a b i) := fun i hb => by
    unfold ofP
    rw [e6 b.toNat i.toNat (by omega)]
    exact forall_congr' (fun k => imp_congr Iff.rfl (imp_congr Iff.rfl (v.sh _ _ _)))
  unfold OfS at h ⊢
  rw [e2, e3, e4, e5] at h
  rcases h with h | h | ⟨h1, h2, h3, h4, h5⟩
  · exact Or.inl h
  · exact Or.inr (Or.inl h)
  · have n : ∀ M : Nat, ofN s' d a b M = ofN s d a b M := fun M => ctp_cg _ (fun k _ => p _ h1.2)
    rw [n] at h3 h5
    refine Or.inr (Or.inr ⟨h1, h2, h3, fun q => ?_, h5⟩)
    have w := h4 q
    unfold ofF at w ⊢
    simp only [p _ h1.2] at w
    exact w
/-- a new mark in both -/
def MoMC (s s' : xS) (a b d z : Int) : Prop := (z < 0 → ∀ r j : Nat, r < 4 → s' (238 + 1 + r) j = s (238 + 1 + r) j) ∧ (0 ≤ z → (∀ r j : Nat, r < 4 → ¬ (r = a.toNat ∧ j = b.toNat) → s' (238 + 1 + r) j = s (238 + 1 + r) j) ∧ ∀ k : Nat, k < 64 → bt (s' (238 + 1 + a.toNat) b.toNat) k = (bt (s (238 + 1 + a.toNat) b.toNat) k || decide (k = d.toNat)))
def MoMR (s s' : xS) (a b d z : Int) : Prop := (z < 0 → s' 294 = s 294) ∧ (0 ≤ z → ∀ j : Nat, s' 294 j = if j = (3 * (5 * a + b) + (z - 1)).toNat then d else s 294 j)
def S2 (s : xS) : Prop := ∀ t i : Int, 0 ≤ t → t ≤ 3 → 0 ≤ i → i ≤ 4 → (s 232 t.toNat ≤ i → s (238 + 1 + t.toNat) i.toNat = 0) ∧ (i < s 232 t.toNat → 1 ≤ s 293 (5 * t + i).toNat ∧ ∀ k : Nat, k < 64 → (bt (s (238 + 1 + t.toNat) i.toNat) k = true ↔ ∃ j : Int, (0 ≤ j ∧ j < s 293 (5 * t + i).toNat) ∧ s 294 (3 * (5 * t + i) + j).toNat = (k : Int)))
def LS2 : List Nat := [2944, 3200, 6464, 6528]
theorem S2.fl {L : List Nat} {s s' : xS} (h : S2 s) (f : FL L s s') (hL : ∀ x ∈ LS2, x ∉ L) : S2 s' := by
  have b1 : s' 232 = s 232 := funext fun i => f 232 i (hL 2944 (by decide))
  have b2 := rowsM f (hL 3200 (by decide))
  have b3 : s' 293 = s 293 := funext fun i => f 293 i (hL 6464 (by decide))
  have b4 : s' 294 = s 294 := funext fun i => f 294 i (hL 6528 (by decide))
  intro t i t0 t1 i0 i1
  rw [b1, b3, b4, b2 t.toNat i.toNat (by omega)]
  exact h t i t0 t1 i0 i1
theorem S2.up {s : xS} {q i : Nat} {v : Int} (h : S2 s) (hL : x_pl q i ∉ LS2) : S2 (x_up s q i v) := h.fl FL.one (fun x hx hm => hL (by rw [← List.mem_singleton.mp hm]; exact hx))
theorem S2.moment {L1 L2 : List Nat} {s s1 s2 : xS} {a b d z1 z2 : Int} (h : S2 s) (h1 : S1 s) (hm : s 1 4 = s 256 1) (hG : GI s) (f1 : FL L1 s s1) (f2 : FL L2 s1 s2) (hL1 : ∀ x ∈ [2884, 4155, 4098, 6400, 6464, 6528], x ∉ L1) (hL2 : ∀ x ∈ [2884, 4155, 2944, 3072, 3200], x ∉ L2) (x1 : MoC s s1 a b d z1 ∧ MoMC s s1 a b d z1) (x2 : MoR s1 s2 a b d z2 ∧ MoMR s1 s2 a b d z2) : (z1 = z2 ∧ S1 s2) ∧ S2 s2 := by
  have key := h1.moment hm hG f1 f2 (fun x hx => hL1 x (by revert x; decide)) (fun x hx => hL2 x (by revert x; decide)) x1.1 x2.1
  refine ⟨key, ?_⟩
  obtain ⟨ez, -⟩ := key
  subst ez
  have g1 : (0 : Int) ≤ s 256 58 ∧ s 256 58 ≤ 4 := hG 256 58
  have gm : (1 : Int) ≤ s 1 4 ∧ s 1 4 ≤ 40 := hG 1 4
  have e1 : s2 232 = s1 232 := funext fun i => f2 232 i (hL2 2944 (by decide))
  have e2 := rowsM f2 (hL2 3200 (by decide))
  have b3 : s1 293 = s 293 := funext fun i => f1 293 i (hL1 6464 (by decide))
  have b4 : s1 294 = s 294 := funext fun i => f1 294 i (hL1 6528 (by decide))
  have h0 := h1.1
  have g9 : (0 : Int) ≤ s 293 (5 * a + b).toNat ∧ s 293 (5 * a + b).toNat ≤ 3 := hG 293 _
  have g8 : 0 ≤ s1 293 (5 * a + b).toNat := by rw [b3]; exact g9.1
  obtain ⟨c1, c2⟩ := x1
  obtain ⟨r1, r2⟩ := x2
  intro t i t0 t1 i0 i1
  have ht := h t i t0 t1 i0 i1
  have e3 := e2 t.toNat i.toNat (by omega)
  rw [e1, e3]
  unfold MoC at c1
  unfold MoR at r1
  rcases c1 with ⟨k1, k2, k3, k4⟩ | ⟨k1, k2, k3, k4, k5⟩ | ⟨k1, k2, k3, k4, k5, k6⟩ | ⟨k1, k2, k3, k4, k5, k6⟩
  · rcases r1 with ⟨m1, m2, m3, m4⟩ | ⟨m1, m2, m3, m4, m5⟩ | ⟨m1, m2, m3, m4, m5, m6⟩ | ⟨m1, m2, m3, m4, m5, m6, m7⟩
    · rw [c2.1 (by omega) _ _ (by omega), k3, m4, r2.1 (by omega), b3, b4]; exact ht
    all_goals (exfalso; omega)
  · rcases r1 with ⟨m1, m2, m3, m4⟩ | ⟨m1, m2, m3, m4, m5⟩ | ⟨m1, m2, m3, m4, m5, m6⟩ | ⟨m1, m2, m3, m4, m5, m6, m7⟩
    · exfalso; omega
    · rw [c2.1 (by omega) _ _ (by omega), k4, m5, r2.1 (by omega), b3, b4]; exact ht
    · exfalso; omega
    · exfalso
      have g3 : (0 : Int) ≤ s1 293 (5 * a + b).toNat ∧ s1 293 (5 * a + b).toNat ≤ 3 := by rw [b3]; exact hG 293 _
      omega
  · rcases r1 with ⟨m1, m2, m3, m4⟩ | ⟨m1, m2, m3, m4, m5⟩ | ⟨m1, m2, m3, m4, m5, m6⟩ | ⟨m1, m2, m3, m4, m5, m6, m7⟩
    · exfalso; omega
    · exfalso; omega
    · rw [c2.1 (by omega) _ _ (by omega), k5, m6, r2.1 (by omega), b3, b4]; exact ht
    · exfalso
      have g3 : (0 : Int) ≤ s1 293 (5 * a + b).toNat ∧ s1 293 (5 * a + b).toNat ≤ 3 := by rw [b3]; exact hG 293 _
      omega
  · have g2 : (0 : Int) ≤ s (233 + 1 + a.toNat) b.toNat := by
      have hs := (h1.2 a (by omega) (by omega)).2.2 b (by omega) (by omega)
      have g3 : (0 : Int) ≤ s 293 (5 * a + b).toNat ∧ s 293 (5 * a + b).toNat ≤ 3 := hG 293 _
      by_cases q : s 232 a.toNat ≤ b
      · rw [hs.1 q]; exact Int.le_refl _
      · rw [hs.2 (by omega)]; exact g3.1
    have hs := (h1.2 a (by omega) (by omega)).2.2 b (by omega) (by omega)
    obtain ⟨u1, u2⟩ := c2.2 (by omega)
    have u3 := r2.2 (by omega)
    rcases r1 with ⟨m1, m2, m3, m4⟩ | ⟨m1, m2, m3, m4, m5⟩ | ⟨m1, m2, m3, m4, m5, m6⟩ | ⟨m1, m2, m3, m4, m5, m6, m7⟩
    · exfalso; omega
    · exfalso; omega
    · exfalso; omega
    rw [k5]
    by_cases e : t = a ∧ i = b
    · obtain ⟨et, ei⟩ := e
      subst et
      subst ei
      have hM : (if t.toNat = t.toNat ∧ i = s 232 t.toNat then i + 1 else s 232 t.toNat) = if i = s 232 t.toNat then i + 1 else s 232 t.toNat := by
        by_cases hb : i = s 232 t.toNat
        · rw [if_pos ⟨rfl, hb⟩, if_pos hb]
        · rw [if_neg (fun z => hb z.2), if_neg hb]
      rw [hM, m7, if_pos rfl]
      refine ⟨fun z => ?_, fun _ => ⟨by omega, fun k hk => ?_⟩⟩
      · exfalso
        by_cases hb : i = s 232 t.toNat
        · rw [if_pos hb] at z; omega
        · rw [if_neg hb] at z; omega
      · rw [u2 k hk, Bool.or_eq_true, decide_eq_true_eq]
        have hd : (k = d.toNat) ↔ d = (k : Int) := by omega
        rw [hd]
        have jn : ∀ j : Int, 0 ≤ j → (s2 294 (3 * (5 * t + i) + j).toNat = if j = z1 - 1 then d else s 294 (3 * (5 * t + i) + j).toNat) := fun j j0 => by
          rw [u3, b4]
          by_cases q : j = z1 - 1
          · rw [if_pos q, if_pos (by rw [q])]
          · rw [if_neg q, if_neg (by omega)]
        have old : bt (s (238 + 1 + t.toNat) i.toNat) k = true ↔ ∃ j : Int, (0 ≤ j ∧ j < z1 - 1) ∧ s 294 (3 * (5 * t + i) + j).toNat = (k : Int) := by
          by_cases q : s 232 t.toNat ≤ i
          · rw [ht.1 q, bt_0]
            refine ⟨fun w => (by cases w), fun ⟨j, j1, _⟩ => ?_⟩
            have := hs.1 q
            omega
          · rw [(ht.2 (by omega)).2 k hk]
            have := hs.2 (by omega)
            exact exists_congr (fun j => and_congr (by omega) Iff.rfl)
        rw [old]
        constructor
        · rintro (⟨j, j1, j2⟩ | q)
          · exact ⟨j, by omega, by rw [jn j j1.1, if_neg (by omega)]; exact j2⟩
          · exact ⟨z1 - 1, by omega, by rw [jn _ (by omega), if_pos rfl]; exact q⟩
        · rintro ⟨j, j1, j2⟩
          rw [jn j j1.1] at j2
          by_cases q : j = z1 - 1
          · rw [if_pos q] at j2; exact Or.inr j2
          · rw [if_neg q] at j2; exact Or.inl ⟨j, by omega, j2⟩
    · have ne : ¬ (t.toNat = a.toNat ∧ i.toNat = b.toNat) := fun w => e ⟨by omega, by omega⟩
      have e293 : s2 293 (5 * t + i).toNat = s 293 (5 * t + i).toNat := by rw [m7, if_neg (by omega), b3]
      rw [u1 _ _ (by omega) ne, e293]
      have jn : ∀ j : Int, 0 ≤ j → j < 3 → s2 294 (3 * (5 * t + i) + j).toNat = s 294 (3 * (5 * t + i) + j).toNat := fun j j0 j3 => by
        rw [u3, if_neg (by omega), b4]
      have g3 : (0 : Int) ≤ s 293 (5 * t + i).toNat ∧ s 293 (5 * t + i).toNat ≤ 3 := hG 293 _
      have hM : (i < if t.toNat = a.toNat ∧ b = s 232 t.toNat then b + 1 else s 232 t.toNat) ↔ i < s 232 t.toNat := by
        by_cases q : t.toNat = a.toNat ∧ b = s 232 t.toNat
        · rw [if_pos q]; omega
        · rw [if_neg q]
      have ek : (if t.toNat = a.toNat ∧ b = s 232 a.toNat then b + 1 else s 232 t.toNat) = if t.toNat = a.toNat ∧ b = s 232 t.toNat then b + 1 else s 232 t.toNat := by
        by_cases q : t.toNat = a.toNat
        · rw [q]
        · rw [if_neg (fun w => q w.1), if_neg (fun w => q w.1)]
      rw [ek]
      refine ⟨fun z => ht.1 (by omega), fun z => ⟨(ht.2 (by omega)).1, fun k hk => ((ht.2 (by omega)).2 k hk).trans (exists_congr (fun j => and_congr_right (fun hj => by rw [jn j hj.1 (by omega)])))⟩⟩
/-- the class looks from the last moment down to behind x -/
def ofD (s : xS) (e p t M x z : Int) : Prop := (z = -1 ∧ ∀ i : Int, x < i → i < M → ¬ ofP s e p t i) ∨ ((x < z ∧ z < M) ∧ ofP s e p t z ∧ ∀ i : Int, x < i → i < z → ¬ ofP s e p t i)
theorem ofD_0 {s : xS} {e p t M x : Int} (h : M = x + 1) : ofD s e p t M x (-1) := Or.inl ⟨rfl, fun i i0 i1 => by omega⟩
theorem ofD.no {s : xS} {e p t M x z : Int} (h : ofD s e p t M x z) (n : ¬ ofP s e p t x) : ofD s e p t M (x + -1) z := by
  have st : ∀ i : Int, x + -1 < i → i = x ∨ x < i := fun i hi => by omega
  rcases h with ⟨h1, h2⟩ | ⟨h1, h2, h3⟩
  · exact Or.inl ⟨h1, fun i i0 i1 => (st i i0).elim (fun q => by rw [q]; exact n) (fun q => h2 i q i1)⟩
  · exact Or.inr ⟨by omega, h2, fun i i0 i1 => (st i i0).elim (fun q => by rw [q]; exact n) (fun q => h3 i q i1)⟩
theorem ofD.yes {s : xS} {e p t M x z : Int} (_h : ofD s e p t M x z) (hx : 0 ≤ x) (hM : x < M) (y : ofP s e p t x) : ofD s e p t M (x + -1) x := Or.inr ⟨by omega, y, fun i i0 i1 => by omega⟩
theorem ofD.fin {s : xS} {e p t M x z : Int} (h : ofD s e p t M x z) (hx : x = -1) : ofF s e p t M z := by
  subst hx
  rcases h with ⟨h1, h2⟩ | ⟨h1, h2, h3⟩
  · exact Or.inl ⟨h1, fun i i0 i1 => h2 i (by omega) i1⟩
  · exact Or.inr ⟨by omega, h2, fun i i0 i1 => h3 i (by omega) i1⟩
theorem ofP_of {s σ : xS} {e p t i u v w y : Int} (hy : in64 y) (l : VL s σ e) (hp : 0 ≤ p ∧ p ≤ 39) (eu : u = s 255 p.toNat) (ev : v = σ (238 + 1 + t.toNat) i.toNat) (g1 : ∀ j : Nat, j < 64 → bt w j = !bt u j) (g2 : ∀ j, bt y j = (bt v j && bt w j)) : y = 0 ↔ ofP σ e p t i := by
  rw [bt_dis hy g2]
  unfold ofP
  refine forall_congr' (fun k => forall_congr' (fun hk => ?_))
  rw [g1 k hk, ev, eu, ← l.2 p hp.1 hp.2 k hk]
  cases bt (σ (238 + 1 + t.toNat) i.toNat) k <;> cases bt (s 255 p.toNat) k <;> simp
/-- the reference: the first n marks of a moment are shown -/
def ofA (s : xS) (e p t i n : Int) : Prop := ∀ j : Int, 0 ≤ j → j < n → shC s e p (s 294 (3 * (5 * t + i) + j).toNat)
def ofW (s : xS) (e p t i n x : Int) : Prop := (x = 1 ∧ ofA s e p t i n) ∨ (x = 0 ∧ ¬ ofA s e p t i n)
theorem ofW_0 {s : xS} {e p t i : Int} : ofW s e p t i 0 1 := Or.inl ⟨rfl, fun j j0 j1 => by omega⟩
theorem ofW.z {s : xS} {e p t i n x : Int} (h : ofW s e p t i n x) (hx : x = 0) : ofW s e p t i (n + 1) 0 :=
  Or.inr ⟨rfl, fun w => (h.resolve_left (fun q => by omega)).2 (fun j j0 j1 => w j j0 (by omega))⟩
theorem ofW.y {s : xS} {e p t i n x m : Int} (h : ofW s e p t i n x) (hx : x ≠ 0) (hm : s 294 (3 * (5 * t + i) + n).toNat = m) (y : shC s e p m) : ofW s e p t i (n + 1) 1 :=
  Or.inl ⟨rfl, fun j j0 j1 => (Decidable.em (j = n)).elim (fun q => by rw [q, hm]; exact y) (fun q => (h.resolve_right (fun q => by omega)).2 j j0 (by omega))⟩
theorem ofW.n {s : xS} {e p t i n m : Int} (hn : 0 ≤ n) (hm : s 294 (3 * (5 * t + i) + n).toNat = m) (y : ¬ shC s e p m) : ofW s e p t i (n + 1) 0 :=
  Or.inr ⟨rfl, fun w => y (by rw [← hm]; exact w n hn (by omega))⟩
theorem ofA_P {s : xS} {e p t i n : Int} (h2 : S2 s) (hG : GI s) (ht : 0 ≤ t ∧ t ≤ 3) (hi : 0 ≤ i ∧ i ≤ 4) (hM : i < s 232 t.toNat) (hn : n = s 293 (5 * t + i).toNat) : ofA s e p t i n ↔ ofP s e p t i := by
  obtain ⟨-, h⟩ := h2 t i ht.1 ht.2 hi.1 hi.2
  obtain ⟨h1, h⟩ := h hM
  unfold ofA ofP
  constructor
  · intro w k hk hb
    obtain ⟨j, hj, e⟩ := (h k hk).mp hb
    have q := w j hj.1 (by omega)
    rw [e] at q
    exact q
  · intro w j j0 j1
    have g : (0 : Int) ≤ s 294 (3 * (5 * t + i) + j).toNat ∧ s 294 (3 * (5 * t + i) + j).toNat ≤ 39 := hG 294 _
    have q := w (s 294 (3 * (5 * t + i) + j).toNat).toNat (by omega) ((h _ (by omega)).mpr ⟨j, ⟨j0, by omega⟩, by omega⟩)
    rw [show (((s 294 (3 * (5 * t + i) + j).toNat).toNat : Nat) : Int) = s 294 (3 * (5 * t + i) + j).toNat by omega] at q
    exact q
theorem ofW.fin {s : xS} {e p t i n x : Int} (h : ofW s e p t i n x) (h2 : S2 s) (hG : GI s) (ht : 0 ≤ t ∧ t ≤ 3) (hi : 0 ≤ i ∧ i ≤ 4) (hM : i < s 232 t.toNat) (hn : n = s 293 (5 * t + i).toNat) : (x = 1 ∧ ofP s e p t i) ∨ (x = 0 ∧ ¬ ofP s e p t i) := by
  rw [ofW, ofA_P h2 hG ht hi hM hn] at h
  exact h
theorem ofF_0 {s : xS} {e p t : Int} : ofF s e p t 0 (-1) := Or.inl ⟨rfl, fun i i0 i1 => by omega⟩
theorem ofF.keep {s : xS} {e p t M z : Int} (h : ofF s e p t M z) (hz : 0 ≤ z) : ofF s e p t (M + 1) z := by
  rcases h with ⟨h1, h2⟩ | ⟨h1, h2, h3⟩
  · omega
  · exact Or.inr ⟨by omega, h2, h3⟩
theorem ofF.no {s : xS} {e p t M z : Int} (h : ofF s e p t M z) (n : ¬ ofP s e p t M) : ofF s e p t (M + 1) z := by
  rcases h with ⟨h1, h2⟩ | ⟨h1, h2, h3⟩
  · exact Or.inl ⟨h1, fun i i0 i1 => (Decidable.em (i = M)).elim (fun q => by rw [q]; exact n) (fun q => h2 i i0 (by omega))⟩
  · exact Or.inr ⟨by omega, h2, h3⟩
theorem ofF.yes {s : xS} {e p t M z : Int} (h : ofF s e p t M z) (hz : z < 0) (hM : 0 ≤ M) (y : ofP s e p t M) : ofF s e p t (M + 1) M := by
  rcases h with ⟨h1, h2⟩ | ⟨h1, h2, h3⟩
  · exact Or.inr ⟨by omega, y, fun i i0 i1 => h2 i i0 i1⟩
  · omega
