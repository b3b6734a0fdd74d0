/-! words of both -/
/-- the class's word (t, w) leads to mark k, among the first n -/
def wms (s : xS) (t w n k : Int) : Prop := ∃ i : Int, (0 ≤ i ∧ i < n) ∧ (s 215 i.toNat = t ∧ s 216 i.toNat = w) ∧ s 217 i.toNat = k
theorem wms_0 {s : xS} {t w k : Int} : ¬ wms s t w 0 k := fun ⟨i, h, _⟩ => by omega
theorem wms_no {s : xS} {t w n k : Int} (hn : ¬ (s 215 n.toNat = t ∧ s 216 n.toNat = w)) : wms s t w (n + 1) k ↔ wms s t w n k := by
  constructor
  · rintro ⟨i, h1, h2, h3⟩
    by_cases e : i = n
    · subst e; exact absurd h2 hn
    · exact ⟨i, ⟨h1.1, by omega⟩, h2, h3⟩
  · rintro ⟨i, h1, h2, h3⟩
    exact ⟨i, ⟨h1.1, by omega⟩, h2, h3⟩
theorem wms_yes {s : xS} {t w n k : Int} (h0 : 0 ≤ n) (hn : s 215 n.toNat = t ∧ s 216 n.toNat = w) : wms s t w (n + 1) k ↔ (wms s t w n k ∨ s 217 n.toNat = k) := by
  constructor
  · rintro ⟨i, h1, h2, h3⟩
    by_cases e : i = n
    · subst e; exact Or.inr h3
    · exact Or.inl ⟨i, ⟨h1.1, by omega⟩, h2, h3⟩
  · rintro (⟨i, h1, h2, h3⟩ | h)
    · exact ⟨i, ⟨h1.1, by omega⟩, h2, h3⟩
    · exact ⟨n, ⟨h0, by omega⟩, hn, h⟩
theorem wms_step {s : xS} {t w n set set' sh m : Int} (h0 : 0 ≤ n) (hn : s 215 n.toNat = t ∧ s 216 n.toNat = w) (hm : 0 ≤ m) (em : s 217 n.toNat = m) (h : ∀ k : Nat, k < 64 → (bt set k = true ↔ wms s t w n k)) (g1 : ∀ k : Nat, k < 64 → bt sh k = decide (k = m.toNat)) (g2 : ∀ k, bt set' k = (bt set k || bt sh k)) : ∀ k : Nat, k < 64 → (bt set' k = true ↔ wms s t w (n + 1) k) := by
  intro k hk
  rw [wms_yes h0 hn, ← h k hk, g2 k, g1 k hk, Bool.or_eq_true, decide_eq_true_eq, em]
  exact or_congr Iff.rfl ⟨fun q => by omega, fun q => by omega⟩
theorem wms_cg {s s' : xS} {t w n k : Int} (h5 : s' 215 = s 215) (h6 : s' 216 = s 216) (h7 : s' 217 = s 217) : wms s' t w n k ↔ wms s t w n k := by unfold wms; rw [h5, h6, h7]
theorem ctp_ins (Q : Nat → Prop) {c : Nat} (hq : ¬ Q c) : ∀ n : Nat, (n ≤ c → ctp (fun k => Q k ∨ k = c) n = ctp Q n) ∧ (c < n → ctp (fun k => Q k ∨ k = c) n = ctp Q n + 1) := by
  intro n
  induction n with
  | zero => exact ⟨fun _ => rfl, fun h => absurd h (Nat.not_lt_zero _)⟩
  | succ n ih =>
    show (n + 1 ≤ c → ctp (fun k => Q k ∨ k = c) n + @ite Int (Q n ∨ n = c) (Classical.propDecidable _) 1 0 = ctp Q n + @ite Int (Q n) (Classical.propDecidable _) 1 0) ∧ (c < n + 1 → ctp (fun k => Q k ∨ k = c) n + @ite Int (Q n ∨ n = c) (Classical.propDecidable _) 1 0 = ctp Q n + @ite Int (Q n) (Classical.propDecidable _) 1 0 + 1)
    by_cases e : n = c
    · refine ⟨fun h => by omega, fun _ => ?_⟩
      rw [if_pos (Or.inr e), if_neg (by rw [e]; exact hq), ih.1 (by omega)]
      omega
    · have hi : @ite Int (Q n ∨ n = c) (Classical.propDecidable _) 1 0 = @ite Int (Q n) (Classical.propDecidable _) 1 0 := by
        by_cases hn : Q n
        · rw [if_pos (Or.inl hn), if_pos hn]
        · rw [if_neg (fun z => z.elim hn e), if_neg hn]
      rw [hi]
      exact ⟨fun h => by rw [ih.1 (by omega)], fun h => by rw [ih.2 (by omega)]; omega⟩
/-- as many bits as entries, if no entry is there twice -/
theorem cnt_inj {s : xS} {t w : Int} (hm : ∀ i : Nat, 0 ≤ s 217 i ∧ s 217 i < 64) : ∀ n : Nat, (∀ i j : Nat, i < j → j < n → ¬ ((s 215 i = t ∧ s 216 i = w) ∧ (s 215 j = t ∧ s 216 j = w) ∧ s 217 i = s 217 j)) → ctp (fun k => wms s t w (n : Int) (k : Int)) 64 = ctp (fun i => s 215 i = t ∧ s 216 i = w) n := by
  intro n
  induction n with
  | zero =>
    intro _
    refine (ctp_cg (P := fun k : Nat => wms s t w ((0 : Nat) : Int) (k : Int)) (Q := fun _ => False) 64 (fun k _ => ⟨fun h => (wms_0 (show wms s t w 0 (k : Int) from h)).elim, False.elim⟩)).trans ?_
    have : ∀ m, ctp (fun _ => False) m = 0 := fun m => by
      induction m with
      | zero => rfl
      | succ m ih => rw [ctp, ih, if_neg id]; rfl
    exact this 64
  | succ n ih =>
    intro hi
    have h1 := ih (fun i j a b => hi i j a (by omega))
    have e1 : ((n + 1 : Nat) : Int) = (n : Int) + 1 := by omega
    have e2 : ((n : Int)).toNat = n := by omega
    by_cases hy : s 215 n = t ∧ s 216 n = w
    · have hc := hm n
      have hc2 : (((s 217 n).toNat : Nat) : Int) = s 217 n := by omega
      rw [ctp_cg (Q := fun k => wms s t w (n : Int) (k : Int) ∨ k = (s 217 n).toNat) 64 (fun k _ => by
        rw [e1, wms_yes (by omega) (by rw [e2]; exact hy), e2]
        exact or_congr Iff.rfl ⟨fun q => by omega, fun q => by omega⟩)]
      have hq : ¬ wms s t w (n : Int) (((s 217 n).toNat : Nat) : Int) := by
        rintro ⟨i, a1, a2, a3⟩
        exact hi i.toNat n (by omega) (by omega) ⟨a2, hy, by rw [a3, hc2]⟩
      rw [(ctp_ins (fun k => wms s t w (n : Int) (k : Int)) hq 64).2 (by omega), h1]
      show _ = ctp (fun i => s 215 i = t ∧ s 216 i = w) n + @ite Int (s 215 n = t ∧ s 216 n = w) (Classical.propDecidable _) 1 0
      rw [if_pos hy]
    · rw [ctp_cg (Q := fun k => wms s t w (n : Int) (k : Int)) 64 (fun k _ => by rw [e1]; exact wms_no (by rw [e2]; exact hy)), h1]
      show _ = ctp (fun i => s 215 i = t ∧ s 216 i = w) n + @ite Int (s 215 n = t ∧ s 216 n = w) (Classical.propDecidable _) 1 0
      rw [if_neg hy]
      omega
/-- the class's word -/
def WdC (s s' : xS) (a b d z : Int) : Prop :=
  (¬ (0 ≤ d ∧ d < s 1 4) ∧ z = -1001 ∧ s' 214 3 = s 214 3 ∧ s' 215 = s 215 ∧ s' 216 = s 216 ∧ s' 217 = s 217) ∨
  ((0 ≤ d ∧ d < s 1 4) ∧ ¬ (0 ≤ a ∧ a ≤ 3 ∧ 0 ≤ b ∧ b ≤ 99) ∧ z = -1002 ∧ s' 214 3 = s 214 3 ∧ s' 215 = s 215 ∧ s' 216 = s 216 ∧ s' 217 = s 217) ∨
  ((0 ≤ d ∧ d < s 1 4) ∧ (0 ≤ a ∧ a ≤ 3 ∧ 0 ≤ b ∧ b ≤ 99) ∧ wms s a b (s 214 3) d ∧ z = -1003 ∧ s' 214 3 = s 214 3 ∧ s' 215 = s 215 ∧ s' 216 = s 216 ∧ s' 217 = s 217) ∨
  ((0 ≤ d ∧ d < s 1 4) ∧ (0 ≤ a ∧ a ≤ 3 ∧ 0 ≤ b ∧ b ≤ 99) ∧ ¬ wms s a b (s 214 3) d ∧ 60 ≤ s 214 3 ∧ z = -1004 ∧ s' 214 3 = s 214 3 ∧ s' 215 = s 215 ∧ s' 216 = s 216 ∧ s' 217 = s 217) ∨
  ((0 ≤ d ∧ d < s 1 4) ∧ (0 ≤ a ∧ a ≤ 3 ∧ 0 ≤ b ∧ b ≤ 99) ∧ ¬ wms s a b (s 214 3) d ∧ s 214 3 < 60 ∧ s' 214 3 = s 214 3 + 1 ∧ (∀ j : Nat, s' 215 j = if j = (s 214 3).toNat then a else s 215 j) ∧ (∀ j : Nat, s' 216 j = if j = (s 214 3).toNat then b else s 216 j) ∧ (∀ j : Nat, s' 217 j = if j = (s 214 3).toNat then d else s 217 j) ∧ z = ctp (fun k => wms s' a b (s' 214 3) (k : Int)) 64)
/-- the reference's word -/
def WdR (s s' : xS) (a b d z : Int) : Prop :=
  (¬ (0 ≤ d ∧ d < s 256 1) ∧ z = -1001 ∧ s' 256 40 = s 256 40 ∧ s' 284 = s 284 ∧ s' 285 = s 285) ∨
  ((0 ≤ d ∧ d < s 256 1) ∧ ¬ (0 ≤ a ∧ a ≤ 3 ∧ 0 ≤ b ∧ b ≤ 99) ∧ z = -1002 ∧ s' 256 40 = s 256 40 ∧ s' 284 = s 284 ∧ s' 285 = s 285) ∨
  ((0 ≤ d ∧ d < s 256 1) ∧ (0 ≤ a ∧ a ≤ 3 ∧ 0 ≤ b ∧ b ≤ 99) ∧ (∃ i : Int, (0 ≤ i ∧ i < s 256 40) ∧ s 284 i.toNat = 100 * a + b ∧ s 285 i.toNat = d) ∧ z = -1003 ∧ s' 256 40 = s 256 40 ∧ s' 284 = s 284 ∧ s' 285 = s 285) ∨
  ((0 ≤ d ∧ d < s 256 1) ∧ (0 ≤ a ∧ a ≤ 3 ∧ 0 ≤ b ∧ b ≤ 99) ∧ (∀ i : Int, 0 ≤ i → i < s 256 40 → ¬ (s 284 i.toNat = 100 * a + b ∧ s 285 i.toNat = d)) ∧ s 256 40 = 60 ∧ z = -1004 ∧ s' 256 40 = s 256 40 ∧ s' 284 = s 284 ∧ s' 285 = s 285) ∨
  ((0 ≤ d ∧ d < s 256 1) ∧ (0 ≤ a ∧ a ≤ 3 ∧ 0 ≤ b ∧ b ≤ 99) ∧ (∀ i : Int, 0 ≤ i → i < s 256 40 → ¬ (s 284 i.toNat = 100 * a + b ∧ s 285 i.toNat = d)) ∧ s 256 40 ≠ 60 ∧ s' 256 40 = s 256 40 + 1 ∧ (∀ j : Nat, s' 284 j = if j = (s 256 40).toNat then 100 * a + b else s 284 j) ∧ (∀ j : Nat, s' 285 j = if j = (s 256 40).toNat then d else s 285 j) ∧ z = ctp (fun k => s' 284 k = 100 * a + b) (s' 256 40).toNat)
/-- words of both, and no word leads to a mark twice -/
def W1 (s : xS) : Prop := s 214 3 = s 256 40 ∧ (∀ i : Int, 0 ≤ i → i < s 256 40 → s 284 i.toNat = 100 * s 215 i.toNat + s 216 i.toNat ∧ s 285 i.toNat = s 217 i.toNat) ∧ ∀ i j : Int, 0 ≤ i → i < j → j < s 256 40 → ¬ (s 284 i.toNat = s 284 j.toNat ∧ s 285 i.toNat = s 285 j.toNat)
def LW1 : List Nat := [2244, 4137, 2304, 2368, 2432, 5888, 5952]
theorem W1.fl {L : List Nat} {s s' : xS} (h : W1 s) (f : FL L s s') (hL : ∀ x ∈ LW1, x ∉ L) : W1 s' := by
  have a1 : s' 214 3 = s 214 3 := f 214 3 (hL 2244 (by decide))
  have a2 : s' 256 40 = s 256 40 := f 256 40 (hL 4137 (by decide))
  have b1 : s' 215 = s 215 := funext fun i => f 215 i (hL 2304 (by decide))
  have b2 : s' 216 = s 216 := funext fun i => f 216 i (hL 2368 (by decide))
  have b3 : s' 217 = s 217 := funext fun i => f 217 i (hL 2432 (by decide))
  have b4 : s' 284 = s 284 := funext fun i => f 284 i (hL 5888 (by decide))
  have b5 : s' 285 = s 285 := funext fun i => f 285 i (hL 5952 (by decide))
  unfold W1; rw [a1, a2, b1, b2, b3, b4, b5]; exact h
theorem W1.up {s : xS} {q i : Nat} {v : Int} (h : W1 s) (hL : x_pl q i ∉ LW1) : W1 (x_up s q i v) := h.fl FL.one (fun x hx hm => hL (by rw [← List.mem_singleton.mp hm]; exact hx))
/-- both count the same -/
theorem W1.cnt {s : xS} (h : W1 s) (hG : GI s) {a b : Int} (ha : 0 ≤ a ∧ a ≤ 3) (hb : 0 ≤ b ∧ b ≤ 99) : ctp (fun k => wms s a b (s 214 3) (k : Int)) 64 = ctp (fun k => s 284 k = 100 * a + b) (s 256 40).toNat := by
  obtain ⟨h1, h2, h3⟩ := h
  have g : (0 : Int) ≤ s 256 40 ∧ s 256 40 ≤ 60 := hG 256 40
  have e : (((s 256 40).toNat : Nat) : Int) = s 256 40 := by omega
  have hw : ∀ i : Nat, (i : Int) < s 256 40 → ((s 215 i = a ∧ s 216 i = b) ↔ s 284 i = 100 * a + b) := fun i hi => by
    have q := (h2 (i : Int) (by omega) hi).1
    rw [show ((i : Int)).toNat = i from rfl] at q
    have g1 : (0 : Int) ≤ s 215 i ∧ s 215 i ≤ 3 := hG 215 i
    have g2 : (0 : Int) ≤ s 216 i ∧ s 216 i ≤ 99 := hG 216 i
    omega
  have key := cnt_inj (s := s) (t := a) (w := b) (fun i => by have g3 : (0 : Int) ≤ s 217 i ∧ s 217 i ≤ 39 := hG 217 i; omega) (s 256 40).toNat (fun i j hij hj ⟨k1, k2, k3⟩ => by
    have q1 := h2 (i : Int) (by omega) (by omega)
    have q2 := h2 (j : Int) (by omega) (by omega)
    have q3 := h3 (i : Int) (j : Int) (by omega) (by omega) (by omega)
    rw [show ((i : Int)).toNat = i from rfl] at q1 q3
    rw [show ((j : Int)).toNat = j from rfl] at q2 q3
    exact q3 ⟨by omega, by omega⟩)
  rw [h1, ← e, key, e]
  exact ctp_cg _ (fun k hk => hw k (by omega))
theorem W1.word {L1 L2 : List Nat} {s s1 s2 : xS} {a b d z1 z2 : Int} (h : W1 s) (ht : s 1 4 = s 256 1) (hG : GI s) (hG2 : GI s2) (f1 : FL L1 s s1) (f2 : FL L2 s1 s2) (hL1 : ∀ x ∈ [4098, 4137, 5888, 5952], x ∉ L1) (hL2 : ∀ x ∈ [2244, 2304, 2368, 2432], x ∉ L2) (x1 : WdC s s1 a b d z1) (x2 : WdR s1 s2 a b d z2) : z1 = z2 ∧ W1 s2 := by
  have g : (0 : Int) ≤ s 256 40 ∧ s 256 40 ≤ 60 := hG 256 40
  have c1 : s1 256 1 = s 256 1 := f1 256 1 (hL1 4098 (by decide))
  have c2 : s1 256 40 = s 256 40 := f1 256 40 (hL1 4137 (by decide))
  have c3 : s1 284 = s 284 := funext fun i => f1 284 i (hL1 5888 (by decide))
  have c4 : s1 285 = s 285 := funext fun i => f1 285 i (hL1 5952 (by decide))
  have d1 : s2 214 3 = s1 214 3 := f2 214 3 (hL2 2244 (by decide))
  have d2 : s2 215 = s1 215 := funext fun i => f2 215 i (hL2 2304 (by decide))
  have d3 : s2 216 = s1 216 := funext fun i => f2 216 i (hL2 2368 (by decide))
  have d4 : s2 217 = s1 217 := funext fun i => f2 217 i (hL2 2432 (by decide))
  obtain ⟨h1, h2, h3⟩ := id h
  unfold WdC at x1
  unfold WdR at x2
  rw [c1, c2, c3, c4] at x2
  have hw : ∀ i : Int, 0 ≤ i → i < s 256 40 → ((s 215 i.toNat = a ∧ s 216 i.toNat = b) ∧ s 217 i.toNat = d ↔ ((0 ≤ a ∧ a ≤ 3 ∧ 0 ≤ b ∧ b ≤ 99) ∧ s 284 i.toNat = 100 * a + b ∧ s 285 i.toNat = d)) := fun i i0 i1 => by
    have q := h2 i i0 i1
    have g1 : (0 : Int) ≤ s 215 i.toNat ∧ s 215 i.toNat ≤ 3 := hG 215 i.toNat
    have g2 : (0 : Int) ≤ s 216 i.toNat ∧ s 216 i.toNat ≤ 99 := hG 216 i.toNat
    omega
  have same : s2 256 40 = s 256 40 → s2 284 = s 284 → s2 285 = s 285 → s1 214 3 = s 214 3 → s1 215 = s 215 → s1 216 = s 216 → s1 217 = s 217 → W1 s2 := by
    intro e1 e2 e3 e4 e5 e6 e7
    unfold W1
    rw [e1, e2, e3, d1, d2, d3, d4, e4, e5, e6, e7]
    exact h
  have no : (0 ≤ a ∧ a ≤ 3 ∧ 0 ≤ b ∧ b ≤ 99) → wms s a b (s 214 3) d → (∀ i : Int, 0 ≤ i → i < s 256 40 → ¬ (s 284 i.toNat = 100 * a + b ∧ s 285 i.toNat = d)) → False := by
    rintro hr ⟨i, i1, i2, i3⟩ hn
    exact hn i i1.1 (by omega) ((hw i i1.1 (by omega)).mp ⟨i2, i3⟩).2
  have yes : (0 ≤ a ∧ a ≤ 3 ∧ 0 ≤ b ∧ b ≤ 99) → ¬ wms s a b (s 214 3) d → (∃ i : Int, (0 ≤ i ∧ i < s 256 40) ∧ s 284 i.toNat = 100 * a + b ∧ s 285 i.toNat = d) → False := by
    rintro hr hn ⟨i, i1, i2⟩
    have q := (hw i i1.1 i1.2).mpr ⟨hr, i2⟩
    exact hn ⟨i, ⟨i1.1, by omega⟩, q.1, q.2⟩
  rcases x1 with ⟨k1, k2, k3, k4, k5, k6⟩ | ⟨k1, k2, k3, k4, k5, k6, k7⟩ | ⟨k1, k2, k3, k4, k5, k6, k7, k8⟩ | ⟨k1, k2, k3, k4, k5, k6, k7, k8, k9⟩ | ⟨k1, k2, k3, k4, k5, k6, k7, k8, k9⟩
  · rcases x2 with ⟨m1, m2, m3, m4, m5⟩ | ⟨m1, _⟩ | ⟨m1, _⟩ | ⟨m1, _⟩ | ⟨m1, _⟩
    · exact ⟨by omega, same m3 m4 m5 k3 k4 k5 k6⟩
    all_goals (exfalso; omega)
  · rcases x2 with ⟨m1, _⟩ | ⟨m1, m2, m3, m4, m5, m6⟩ | ⟨m1, m2, _⟩ | ⟨m1, m2, _⟩ | ⟨m1, m2, _⟩
    · exfalso; omega
    · exact ⟨by omega, same m4 m5 m6 k4 k5 k6 k7⟩
    all_goals (exfalso; omega)
  · rcases x2 with ⟨m1, _⟩ | ⟨m1, m2, _⟩ | ⟨m1, m2, m3, m4, m5, m6, m7⟩ | ⟨m1, m2, m3, _⟩ | ⟨m1, m2, m3, _⟩
    · exfalso; omega
    · exfalso; omega
    · exact ⟨by omega, same m5 m6 m7 k5 k6 k7 k8⟩
    · exact (no k2 k3 m3).elim
    · exact (no k2 k3 m3).elim
  · rcases x2 with ⟨m1, _⟩ | ⟨m1, m2, _⟩ | ⟨m1, m2, m3, _⟩ | ⟨m1, m2, m3, m4, m5, m6, m7, m8⟩ | ⟨m1, m2, m3, m4, _⟩
    · exfalso; omega
    · exfalso; omega
    · exact (yes k2 k3 m3).elim
    · exact ⟨by omega, same m6 m7 m8 k6 k7 k8 k9⟩
    · exfalso; omega
  · rcases x2 with ⟨m1, _⟩ | ⟨m1, m2, _⟩ | ⟨m1, m2, m3, _⟩ | ⟨m1, m2, m3, m4, _⟩ | ⟨m1, m2, m3, m4, m5, m6, m7, m8⟩
    · exfalso; omega
    · exfalso; omega
    · exact (yes k2 k3 m3).elim
    · exfalso; omega
    · have hW : W1 s2 := by
        refine ⟨by omega, fun i i0 i1 => ?_, fun i j i0 i1 j1 => ?_⟩
        · rw [m6, m7, d2, d3, d4, k6, k7, k8, h1]
          by_cases e : i.toNat = (s 256 40).toNat
          · rw [if_pos e, if_pos e, if_pos e, if_pos e, if_pos e]; exact ⟨rfl, rfl⟩
          · rw [if_neg e, if_neg e, if_neg e, if_neg e, if_neg e]; exact h2 i i0 (by omega)
        · rw [m6, m7, m6, m7, if_neg (show ¬ i.toNat = (s 256 40).toNat by omega), if_neg (show ¬ i.toNat = (s 256 40).toNat by omega)]
          by_cases e : j.toNat = (s 256 40).toNat
          · rw [if_pos e, if_pos e]; exact m3 i i0 (by omega)
          · rw [if_neg e, if_neg e]; exact h3 i j i0 i1 (by omega)
      refine ⟨?_, hW⟩
      have hc := hW.cnt hG2 (a := a) (b := b) ⟨by omega, by omega⟩ ⟨by omega, by omega⟩
      rw [k9, m8, ← hc, d1]
      exact ctp_cg _ (fun k _ => (wms_cg d2 d3 d4).symm)
/-- leads of both -/
def LeC (s : xS) (a b z : Int) : Prop := (¬ (0 ≤ a ∧ a ≤ 3 ∧ 0 ≤ b ∧ b ≤ 99) ∧ z = -1002) ∨ ((0 ≤ a ∧ a ≤ 3 ∧ 0 ≤ b ∧ b ≤ 99) ∧ ∃ n : Int, n = ctp (fun k => wms s a b (s 214 3) (k : Int)) 64 ∧ z ≤ 2 ∧ z ≤ n ∧ (z = 2 ∨ z = n))
def LeR (s : xS) (a b z : Int) : Prop := (¬ (0 ≤ a ∧ a ≤ 3 ∧ 0 ≤ b ∧ b ≤ 99) ∧ z = -1002) ∨ ((0 ≤ a ∧ a ≤ 3 ∧ 0 ≤ b ∧ b ≤ 99) ∧ ∃ n : Int, n = ctp (fun k => s 284 k = 100 * a + b) (s 256 40).toNat ∧ ((2 < n ∧ z = 2) ∨ (n ≤ 2 ∧ z = n)))
theorem W1.leads {L1 : List Nat} {s s1 : xS} {a b z1 z2 : Int} (h : W1 s) (hG : GI s) (f1 : FL L1 s s1) (hL1 : ∀ x ∈ [4137, 5888], x ∉ L1) (x1 : LeC s a b z1) (x2 : LeR s1 a b z2) : z1 = z2 := by
  have c2 : s1 256 40 = s 256 40 := f1 256 40 (hL1 4137 (by decide))
  have c3 : s1 284 = s 284 := funext fun i => f1 284 i (hL1 5888 (by decide))
  unfold LeC at x1
  unfold LeR at x2
  rw [c2, c3] at x2
  rcases x1 with ⟨k1, k2⟩ | ⟨k1, n, k2, k3, k4, k5⟩ <;> rcases x2 with ⟨m1, m2⟩ | ⟨m1, n2, m2, m3⟩
  · omega
  · exfalso; omega
  · exfalso; omega
  · have hc := h.cnt hG (a := a) (b := b) ⟨by omega, by omega⟩ ⟨by omega, by omega⟩
    rw [← k2, ← m2] at hc
    omega
theorem nwd_step {s : xS} {v d n : Int} (h : ∀ i : Int, 0 ≤ i → i < n → ¬ (s 284 i.toNat = v ∧ s 285 i.toNat = d)) (hn : ¬ (s 284 n.toNat = v ∧ s 285 n.toNat = d)) : ∀ i : Int, 0 ≤ i → i < n + 1 → ¬ (s 284 i.toNat = v ∧ s 285 i.toNat = d) := by
  intro i i0 i1
  by_cases e : i = n
  · rw [e]; exact hn
  · exact h i i0 (by omega)
