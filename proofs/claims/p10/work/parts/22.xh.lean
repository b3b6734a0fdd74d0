/-! A LEMMA AN INSTRUCTION: fields, arrays, ends, calls -/
theorem xr.cell {s : xS} {h : pmH} {q t n kd : Nat} (hr : xr s h) (hc : xc q t n kd) : ∃ f, h[q]? = some (t, n, f) ∧ ∀ i, i < n → f i = x_val (x_kd q i) (s q i) := by
  obtain ⟨f, h1, h2⟩ := hr.2 q hc.1
  rw [hc.2] at h1 h2
  exact ⟨f, h1, h2⟩
theorem xc.lt {q t n kd : Nat} (hc : xc q t n kd) : q < 295 := hc.1
theorem xc.k0 {q t n : Nat} (hc : xc q t n 0) (i : Nat) : x_kd q i = 0 := by unfold x_kd; rw [hc.2]
theorem xc.k1 {q t n : Nat} (hc : xc q t n 1) (i : Nat) : x_kd q i = 1 := by unfold x_kd; rw [hc.2]
theorem xc.k2 {q t n : Nat} (hc : xc q t n 2) (i : Nat) : x_kd q i = q + 1 + i + 2 := by unfold x_kd; rw [hc.2]
theorem xr.set {s : xS} {h : pmH} {q t n kd i : Nat} {F : Nat → Value} {v : Int} {w : Value} (hr : xr s h) (hc : xc q t n kd) (hq : h[q]? = some (t, n, F)) (hw : w = x_val (x_kd q i) v) : xr (x_up s q i v) (h.set q (t, n, pm_upd F i w)) := by
  refine ⟨by rw [List.length_set]; exact hr.1, fun a ha => ?_⟩
  have hql : q < h.length := (List.getElem?_eq_some_iff.mp hq).1
  by_cases e : a = q
  · subst e
    rw [List.getElem?_set_self hql, hc.2]
    refine ⟨_, rfl, fun j hj => ?_⟩
    obtain ⟨f, h1, h2⟩ := hr.cell hc
    rw [hq] at h1
    cases h1
    show (if j = i then w else F j) = _
    by_cases e2 : j = i
    · rw [if_pos e2, hw, e2, x_up_same]
    · rw [if_neg e2, x_up_i e2]
      exact h2 j hj
  · obtain ⟨f, h1, h2⟩ := hr.2 a ha
    refine ⟨f, by rw [List.getElem?_set_ne (fun z => e z.symm)]; exact h1, fun j hj => ?_⟩
    rw [x_up_q e]
    exact h2 j hj
section XH
variable {X : pmX} {m pc : Nat} {ls : pmL} {r : List Value} {s : xS} {c k : Nat} {P : xS → Option Value → Prop} {len : Nat} {a b : Int}
/-- any step with the heap -/
theorem x_H {i : Instr} {st st' : List Value} {pc' : Nat} {s' : xS} (hk : pm_look (pm_kl m) pc = some (i, len)) (he : pm_end m i st = none) (hi : ∀ h, pm_inv m i st h c k = none) (hA : ∀ h, pm_stepA m i pc ls st h c k = none) (hs : ∀ h, xr s h → ∃ h', pm_stepB X m i pc ls st h c k = some (pc', ls, st', h', c, k) ∧ xr s' h') (kk : xe X m pc' ls st' s' c k P) : xe X m pc ls st s c k P := fun h hr => by
  obtain ⟨h', h1, h2⟩ := hs h hr
  exact ex_step hk he (hi h) (by unfold pm_step; rw [hA h]; exact h1) (kk h' h2)
theorem x_get {j q f t n kd : Nat} (hk : pm_look (pm_kl m) pc = some (.getfield j, len)) (hf : pm_fld m j = some (t, f)) (hc : xc q t n kd) (hfn : f < n) (kk : xe X m (pc + 3) ls (x_val (x_kd q f) (s q f) :: r) s c k P) : xe X m pc ls (.ref q :: r) s c k P := by
  refine x_B hk rfl (fun _ => rfl) (fun _ => rfl) (fun h hr => ?_) kk
  obtain ⟨F, h1, h2⟩ := hr.cell hc
  have hq := hc.lt
  simp only [pm_stepB]
  rw [if_neg (show ¬ 2001 ≤ q by omega)]
  simp only [hf, h1, if_true, h2 f hfn]
theorem x_getI {j q f t n kd : Nat} (hk : pm_look (pm_kl m) pc = some (.getfield j, len)) (hf : pm_fld m j = some (t, f)) (hc : xc q t n kd) (hfn : f < n) (hkd : x_kd q f = 0) (kk : xe X m (pc + 3) ls (vi (s q f) :: r) s c k P) : xe X m pc ls (.ref q :: r) s c k P := x_get hk hf hc hfn (by rw [hkd]; exact kk)
theorem x_getJ {j q f t n kd : Nat} (hk : pm_look (pm_kl m) pc = some (.getfield j, len)) (hf : pm_fld m j = some (t, f)) (hc : xc q t n kd) (hfn : f < n) (hkd : x_kd q f = 1) (kk : xe X m (pc + 3) ls (vj (s q f) :: r) s c k P) : xe X m pc ls (.ref q :: r) s c k P := x_get hk hf hc hfn (by rw [hkd]; exact kk)
theorem x_getR {j q f t n kd q2 : Nat} (hk : pm_look (pm_kl m) pc = some (.getfield j, len)) (hf : pm_fld m j = some (t, f)) (hc : xc q t n kd) (hfn : f < n) (hkd : x_kd q f = q2 + 2) (kk : xe X m (pc + 3) ls (.ref q2 :: r) s c k P) : xe X m pc ls (.ref q :: r) s c k P := x_get hk hf hc hfn (by rw [hkd]; exact kk)
theorem x_put {j q f t n kd : Nat} {v : Value} {z : Int} (hk : pm_look (pm_kl m) pc = some (.putfield j, len)) (hf : pm_fld m j = some (t, f)) (hc : xc q t n kd) (hv : v = x_val (x_kd q f) z) (ho : pm_okv (pm_ty t f) v = true) (hfi : pm_fin t f = false) (kk : xe X m (pc + 3) ls r (x_up s q f z) c k P) : xe X m pc ls (v :: .ref q :: r) s c k P := by
  refine x_H hk rfl (fun _ => rfl) (fun _ => rfl) (fun h hr => ?_) kk
  obtain ⟨F, h1, h2⟩ := hr.cell hc
  refine ⟨_, ?_, hr.set hc h1 hv⟩
  simp only [pm_stepB, hf, h1]
  rw [if_pos ⟨trivial, ho, Or.inl hfi⟩]
theorem x_okI (z : Int) : pm_okv .int (vi z) = true := by unfold pm_okv; rw [decide_eq_true (show narrow .int (vi z) = vi z from rfl)]; rfl
theorem x_okJ (z : Int) : pm_okv .long (vj z) = true := by unfold pm_okv; rw [decide_eq_true (show narrow .long (vj z) = vj z from rfl)]; rfl
theorem x_okZ {z : Int} (h : 0 ≤ z ∧ z ≤ 1) : pm_okv .boolean (vi z) = true := by
  have : z = 0 ∨ z = 1 := by omega
  rcases this with rfl | rfl <;> decide
theorem x_putI {j q f t n kd : Nat} (hk : pm_look (pm_kl m) pc = some (.putfield j, len)) (hf : pm_fld m j = some (t, f)) (hc : xc q t n kd) (hkd : x_kd q f = 0) (hty : pm_ty t f = .int) (hfi : pm_fin t f = false) (kk : xe X m (pc + 3) ls r (x_up s q f a) c k P) : xe X m pc ls (vi a :: .ref q :: r) s c k P := x_put hk hf hc (by rw [hkd]; rfl) (by rw [hty]; exact x_okI a) hfi kk
theorem x_putZ {j q f t n kd : Nat} (hk : pm_look (pm_kl m) pc = some (.putfield j, len)) (hf : pm_fld m j = some (t, f)) (hc : xc q t n kd) (hkd : x_kd q f = 0) (hty : pm_ty t f = .boolean) (hfi : pm_fin t f = false) (ha : 0 ≤ a ∧ a ≤ 1) (kk : xe X m (pc + 3) ls r (x_up s q f a) c k P) : xe X m pc ls (vi a :: .ref q :: r) s c k P := x_put hk hf hc (by rw [hkd]; rfl) (by rw [hty]; exact x_okZ ha) hfi kk
theorem x_putJ {j q f t n kd : Nat} (hk : pm_look (pm_kl m) pc = some (.putfield j, len)) (hf : pm_fld m j = some (t, f)) (hc : xc q t n kd) (hkd : x_kd q f = 1) (hty : pm_ty t f = .long) (hfi : pm_fin t f = false) (kk : xe X m (pc + 3) ls r (x_up s q f a) c k P) : xe X m pc ls (vj a :: .ref q :: r) s c k P := x_put hk hf hc (by rw [hkd]; rfl) (by rw [hty]; exact x_okJ a) hfi kk
theorem x_ix {n : Nat} (ha : 0 ≤ a ∧ a < (n : Int)) (hn : n ≤ 100000) : pm_ix (Int32.ofInt a) n = true ∧ (Int32.ofInt a).toNatClampNeg = a.toNat := by
  have hi : in32 a := ⟨by omega, by omega⟩
  have e : (Int32.ofInt a).toNatClampNeg = a.toNat := by
    show (Int32.ofInt a).toInt.toNat = _
    rw [in32_toInt hi]
  refine ⟨?_, e⟩
  unfold pm_ix
  rw [e, Bool.and_eq_true]
  refine ⟨decide_eq_true ?_, decide_eq_true (by omega)⟩
  rw [Int32.le_iff_toInt_le, in32_toInt hi]
  exact ha.1
theorem x_iald {q n : Nat} (hk : pm_look (pm_kl m) pc = some (.iaload, len)) (hc : xc q 20 n 0) (hn : n ≤ 100000) (ha : 0 ≤ a ∧ a < (n : Int)) (kk : xe X m (pc + 1) ls (vi (s q a.toNat) :: r) s c k P) : xe X m pc ls (vi a :: .ref q :: r) s c k P := by
  refine x_B hk rfl (fun _ => rfl) (fun _ => rfl) (fun h hr => ?_) kk
  obtain ⟨F, h1, h2⟩ := hr.cell hc
  obtain ⟨i1, i2⟩ := x_ix ha hn
  have hq := hc.lt
  simp only [pm_stepB]
  rw [if_neg (show ¬ q = 2000 by omega)]
  simp only [h1]
  rw [if_pos ⟨trivial, i1⟩, i2, h2 _ (by omega), hc.k0]
  rfl
theorem x_lald {q n : Nat} (hk : pm_look (pm_kl m) pc = some (.laload, len)) (hc : xc q 21 n 1) (hn : n ≤ 100000) (ha : 0 ≤ a ∧ a < (n : Int)) (kk : xe X m (pc + 1) ls (vj (s q a.toNat) :: r) s c k P) : xe X m pc ls (vi a :: .ref q :: r) s c k P := by
  refine x_B hk rfl (fun _ => rfl) (fun _ => rfl) (fun h hr => ?_) kk
  obtain ⟨F, h1, h2⟩ := hr.cell hc
  obtain ⟨i1, i2⟩ := x_ix ha hn
  simp only [pm_stepB, h1]
  rw [if_pos ⟨trivial, i1⟩, i2, h2 _ (by omega), hc.k1]
  rfl
theorem x_bald {q n : Nat} (hk : pm_look (pm_kl m) pc = some (.baload, len)) (hc : xc q 22 n 0) (hn : n ≤ 100000) (ha : 0 ≤ a ∧ a < (n : Int)) (kk : xe X m (pc + 1) ls (vi (s q a.toNat) :: r) s c k P) : xe X m pc ls (vi a :: .ref q :: r) s c k P := by
  refine x_B hk rfl (fun _ => rfl) (fun _ => rfl) (fun h hr => ?_) kk
  obtain ⟨F, h1, h2⟩ := hr.cell hc
  obtain ⟨i1, i2⟩ := x_ix ha hn
  have hq := hc.lt
  simp only [pm_stepB]
  rw [if_neg (show ¬ 2101 ≤ q by omega)]
  simp only [h1]
  rw [if_pos ⟨trivial, i1⟩, i2, h2 _ (by omega), hc.k0]
  rfl
theorem x_aald {q t n : Nat} (hk : pm_look (pm_kl m) pc = some (.aaload, len)) (hc : xc q t n 2) (ht : t = 23 ∨ t = 24) (hn : n ≤ 100000) (ha : 0 ≤ a ∧ a < (n : Int)) (kk : xe X m (pc + 1) ls (.ref (q + 1 + a.toNat) :: r) s c k P) : xe X m pc ls (vi a :: .ref q :: r) s c k P := by
  refine x_B hk rfl (fun _ => rfl) (fun _ => rfl) (fun h hr => ?_) kk
  obtain ⟨F, h1, h2⟩ := hr.cell hc
  obtain ⟨i1, i2⟩ := x_ix ha hn
  simp only [pm_stepB, h1]
  rw [if_pos ⟨ht, i1⟩, i2, h2 _ (by omega), hc.k2]
  rfl
theorem x_iast {q n : Nat} (hk : pm_look (pm_kl m) pc = some (.iastore, len)) (hc : xc q 20 n 0) (hn : n ≤ 100000) (ha : 0 ≤ a ∧ a < (n : Int)) (kk : xe X m (pc + 1) ls r (x_up s q a.toNat b) c k P) : xe X m pc ls (vi b :: vi a :: .ref q :: r) s c k P := by
  refine x_H hk rfl (fun _ => rfl) (fun _ => rfl) (fun h hr => ?_) kk
  obtain ⟨F, h1, h2⟩ := hr.cell hc
  obtain ⟨i1, i2⟩ := x_ix ha hn
  refine ⟨_, ?_, hr.set (i := a.toNat) (v := b) (w := vi b) hc h1 (by rw [hc.k0]; rfl)⟩
  simp only [pm_stepB, h1]
  rw [if_pos ⟨trivial, i1⟩, i2]
theorem x_last {q n : Nat} (hk : pm_look (pm_kl m) pc = some (.lastore, len)) (hc : xc q 21 n 1) (hn : n ≤ 100000) (ha : 0 ≤ a ∧ a < (n : Int)) (kk : xe X m (pc + 1) ls r (x_up s q a.toNat b) c k P) : xe X m pc ls (vj b :: vi a :: .ref q :: r) s c k P := by
  refine x_H hk rfl (fun _ => rfl) (fun _ => rfl) (fun h hr => ?_) kk
  obtain ⟨F, h1, h2⟩ := hr.cell hc
  obtain ⟨i1, i2⟩ := x_ix ha hn
  refine ⟨_, ?_, hr.set (i := a.toNat) (v := b) (w := vj b) hc h1 (by rw [hc.k1]; rfl)⟩
  simp only [pm_stepB, h1]
  rw [if_pos ⟨trivial, i1⟩, i2]
theorem x_bast {q n : Nat} (hk : pm_look (pm_kl m) pc = some (.bastore, len)) (hc : xc q 22 n 0) (hn : n ≤ 100000) (ha : 0 ≤ a ∧ a < (n : Int)) (hb : 0 ≤ b ∧ b ≤ 1) (kk : xe X m (pc + 1) ls r (x_up s q a.toNat b) c k P) : xe X m pc ls (vi b :: vi a :: .ref q :: r) s c k P := by
  refine x_H hk rfl (fun _ => rfl) (fun _ => rfl) (fun h hr => ?_) kk
  obtain ⟨F, h1, h2⟩ := hr.cell hc
  obtain ⟨i1, i2⟩ := x_ix ha hn
  have e : Int32.ofInt b &&& 1 = Int32.ofInt b := by
    have : b = 0 ∨ b = 1 := by omega
    rcases this with rfl | rfl <;> decide
  refine ⟨_, ?_, hr.set (i := a.toNat) (v := b) (w := vi b) hc h1 (by rw [hc.k0]; rfl)⟩
  simp only [pm_stepB, h1]
  rw [if_pos ⟨trivial, i1⟩, i2, e]
theorem x_alen {q t n kd : Nat} (hk : pm_look (pm_kl m) pc = some (.arraylength, len)) (hc : xc q t n kd) (ht : t = 20 ∨ t = 21) (kk : xe X m (pc + 1) ls (vi (n : Nat) :: r) s c k P) : xe X m pc ls (.ref q :: r) s c k P := by
  refine x_B hk rfl (fun _ => rfl) (fun _ => rfl) (fun h hr => ?_) kk
  obtain ⟨F, h1, h2⟩ := hr.cell hc
  have hq := hc.lt
  simp only [pm_stepB]
  rw [if_neg (show ¬ q = 2000 by omega), if_neg (show ¬ 2101 ≤ q by omega)]
  simp only [h1]
  rw [if_pos ht, ← Int32.ofInt_eq_ofNat]
theorem x_iret (hk : pm_look (pm_kl m) pc = some (.ireturn, len)) (hr : pm_ret m = some .int) (hP : P s (some (vi a))) : xe X m pc ls [vi a] s c k P := fun h hx => ex_ret hk (by simp only [pm_end, hr]) ⟨s, hx, hP⟩
theorem x_zret (hk : pm_look (pm_kl m) pc = some (.ireturn, len)) (hr : pm_ret m = some .boolean) (ha : 0 ≤ a ∧ a ≤ 1) (hP : P s (some (vi a))) : xe X m pc ls [vi a] s c k P := fun h hx => ex_ret hk (by
  have e : Int32.ofInt a &&& 1 = Int32.ofInt a := by
    have : a = 0 ∨ a = 1 := by omega
    rcases this with rfl | rfl <;> decide
  simp only [pm_end, hr, e, if_true]) ⟨s, hx, hP⟩
theorem x_lret (hk : pm_look (pm_kl m) pc = some (.lreturn, len)) (hr : pm_ret m = some .long) (hP : P s (some (vj a))) : xe X m pc ls [vj a] s c k P := fun h hx => ex_ret hk (by simp only [pm_end, hr]) ⟨s, hx, hP⟩
theorem x_vret (hk : pm_look (pm_kl m) pc = some (.return_, len)) (hr : pm_ret m = none) (hP : P s none) : xe X m pc ls [] s c k P := fun h hx => ex_ret hk (by simp only [pm_end, hr]) ⟨s, hx, hP⟩
end XH
/-! calls -/
def x_cv (m op j y n w0 w1 c k : Nat) : Bool := match pm_look (pm_calls (pm_oc m)) j with
  | some (y', kind, n') => Nat.beq y' y && !(Nat.beq kind 3) && Nat.beq (kind % 10) op && Nat.beq n' n && Nat.ble (pm_fr y + 1) (pm_fr m) && Nat.ble (8 + (pm_maxL y + 11) + pm_lo y) (pm_lo m) && Nat.ble (c + pm_mc y) (pm_mc m) && Nat.ble (k + pm_ms y) (pm_ms m) && Nat.beq (pm_mc y) 0 && Nat.beq (pm_ms y) 0 && Nat.ble w0 8 && (Nat.beq op 1 && Nat.blt (pm_oc y) pm_lawc && Nat.ble w1 (pm_maxL y) || !(Nat.beq op 1) && Nat.blt (pm_oc y) 12 && Nat.ble (1 + w1) (pm_maxL y))
  | none => false
section XC
variable {X : pmX} {m pc : Nat} {ls : pmL} {s : xS} {c k : Nat} {P : xS → Option Value → Prop} {len : Nat}
theorem x_cv_ok {op j y n w0 w1 : Nat} (h : x_cv m op j y n w0 w1 c k = true) : ∃ kind, pm_look (pm_calls (pm_oc m)) j = some (y, kind, n) ∧ ¬ kind = 3 ∧ kind % 10 = op ∧ (pm_fr y + 1 ≤ pm_fr m ∧ 8 + (pm_maxL y + 11) + pm_lo y ≤ pm_lo m ∧ c + pm_mc y ≤ pm_mc m ∧ k + pm_ms y ≤ pm_ms m) ∧ pm_mc y = 0 ∧ pm_ms y = 0 ∧ w0 ≤ 8 ∧ ((op = 1 ∧ pm_oc y < pm_lawc ∧ w1 ≤ pm_maxL y) ∨ (¬ op = 1 ∧ pm_oc y < 12 ∧ 1 + w1 ≤ pm_maxL y)) := by
  unfold x_cv at h
  split at h
  · next y' kind n' hlk =>
    simp only [Bool.and_eq_true, Bool.or_eq_true, Bool.not_eq_true'] at h
    obtain ⟨⟨⟨⟨⟨⟨⟨⟨⟨⟨⟨a1, a2⟩, a3⟩, a4⟩, a5⟩, a6⟩, a7⟩, a8⟩, a9⟩, a10⟩, a11⟩, a12⟩ := h
    have a1 := Nat.eq_of_beq_eq_true a1
    have a4 := Nat.eq_of_beq_eq_true a4
    subst a1 a4
    refine ⟨kind, hlk, fun z => (by rw [z] at a2; cases a2), Nat.eq_of_beq_eq_true a3, ⟨Nat.le_of_ble_eq_true a5, Nat.le_of_ble_eq_true a6, Nat.le_of_ble_eq_true a7, Nat.le_of_ble_eq_true a8⟩, Nat.eq_of_beq_eq_true a9, Nat.eq_of_beq_eq_true a10, Nat.le_of_ble_eq_true a11, ?_⟩
    rcases a12 with ⟨⟨b1, b2⟩, b3⟩ | ⟨⟨b1, b2⟩, b3⟩
    · exact Or.inl ⟨Nat.eq_of_beq_eq_true b1, Nat.le_of_ble_eq_true b2, Nat.le_of_ble_eq_true b3⟩
    · exact Or.inr ⟨fun z => (by rw [z] at b1; cases b1), Nat.le_of_ble_eq_true b2, Nat.le_of_ble_eq_true b3⟩
  · cases h
theorem x_callS {j y n w0 w1 : Nat} {as rest st : List Value} (hk : pm_look (pm_kl m) pc = some (.invokestatic j, len)) (hck : x_cv m 1 j y n w0 w1 c k = true) (hst : st = as.reverse ++ rest) (hn : as.length = n) (hw0 : (rest.map fun v => v.category).sum = w0) (hw1 : (as.map fun v => v.category).sum = w1)
    (kk : xe none y 0 (lv_args 0 as) [] s 0 0 (fun s1 v => xe X m (pc + 3) ls (v.toList ++ rest) s1 c k P)) : xe X m pc ls st s c k P := by
  intro h hr
  obtain ⟨kind, hlk, hk3, hkd, hb, hmc, hms, h8, hor⟩ := x_cv_ok hck
  have ht : st.take n = as.reverse := by rw [hst, List.take_left' (by rw [List.length_reverse]; exact hn)]
  have hd : st.drop n = rest := by rw [hst, List.drop_left' (by rw [List.length_reverse]; exact hn)]
  have hle : n ≤ st.length := by rw [hst, List.length_append, List.length_reverse, hn]; omega
  have hinv : pm_inv m (.invokestatic j) st h c k = some (some y, as, rest) := by
    unfold pm_inv
    simp only [hlk]
    rw [if_neg hk3, if_pos ⟨hkd, hle, hb⟩]
    simp only [ht, hd, List.reverse_reverse, if_true]
    rcases hor with ⟨-, o1, o2⟩ | ⟨o, -⟩
    · rw [if_pos ⟨by rw [hw0]; exact h8, by rw [hw1]; exact o2, o1⟩]
    · exact absurd rfl o
  refine ex_call hk rfl hinv (ex_mono (fun h1 r1 hq => ?_) (kk h hr))
  obtain ⟨s1, g1, g2⟩ := hq
  rw [hmc, hms]
  exact g2 h1 g1
theorem x_callV {j y n w0 w1 q nq kq : Nat} {as rest st : List Value} (hk : pm_look (pm_kl m) pc = some (.invokevirtual j, len)) (hck : x_cv m 0 j y n w0 w1 c k = true) (hc : xc q (pm_oc y) nq kq) (hst : st = as.reverse ++ .ref q :: rest) (hn : as.length = n) (hw0 : (rest.map fun v => v.category).sum = w0) (hw1 : (as.map fun v => v.category).sum = w1)
    (kk : xe none y 0 (lv_args 0 (.ref q :: as)) [] s 0 0 (fun s1 v => xe X m (pc + 3) ls (v.toList ++ rest) s1 c k P)) : xe X m pc ls st s c k P := by
  intro h hr
  obtain ⟨kind, hlk, hk3, hkd, hb, hmc, hms, h8, hor⟩ := x_cv_ok hck
  have ht : st.take n = as.reverse := by rw [hst, List.take_left' (by rw [List.length_reverse]; exact hn)]
  have hd : st.drop n = .ref q :: rest := by rw [hst, List.drop_left' (by rw [List.length_reverse]; exact hn)]
  have hle : n ≤ st.length := by rw [hst, List.length_append, List.length_reverse, hn]; omega
  obtain ⟨F, g1, -⟩ := hr.cell hc
  have hq := hc.lt
  have hinv : pm_inv m (.invokevirtual j) st h c k = some (some y, .ref q :: as, rest) := by
    unfold pm_inv
    simp only [hlk]
    rw [if_neg hk3, if_pos ⟨hkd, hle, hb⟩]
    simp only [ht, hd, List.reverse_reverse]
    rw [if_neg (by decide), if_neg (show ¬ 2001 ≤ q by omega)]
    simp only [g1]
    rcases hor with ⟨o, -⟩ | ⟨-, o1, o2⟩
    · exact absurd o (by decide)
    · rw [if_pos ⟨trivial, o1, by rw [hw0]; exact h8, by rw [hw1]; exact o2⟩]
  refine ex_call hk rfl hinv (ex_mono (fun h1 r1 hq => ?_) (kk h hr))
  obtain ⟨s1, g1, g2⟩ := hq
  rw [hmc, hms]
  exact g2 h1 g1
end XC
/-! more instructions; the bounds of all places; frames -/
section XM
variable {X : pmX} {m pc : Nat} {ls : pmL} {r : List Value} {s : xS} {c k : Nat} {P : xS → Option Value → Prop} {len len2 : Nat} {a b : Int}
theorem x_bipush {n : Int} (hk : pm_look (pm_kl m) pc = some (.bipush n, len)) (hn : (Int8.ofInt n).toInt32 = Int32.ofInt n) (kk : xe X m (pc + 2) ls (vi n :: r) s c k P) : xe X m pc ls r s c k P := x_A hk (fun h => by simp only [pm_stepA]; rw [hn]) kk
theorem x_sipush {n : Int} (hk : pm_look (pm_kl m) pc = some (.sipush n, len)) (hn : (Int16.ofInt n).toInt32 = Int32.ofInt n) (kk : xe X m (pc + 3) ls (vi n :: r) s c k P) : xe X m pc ls r s c k P := x_A hk (fun h => by simp only [pm_stepA]; rw [hn]) kk
theorem x_lconst {n : Fin 2} {z : Int} (hk : pm_look (pm_kl m) pc = some (.lconst n, len)) (hn : Int64.ofNat n = Int64.ofInt z) (kk : xe X m (pc + 1) ls (vj z :: r) s c k P) : xe X m pc ls r s c k P := x_A hk (fun h => by simp only [pm_stepA]; rw [hn]) kk
theorem x_ldcI {j : Nat} {x : Int32} {z : Int} (hk : pm_look (pm_kl m) pc = some (.ldc j, len)) (hc : pm_look (pm_cons (pm_oc m)) j = some (.int x)) (hx : x = Int32.ofInt z) (kk : xe X m (pc + 2) ls (vi z :: r) s c k P) : xe X m pc ls r s c k P := x_B hk rfl (fun _ => rfl) (fun _ => rfl) (fun h _ => by simp only [pm_stepB, hc]; rw [hx]) kk
theorem x_ldcwI {j : Nat} {x : Int32} {z : Int} (hk : pm_look (pm_kl m) pc = some (.ldc_w j, len)) (hc : pm_look (pm_cons (pm_oc m)) j = some (.int x)) (hx : x = Int32.ofInt z) (kk : xe X m (pc + 3) ls (vi z :: r) s c k P) : xe X m pc ls r s c k P := x_B hk rfl (fun _ => rfl) (fun _ => rfl) (fun h _ => by simp only [pm_stepB, hc]; rw [hx]) kk
theorem x_ldcR {j q : Nat} (hk : pm_look (pm_kl m) pc = some (.ldc j, len)) (hc : pm_look (pm_cons (pm_oc m)) j = some (.ref q)) (kk : xe X m (pc + 2) ls (.ref q :: r) s c k P) : xe X m pc ls r s c k P := x_B hk rfl (fun _ => rfl) (fun _ => rfl) (fun h _ => by simp only [pm_stepB, hc]) kk
theorem x_ldc2 {j : Nat} {x : Int64} {z : Int} (hk : pm_look (pm_kl m) pc = some (.ldc2_w j, len)) (hc : pm_look (pm_cons (pm_oc m)) j = some (.long x)) (hx : x = Int64.ofInt z) (kk : xe X m (pc + 3) ls (vj z :: r) s c k P) : xe X m pc ls r s c k P := x_B hk rfl (fun _ => rfl) (fun _ => rfl) (fun h _ => by simp only [pm_stepB, hc]; rw [hx]) kk
theorem x_lcmp (hk : pm_look (pm_kl m) pc = some (.lcmp, len)) (ha : in64 a) (hb : in64 b) (kk : xe X m (pc + 1) ls (vi (if b < a then 1 else if a = b then 0 else -1) :: r) s c k P) : xe X m pc ls (vj b :: vj a :: r) s c k P := x_A hk (fun h => by
  simp only [pm_stepA]
  have e : lg_cmp (Int64.ofInt a) (Int64.ofInt b) = Int32.ofInt (if b < a then 1 else if a = b then 0 else -1) := by
    unfold lg_cmp
    simp only [gt_iff_lt, Int64.lt_iff_toInt_lt, ← Int64.toInt_inj, in64_toInt ha, in64_toInt hb]
    split
    · rfl
    · split <;> rfl
  rw [e]) kk
theorem x_lc_eq {off : Int} {t : Nat} (hk : pm_look (pm_kl m) pc = some (.lcmp, len)) (hk2 : pm_look (pm_kl m) (pc + 1) = some (.ifCond .eq off, len2)) (ht : pm_tgt (pc + 1) off = some t) (ha : in64 a) (hb : in64 b) (k1 : a = b → xe X m t ls r s c k P) (k2 : ¬ (a = b) → xe X m (pc + 1 + 3) ls r s c k P) : xe X m pc ls (vj b :: vj a :: r) s c k P := by
  refine x_lcmp hk ha hb (x_if_eq hk2 ht ?_ (fun h => k1 ?_) (fun h => k2 ?_))
  · constructor <;> (repeat' split) <;> omega
  all_goals ((repeat' split at h) <;> omega)
theorem x_lc_ne {off : Int} {t : Nat} (hk : pm_look (pm_kl m) pc = some (.lcmp, len)) (hk2 : pm_look (pm_kl m) (pc + 1) = some (.ifCond .ne off, len2)) (ht : pm_tgt (pc + 1) off = some t) (ha : in64 a) (hb : in64 b) (k1 : a ≠ b → xe X m t ls r s c k P) (k2 : ¬ (a ≠ b) → xe X m (pc + 1 + 3) ls r s c k P) : xe X m pc ls (vj b :: vj a :: r) s c k P := by
  refine x_lcmp hk ha hb (x_if_ne hk2 ht ?_ (fun h => k1 ?_) (fun h => k2 ?_))
  · constructor <;> (repeat' split) <;> omega
  all_goals ((repeat' split at h) <;> omega)
theorem x_lc_lt {off : Int} {t : Nat} (hk : pm_look (pm_kl m) pc = some (.lcmp, len)) (hk2 : pm_look (pm_kl m) (pc + 1) = some (.ifCond .lt off, len2)) (ht : pm_tgt (pc + 1) off = some t) (ha : in64 a) (hb : in64 b) (k1 : a < b → xe X m t ls r s c k P) (k2 : ¬ (a < b) → xe X m (pc + 1 + 3) ls r s c k P) : xe X m pc ls (vj b :: vj a :: r) s c k P := by
  refine x_lcmp hk ha hb (x_if_lt hk2 ht ?_ (fun h => k1 ?_) (fun h => k2 ?_))
  · constructor <;> (repeat' split) <;> omega
  all_goals ((repeat' split at h) <;> omega)
theorem x_lc_ge {off : Int} {t : Nat} (hk : pm_look (pm_kl m) pc = some (.lcmp, len)) (hk2 : pm_look (pm_kl m) (pc + 1) = some (.ifCond .ge off, len2)) (ht : pm_tgt (pc + 1) off = some t) (ha : in64 a) (hb : in64 b) (k1 : b ≤ a → xe X m t ls r s c k P) (k2 : ¬ (b ≤ a) → xe X m (pc + 1 + 3) ls r s c k P) : xe X m pc ls (vj b :: vj a :: r) s c k P := by
  refine x_lcmp hk ha hb (x_if_ge hk2 ht ?_ (fun h => k1 ?_) (fun h => k2 ?_))
  · constructor <;> (repeat' split) <;> omega
  all_goals ((repeat' split at h) <;> omega)
theorem x_lc_gt {off : Int} {t : Nat} (hk : pm_look (pm_kl m) pc = some (.lcmp, len)) (hk2 : pm_look (pm_kl m) (pc + 1) = some (.ifCond .gt off, len2)) (ht : pm_tgt (pc + 1) off = some t) (ha : in64 a) (hb : in64 b) (k1 : b < a → xe X m t ls r s c k P) (k2 : ¬ (b < a) → xe X m (pc + 1 + 3) ls r s c k P) : xe X m pc ls (vj b :: vj a :: r) s c k P := by
  refine x_lcmp hk ha hb (x_if_gt hk2 ht ?_ (fun h => k1 ?_) (fun h => k2 ?_))
  · constructor <;> (repeat' split) <;> omega
  all_goals ((repeat' split at h) <;> omega)
theorem x_lc_le {off : Int} {t : Nat} (hk : pm_look (pm_kl m) pc = some (.lcmp, len)) (hk2 : pm_look (pm_kl m) (pc + 1) = some (.ifCond .le off, len2)) (ht : pm_tgt (pc + 1) off = some t) (ha : in64 a) (hb : in64 b) (k1 : a ≤ b → xe X m t ls r s c k P) (k2 : ¬ (a ≤ b) → xe X m (pc + 1 + 3) ls r s c k P) : xe X m pc ls (vj b :: vj a :: r) s c k P := by
  refine x_lcmp hk ha hb (x_if_le hk2 ht ?_ (fun h => k1 ?_) (fun h => k2 ?_))
  · constructor <;> (repeat' split) <;> omega
  all_goals ((repeat' split at h) <;> omega)
theorem x_goto {off : Int} {t : Nat} (hk : pm_look (pm_kl m) pc = some (.goto off, len)) (ht : pm_tgt pc off = some t) (kk : xe X m t ls r s c k P) : xe X m pc ls r s c k P := x_A hk (fun h => by simp only [pm_stepA, ht]) kk
theorem x_tab {d lo hi : Int} {offs : Array Int} (hk : pm_look (pm_kl m) pc = some (.tableswitch d lo hi offs, len)) (ha : in32 a) (kin : ∀ t, lo ≤ a → a ≤ hi → (match offs[(a - lo).toNat]? with
    | some off => pm_tgt pc off
    | none => none) = some t → xe X m t ls r s c k P) (hin : lo ≤ a → a ≤ hi → ∃ t, (match offs[(a - lo).toNat]? with
    | some off => pm_tgt pc off
    | none => none) = some t) {t0 : Nat} (h0 : pm_tgt pc d = some t0) (kout : ¬ (lo ≤ a ∧ a ≤ hi) → xe X m t0 ls r s c k P) : xe X m pc ls (vi a :: r) s c k P := by
  by_cases hc : lo ≤ a ∧ a ≤ hi
  · obtain ⟨t, ht⟩ := hin hc.1 hc.2
    refine x_B hk rfl (fun _ => rfl) (fun _ => rfl) (fun h _ => ?_) (kin t hc.1 hc.2 ht)
    simp only [pm_stepB, in32_toInt ha]
    rw [if_neg (by omega)]
    split at ht
    · next off ho => simp only [ho, ht]
    · cases ht
  · refine x_B hk rfl (fun _ => rfl) (fun _ => rfl) (fun h _ => ?_) (kout hc)
    simp only [pm_stepB, in32_toInt ha]
    rw [if_pos (by omega)]
    simp only [h0]
end XM
/-- nothing but the places of w has changed -/
def Fr (w : Nat → Nat → Bool) (s s' : xS) : Prop := ∀ q i, w q i = false → s' q i = s q i
theorem Fr.rf {w : Nat → Nat → Bool} {s : xS} : Fr w s s := fun _ _ _ => rfl
theorem Fr.up {w : Nat → Nat → Bool} {s s' : xS} {q i : Nat} {v : Int} (h : Fr w s s') (hw : w q i = true) : Fr w s (x_up s' q i v) := fun a b hab => by
  by_cases e : a = q ∧ b = i
  · rw [e.1, e.2, hw] at hab; cases hab
  · show (if a = q ∧ b = i then v else s' a b) = _
    rw [if_neg e]
    exact h a b hab
theorem Fr.tr {w w' : Nat → Nat → Bool} {s s1 s2 : xS} (h : Fr w s s1) (h' : Fr w' s1 s2) (hw : ∀ q i, w q i = false → w' q i = false) : Fr w s s2 := fun a b hab => (h' a b (hw a b hab)).trans (h a b hab)
