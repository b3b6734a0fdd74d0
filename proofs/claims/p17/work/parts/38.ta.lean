/-! reading a text: T its bytes, n how many -/
def skF (T : Nat → Int) (n : Int) : Nat → Int → Int
  | 0, p => p
  | k + 1, p => if p < n ∧ T p.toNat = 32 then skF T n k (p + 1) else p
/-- behind blanks -/
def sk (T : Nat → Int) (n p : Int) : Int := skF T n (n - p).toNat p
theorem sk_y {T : Nat → Int} {n p : Int} (h1 : p < n) (h2 : T p.toNat = 32) : sk T n p = sk T n (p + 1) := by
  unfold sk
  rw [show (n - p).toNat = (n - (p + 1)).toNat + 1 by omega, skF, if_pos ⟨h1, h2⟩]
theorem sk_n {T : Nat → Int} {n p : Int} (h : ¬ (p < n ∧ T p.toNat = 32)) : sk T n p = p := by
  unfold sk
  cases (n - p).toNat with
  | zero => rfl
  | succ k => rw [skF, if_neg h]
theorem skF_le {T : Nat → Int} {n : Int} : ∀ (k : Nat) (p : Int), p ≤ skF T n k p ∧ (p ≤ n → skF T n k p ≤ n) := by
  intro k
  induction k with
  | zero => intro p; exact ⟨Int.le_refl _, id⟩
  | succ k ih =>
    intro p
    rw [skF]
    by_cases h : p < n ∧ T p.toNat = 32
    · rw [if_pos h]
      have := ih (p + 1)
      exact ⟨by omega, fun _ => this.2 (by omega)⟩
    · rw [if_neg h]; exact ⟨Int.le_refl _, id⟩
theorem sk_le {T : Nat → Int} {n p : Int} : p ≤ sk T n p ∧ (p ≤ n → sk T n p ≤ n) := skF_le _ _
theorem skF_at {T : Nat → Int} {n : Int} : ∀ (k : Nat) (p : Int), n - p ≤ k → ¬ (skF T n k p < n ∧ T (skF T n k p).toNat = 32) := by
  intro k
  induction k with
  | zero => intro p hk h; have h : p < n ∧ T p.toNat = 32 := h; omega
  | succ k ih =>
    intro p hk
    rw [skF]
    by_cases h : p < n ∧ T p.toNat = 32
    · rw [if_pos h]; exact ih (p + 1) (by omega)
    · rw [if_neg h]; exact h
theorem sk_at {T : Nat → Int} {n p : Int} : ¬ (sk T n p < n ∧ T (sk T n p).toNat = 32) := skF_at _ _ (by omega)
theorem sk_sk {T : Nat → Int} {n p : Int} : sk T n (sk T n p) = sk T n p := sk_n sk_at
def rnF (T : Nat → Int) (n lo hi : Int) : Nat → Int → Int
  | 0, p => p
  | k + 1, p => if p < n ∧ lo ≤ T p.toNat ∧ T p.toNat ≤ hi then rnF T n lo hi k (p + 1) else p
/-- the end of a run of signs within lo .. hi -/
def rn (T : Nat → Int) (n lo hi p : Int) : Int := rnF T n lo hi (n - p).toNat p
theorem rn_y {T : Nat → Int} {n lo hi p : Int} (h1 : p < n) (h2 : lo ≤ T p.toNat ∧ T p.toNat ≤ hi) : rn T n lo hi p = rn T n lo hi (p + 1) := by
  unfold rn
  rw [show (n - p).toNat = (n - (p + 1)).toNat + 1 by omega, rnF, if_pos ⟨h1, h2⟩]
theorem rn_n {T : Nat → Int} {n lo hi p : Int} (h : ¬ (p < n ∧ lo ≤ T p.toNat ∧ T p.toNat ≤ hi)) : rn T n lo hi p = p := by
  unfold rn
  cases (n - p).toNat with
  | zero => rfl
  | succ k => rw [rnF, if_neg h]
theorem rnF_le {T : Nat → Int} {n lo hi : Int} : ∀ (k : Nat) (p : Int), p ≤ rnF T n lo hi k p ∧ (p ≤ n → rnF T n lo hi k p ≤ n) := by
  intro k
  induction k with
  | zero => intro p; exact ⟨Int.le_refl _, id⟩
  | succ k ih =>
    intro p
    rw [rnF]
    by_cases h : p < n ∧ lo ≤ T p.toNat ∧ T p.toNat ≤ hi
    · rw [if_pos h]
      have := ih (p + 1)
      exact ⟨by omega, fun _ => this.2 (by omega)⟩
    · rw [if_neg h]; exact ⟨Int.le_refl _, id⟩
theorem rn_le {T : Nat → Int} {n lo hi p : Int} : p ≤ rn T n lo hi p ∧ (p ≤ n → rn T n lo hi p ≤ n) := rnF_le _ _
theorem rnF_in {T : Nat → Int} {n lo hi : Int} : ∀ (k : Nat) (p i : Int), p ≤ i → i < rnF T n lo hi k p → lo ≤ T i.toNat ∧ T i.toNat ≤ hi := by
  intro k
  induction k with
  | zero => intro p i h1 h2; have h2 : i < p := h2; omega
  | succ k ih =>
    intro p i h1 h2
    rw [rnF] at h2
    by_cases h : p < n ∧ lo ≤ T p.toNat ∧ T p.toNat ≤ hi
    · rw [if_pos h] at h2
      by_cases e : i = p
      · rw [e]; exact h.2
      · exact ih (p + 1) i (by omega) h2
    · rw [if_neg h] at h2; omega
theorem rn_in {T : Nat → Int} {n lo hi p : Int} (i : Int) (h1 : p ≤ i) (h2 : i < rn T n lo hi p) : lo ≤ T i.toNat ∧ T i.toNat ≤ hi := rnF_in _ _ i h1 h2
/-- the kind of a token: 0 end, 1 letters, 2 figures, 3 a sign -/
def kd (T : Nat → Int) (n p : Int) : Int := if p < n then (if 97 ≤ T p.toNat ∧ T p.toNat ≤ 122 then 1 else if 48 ≤ T p.toNat ∧ T p.toNat ≤ 57 then 2 else 3) else 0
/-- the end of the token at p -/
def te (T : Nat → Int) (n p : Int) : Int := if kd T n p = 1 then rn T n 97 122 p else if kd T n p = 2 then rn T n 48 57 p else if kd T n p = 3 then p + 1 else p
/-- the sign at p -/
def ch (T : Nat → Int) (n p : Int) : Int := if p < n then T p.toNat else -1
theorem kd_0 {T : Nat → Int} {n p : Int} (h : n ≤ p) : kd T n p = 0 := by unfold kd; rw [if_neg (by omega)]
theorem kd_1 {T : Nat → Int} {n p : Int} (h : p < n) (h1 : 97 ≤ T p.toNat ∧ T p.toNat ≤ 122) : kd T n p = 1 := by unfold kd; rw [if_pos h, if_pos h1]
theorem kd_2 {T : Nat → Int} {n p : Int} (h : p < n) (h1 : 48 ≤ T p.toNat ∧ T p.toNat ≤ 57) : kd T n p = 2 := by unfold kd; rw [if_pos h, if_neg (by omega), if_pos h1]
theorem kd_3 {T : Nat → Int} {n p : Int} (h : p < n) (h1 : ¬ (97 ≤ T p.toNat ∧ T p.toNat ≤ 122)) (h2 : ¬ (48 ≤ T p.toNat ∧ T p.toNat ≤ 57)) : kd T n p = 3 := by unfold kd; rw [if_pos h, if_neg h1, if_neg h2]
theorem kd_cs {T : Nat → Int} {n p : Int} : (kd T n p = 0 ∧ n ≤ p) ∨ (kd T n p = 1 ∧ p < n ∧ 97 ≤ T p.toNat ∧ T p.toNat ≤ 122) ∨ (kd T n p = 2 ∧ p < n ∧ 48 ≤ T p.toNat ∧ T p.toNat ≤ 57) ∨ (kd T n p = 3 ∧ p < n ∧ ¬ (97 ≤ T p.toNat ∧ T p.toNat ≤ 122) ∧ ¬ (48 ≤ T p.toNat ∧ T p.toNat ≤ 57)) := by
  by_cases h : p < n
  · by_cases h1 : 97 ≤ T p.toNat ∧ T p.toNat ≤ 122
    · exact Or.inr (Or.inl ⟨kd_1 h h1, h, h1⟩)
    · by_cases h2 : 48 ≤ T p.toNat ∧ T p.toNat ≤ 57
      · exact Or.inr (Or.inr (Or.inl ⟨kd_2 h h2, h, h2⟩))
      · exact Or.inr (Or.inr (Or.inr ⟨kd_3 h h1 h2, h, h1, h2⟩))
  · exact Or.inl ⟨kd_0 (by omega), by omega⟩
theorem te_0 {T : Nat → Int} {n p : Int} (h : kd T n p = 0) : te T n p = p := by unfold te; rw [if_neg (by omega), if_neg (by omega), if_neg (by omega)]
theorem te_1 {T : Nat → Int} {n p : Int} (h : kd T n p = 1) : te T n p = rn T n 97 122 p := by unfold te; rw [if_pos h]
theorem te_2 {T : Nat → Int} {n p : Int} (h : kd T n p = 2) : te T n p = rn T n 48 57 p := by unfold te; rw [if_neg (by omega), if_pos h]
theorem te_3 {T : Nat → Int} {n p : Int} (h : kd T n p = 3) : te T n p = p + 1 := by unfold te; rw [if_neg (by omega), if_neg (by omega), if_pos h]
theorem te_le {T : Nat → Int} {n p : Int} : p ≤ te T n p ∧ (p ≤ n → te T n p ≤ n) ∧ (p < n → p < te T n p) := by
  rcases kd_cs (T := T) (n := n) (p := p) with ⟨h, h1⟩ | ⟨h, h1, h2⟩ | ⟨h, h1, h2⟩ | ⟨h, h1, h2⟩
  · rw [te_0 h]; exact ⟨by omega, by omega, by omega⟩
  · have := rn_le (T := T) (n := n) (lo := 97) (hi := 122) (p := p + 1)
    rw [te_1 h, rn_y h1 h2]; exact ⟨by omega, fun _ => this.2 (by omega), fun _ => by omega⟩
  · have := rn_le (T := T) (n := n) (lo := 48) (hi := 57) (p := p + 1)
    rw [te_2 h, rn_y h1 h2]; exact ⟨by omega, fun _ => this.2 (by omega), fun _ => by omega⟩
  · rw [te_3 h]; exact ⟨by omega, by omega, by omega⟩
/-- the number that k figures from p spell -/
def nv (T : Nat → Int) (p : Int) : Nat → Int
  | 0 => 0
  | k + 1 => 10 * nv T p k + T (p + k).toNat - 48
theorem nv_b {T : Nat → Int} {p : Int} (k : Nat) (h : ∀ i : Nat, i < k → 48 ≤ T (p + i).toNat ∧ T (p + i).toNat ≤ 57) : 0 ≤ nv T p k ∧ nv T p k < 10 ^ k := by
  induction k with
  | zero => exact ⟨Int.le_refl _, (show (0 : Int) < 1 from by decide)⟩
  | succ k ih =>
    have h1 := ih (fun i hi => h i (by omega))
    have h2 := h k (by omega)
    rw [nv, show (10 : Int) ^ (k + 1) = 10 ^ k * 10 from Int.pow_succ 10 k]
    omega
/-- the value of a word of k letters from p -/
def wp (T : Nat → Int) (p : Int) : Nat → Int
  | 0 => 0
  | k + 1 => if 10000000000 < wp T p k then 20000000000 else 27 * wp T p k + T (p + k).toNat - 96
theorem wp_b {T : Nat → Int} {p : Int} (k : Nat) (h : ∀ i : Nat, i < k → 97 ≤ T (p + i).toNat ∧ T (p + i).toNat ≤ 122) : (0 ≤ wp T p k ∧ wp T p k ≤ 270000000026) ∧ (0 < k → 0 < wp T p k) := by
  induction k with
  | zero => exact ⟨⟨Int.le_refl _, by show (0 : Int) ≤ 270000000026; omega⟩, fun h => absurd h (Nat.lt_irrefl 0)⟩
  | succ k ih =>
    have h1 := ih (fun i hi => h i (by omega))
    have h2 := h k (by omega)
    rw [wp]
    by_cases e : 10000000000 < wp T p k
    · rw [if_pos e]; omega
    · rw [if_neg e]; omega
/-- the word at p: 0 where there is none -/
def wv (T : Nat → Int) (n p : Int) : Int := wp T p (rn T n 97 122 p - p).toNat
/-- a word's value out of its letters, the last one first -/
def cv : List Int → Int
  | [] => 0
  | c :: r => 27 * cv r + c - 96
theorem wp_cv {T : Nat → Int} {p : Int} : ∀ (l : List Int) (k : Nat), (∀ c ∈ l, 97 ≤ c ∧ c ≤ 122) → cv l ≤ 10000000000 → (∀ i : Nat, i < k → 97 ≤ T (p + i).toNat ∧ T (p + i).toNat ≤ 122) → (wp T p k = cv l ↔ (k = l.length ∧ ∀ i : Nat, i < k → T (p + i).toNat = l.getD (k - 1 - i) 0)) := by
  intro l
  induction l with
  | nil =>
    intro k _ _ hk
    have hb := wp_b k hk
    constructor
    · intro h
      have h : wp T p k = 0 := h
      have : k = 0 := by omega
      subst this
      exact ⟨rfl, fun i hi => absurd hi (Nat.not_lt_zero i)⟩
    · rintro ⟨h, -⟩
      have h : k = 0 := h
      subst h
      rfl
  | cons c r ih =>
    intro k hl hc hk
    have c1 := hl c List.mem_cons_self
    have hcv : cv (c :: r) = 27 * cv r + c - 96 := rfl
    have r0 : 0 ≤ cv r := by
      have : ∀ l : List Int, (∀ c ∈ l, 97 ≤ c ∧ c ≤ 122) → 0 ≤ cv l := fun l => by
        induction l with
        | nil => intro _; exact Int.le_refl 0
        | cons x l ih => intro h; have := h x List.mem_cons_self; have := ih (fun c hc => h c (List.mem_cons_of_mem _ hc)); show 0 ≤ 27 * cv l + x - 96; omega
      exact this r (fun c hc => hl c (List.mem_cons_of_mem _ hc))
    cases k with
    | zero =>
      constructor
      · intro h; have h : 0 = cv (c :: r) := h; omega
      · rintro ⟨h, -⟩; cases h
    | succ k =>
      have hb := wp_b k (fun i hi => hk i (by omega))
      have hkk := hk k (by omega)
      have ihk := ih k (fun c hc => hl c (List.mem_cons_of_mem _ hc)) (by omega) (fun i hi => hk i (by omega))
      rw [wp]
      by_cases e : 10000000000 < wp T p k
      · rw [if_pos e]
        constructor
        · intro h; omega
        · rintro ⟨h, h2⟩
          have h : k + 1 = r.length + 1 := h
          have h3 : wp T p k = cv r := ihk.mpr ⟨by omega, fun i hi => by rw [h2 i (by omega), show k + 1 - 1 - i = (k - 1 - i) + 1 by omega]; rfl⟩
          omega
      · rw [if_neg e]
        constructor
        · intro h
          have h3 : wp T p k = cv r := by omega
          have h4 : T (p + k).toNat = c := by omega
          obtain ⟨h5, h6⟩ := ihk.mp h3
          refine ⟨by rw [h5]; rfl, fun i hi => ?_⟩
          by_cases ei : i = k
          · rw [ei, h4, show k + 1 - 1 - k = 0 by omega]; rfl
          · rw [h6 i (by omega), show k + 1 - 1 - i = (k - 1 - i) + 1 by omega]; rfl
        · rintro ⟨h, h2⟩
          have h : k + 1 = r.length + 1 := h
          have h3 : wp T p k = cv r := ihk.mpr ⟨by omega, fun i hi => by rw [h2 i (by omega), show k + 1 - 1 - i = (k - 1 - i) + 1 by omega]; rfl⟩
          have h4 := h2 k (by omega)
          rw [show k + 1 - 1 - k = 0 by omega] at h4
          have h4 : T (p + k).toNat = c := h4
          omega
/-- the word at p is this one -/
theorem wv_is {T : Nat → Int} {n p : Int} (l : List Int) (hl : ∀ c ∈ l, 97 ≤ c ∧ c ≤ 122) (hc : cv l ≤ 10000000000) : wv T n p = cv l ↔ (rn T n 97 122 p - p = l.length ∧ ∀ i : Nat, i < l.length → T (p + i).toNat = l.getD (l.length - 1 - i) 0) := by
  have h0 := (rn_le (T := T) (n := n) (lo := 97) (hi := 122) (p := p)).1
  unfold wv
  rw [wp_cv l _ hl hc (fun i hi => rn_in (n := n) (p := p) (p + i) (by omega) (by omega))]
  constructor
  · rintro ⟨h1, h2⟩
    refine ⟨by omega, fun i hi => ?_⟩
    rw [h2 i (by omega), h1]
  · rintro ⟨h1, h2⟩
    have e : (rn T n 97 122 p - p).toNat = l.length := by omega
    rw [e]
    exact ⟨rfl, h2⟩
theorem wv_0 {T : Nat → Int} {n p : Int} (h : kd T n p ≠ 1) : wv T n p = 0 := by
  have e : rn T n 97 122 p = p := rn_n (fun w => h (kd_1 w.1 w.2))
  unfold wv
  rw [e, show (p - p).toNat = 0 by omega]
  rfl
theorem wv_b {T : Nat → Int} {n p : Int} : (0 ≤ wv T n p ∧ wv T n p ≤ 270000000026) ∧ (kd T n p = 1 → 0 < wv T n p) := by
  have h0 := (rn_le (T := T) (n := n) (lo := 97) (hi := 122) (p := p)).1
  have h1 := wp_b (T := T) (p := p) (rn T n 97 122 p - p).toNat (fun i hi => rn_in (n := n) (p := p) (p + i) (by omega) (by omega))
  refine ⟨h1.1, fun h => h1.2 ?_⟩
  rcases kd_cs (T := T) (n := n) (p := p) with ⟨k, _⟩ | ⟨_, k1, k2⟩ | ⟨k, _⟩ | ⟨k, _⟩
  · omega
  · have := (te_le (T := T) (n := n) (p := p)).2.2 k1
    rw [te_1 h] at this
    omega
  · omega
  · omega
