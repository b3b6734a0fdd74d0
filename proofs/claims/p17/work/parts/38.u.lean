/-! both trees side by side: parents; move, end with its count -/
theorem rows40 {L : List Nat} {s s' : xS} (f : FL L s s') (hL : 384 ∉ L) : ∀ r j : Nat, 6 ≤ r → r ≤ 45 → s' r j = s r j := fun r j h1 h2 => f r j (by rw [(gr_6 j h1 h2).2.2]; exact hL)
theorem sp_up {s s0 : xS} {a b d x : Int} (h : ∀ r j : Nat, 6 ≤ r → r ≤ 45 → s r j = if r = 5 + 1 + a.toNat ∧ d ≤ (j : Int) ∧ (j : Int) < x then b else s0 r j) (hx : 0 ≤ x) (hd : d ≤ x) : ∀ r j : Nat, 6 ≤ r → r ≤ 45 → x_up s (5 + 1 + a.toNat) x.toNat b r j = if r = 5 + 1 + a.toNat ∧ d ≤ (j : Int) ∧ (j : Int) < x + 1 then b else s0 r j := by
  intro r j h1 h2
  by_cases e : r = 5 + 1 + a.toNat ∧ j = x.toNat
  · rw [show x_up s (5 + 1 + a.toNat) x.toNat b r j = b from by rw [e.1, e.2, x_up_same], if_pos ⟨e.1, by omega, by omega⟩]
  · have e2 : x_up s (5 + 1 + a.toNat) x.toNat b r j = s r j := by
      by_cases e3 : r = 5 + 1 + a.toNat
      · exact x_up_i (fun z => e ⟨e3, z⟩)
      · exact x_up_q e3
    rw [e2, h r j h1 h2]
    by_cases e4 : r = 5 + 1 + a.toNat ∧ d ≤ (j : Int) ∧ (j : Int) < x
    · rw [if_pos e4, if_pos ⟨e4.1, e4.2.1, by omega⟩]
    · rw [if_neg e4, if_neg (fun z => e4 ⟨z.1, z.2.1, by
        by_cases e5 : j = x.toNat
        · exact absurd ⟨z.1, e5⟩ e
        · omega⟩)]
theorem xup_ex {s : xS} {e x b : Int} (h0 : 0 ≤ x) (hb : x ≠ b) : (∃ k, xup s e k x = b) ↔ ∃ k, xup s e k (s 260 (10 * x + e).toNat) = b := by
  constructor
  · rintro ⟨k, hk⟩
    cases k with
    | zero => exact absurd hk hb
    | succ k =>
      have hk : (if x < 0 then x else xup s e k (s 260 (10 * x + e).toNat)) = b := hk
      rw [if_neg (by omega)] at hk
      exact ⟨k, hk⟩
  · rintro ⟨k, hk⟩
    refine ⟨k + 1, ?_⟩
    show (if x < 0 then x else xup s e k (s 260 (10 * x + e).toNat)) = b
    rw [if_neg (by omega)]
    exact hk
/-- parents of both, from the edition on in which a mark was told -/
def P1 (s : xS) : Prop := ∀ m : Int, 0 ≤ m → m < s 256 1 → s 257 m.toNat ≤ s 256 0 ∧ ∀ e : Int, s 257 m.toNat ≤ e → 0 ≤ e → e ≤ 9 → s (5 + 1 + m.toNat) e.toNat = s 260 (10 * m + e).toNat
def LP1 : List Nat := [4098, 4160, 4097, 384, 4352]
theorem P1.fl {L : List Nat} {s s' : xS} (h : P1 s) (hG : s 256 1 ≤ 40) (f : FL L s s') (hL : ∀ x ∈ LP1, x ∉ L) : P1 s' := by
  have a1 : s' 256 1 = s 256 1 := f 256 1 (hL 4098 (by decide))
  have a2 : s' 256 0 = s 256 0 := f 256 0 (hL 4097 (by decide))
  have b1 : s' 257 = s 257 := funext fun i => f 257 i (hL 4160 (by decide))
  have b2 : s' 260 = s 260 := funext fun i => f 260 i (hL 4352 (by decide))
  have b3 := rows40 f (hL 384 (by decide))
  intro m m0 m1
  rw [a1] at m1
  rw [a2, b1, b2]
  refine ⟨(h m m0 m1).1, fun e e0 e1 e2 => ?_⟩
  rw [b3 (5 + 1 + m.toNat) e.toNat (by omega) (by omega)]
  exact (h m m0 m1).2 e e0 e1 e2
/-- how many of the first k are such -/
noncomputable def ctp (P : Nat → Prop) : Nat → Int
  | 0 => 0
  | k + 1 => ctp P k + @ite Int (P k) (Classical.propDecidable (P k)) 1 0
theorem ctp_s (P : Nat → Prop) {k : Int} (hk : 0 ≤ k) : (P k.toNat → ctp P (k + 1).toNat = ctp P k.toNat + 1) ∧ (¬ P k.toNat → ctp P (k + 1).toNat = ctp P k.toNat) := by
  have e1 : (k + 1).toNat = k.toNat + 1 := by omega
  rw [e1, ctp]
  exact ⟨fun h => by rw [if_pos h], fun h => by rw [if_neg h]; omega⟩
theorem ctp_cg {P Q : Nat → Prop} (n : Nat) (h : ∀ k, k < n → (P k ↔ Q k)) : ctp P n = ctp Q n := by
  induction n with
  | zero => rfl
  | succ n ih =>
    rw [ctp, ctp, ih (fun k hk => h k (by omega))]
    by_cases hp : P n
    · rw [if_pos hp, if_pos ((h n (by omega)).mp hp)]
    · rw [if_neg hp, if_neg (fun q => hp ((h n (by omega)).mpr q))]
