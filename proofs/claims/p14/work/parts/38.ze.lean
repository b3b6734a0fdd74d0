/-! how many clauses of a kind count -/
def sm (h : Nat → Int) : Nat → Int
  | 0 => 0
  | n + 1 => sm h n + h n
theorem sm_cg {h g : Nat → Int} (n : Nat) (e : ∀ k, k < n → h k = g k) : sm h n = sm g n := by
  induction n with
  | zero => rfl
  | succ n ih => rw [sm, sm, ih (fun k hk => e k (by omega)), e n (by omega)]
theorem sm_add (h g : Nat → Int) (n : Nat) : sm (fun k => h k + g k) n = sm h n + sm g n := by
  induction n with
  | zero => rfl
  | succ n ih => rw [sm, sm, sm, ih]; omega
theorem sm_z (n : Nat) : sm (fun _ => 0) n = 0 := by
  induction n with
  | zero => rfl
  | succ n ih => rw [sm, ih]; rfl
noncomputable def iF (P : Prop) (v : Int) : Int := @ite Int P (Classical.propDecidable _) v 0
theorem iF_y {P : Prop} {v : Int} (h : P) : iF P v = v := if_pos h
theorem iF_n {P : Prop} {v : Int} (h : ¬ P) : iF P v = 0 := if_neg h
theorem sm_one {C : Prop} {ed v : Int} (T : Nat) : sm (fun t => iF (ed = (t : Int) ∧ C) v) T = iF (C ∧ 0 ≤ ed ∧ ed < (T : Int)) v := by
  induction T with
  | zero => rw [iF_n (by omega)]; rfl
  | succ T ih =>
    rw [sm, ih]
    by_cases q : C ∧ 0 ≤ ed ∧ ed < (T : Int)
    · rw [iF_y q, iF_n (by omega), iF_y ⟨q.1, q.2.1, by omega⟩]; omega
    · rw [iF_n q]
      by_cases q2 : ed = (T : Int) ∧ C
      · rw [iF_y q2, iF_y ⟨q2.2, by omega, by omega⟩]; omega
      · rw [iF_n q2, iF_n (fun w => by
          by_cases e : ed = (T : Int)
          · exact q2 ⟨e, w.1⟩
          · exact q ⟨w.1, w.2.1, by omega⟩)]; rfl
theorem sm_ex (g : Nat → Nat → Int) (T R : Nat) : sm (fun t => sm (g t) R) T = sm (fun r => sm (fun t => g t r) T) R := by
  induction R with
  | zero => exact sm_z T
  | succ R ih =>
    rw [sm, ← ih]
    exact sm_add (fun t => sm (g t) R) (fun t => g t R) T
theorem ctp_n (P : Nat → Prop) (n : Nat) : ctp P (n + 1) = ctp P n + iF (P n) 1 := rfl
section CNT
variable {ed cl : Int → Int} {kd fi sc : Int → Int → Int} {R e q i : Int}
theorem foN_q (hq : (q = 2 ∧ i = 7) ∨ (q = 3 ∧ i = 8) ∨ (q = 4 ∧ i = 9)) (hk : ∀ r n, kd r n = 1 → fi r n ≤ 5) (r : Int) (f : Int → Int) : ∀ n : Nat, foN kd fi sc r n f i = f i + ctp (fun j => kd r j = q) n := by
  intro n
  induction n with
  | zero => show f i = f i + 0; omega
  | succ n ih =>
    have h1 := hk r n
    rw [foN, ctp_n]
    by_cases w : kd r n = q
    · rw [iF_y w, upS_c (by omega) (by omega) (by omega), ih]; omega
    · rw [iF_n w, upS_ge (by omega) (by omega) (by omega), ih]; omega
theorem foR_q (hq : (q = 2 ∧ i = 7) ∨ (q = 3 ∧ i = 8) ∨ (q = 4 ∧ i = 9)) (hk : ∀ r n, kd r n = 1 → fi r n ≤ 5) (t : Int) (f : Int → Int) : ∀ r : Nat, foR ed cl kd fi sc R e t r f i = f i + sm (fun r => iF (ed r = t ∧ cnt ed cl kd fi R e r) (ctp (fun j => kd r j = q) (cl r).toNat)) r := by
  intro r
  induction r with
  | zero => show f i = f i + 0; omega
  | succ r ih =>
    rw [foR, sm]
    by_cases w : ed r = t ∧ cnt ed cl kd fi R e r
    · rw [if_pos w, iF_y w, foN_q hq hk, ih]; omega
    · rw [if_neg w, iF_n w, ih]; omega
theorem foE_q (hq : (q = 2 ∧ i = 7) ∨ (q = 3 ∧ i = 8) ∨ (q = 4 ∧ i = 9)) (hk : ∀ r n, kd r n = 1 → fi r n ≤ 5) (T : Nat) : foE ed cl kd fi sc R e T i = sm (fun r => iF (cnt ed cl kd fi R e r ∧ 0 ≤ ed r ∧ ed r < (T : Int)) (ctp (fun j => kd r j = q) (cl r).toNat)) R.toNat := by
  have h : foE ed cl kd fi sc R e T i = sm (fun t => sm (fun r => iF (ed r = (t : Int) ∧ cnt ed cl kd fi R e r) (ctp (fun j => kd r j = q) (cl r).toNat)) R.toNat) T := by
    induction T with
    | zero => show (if i = 6 then (20 : Int) else 0) = 0; rw [if_neg (by omega)]
    | succ T ih => rw [foE, foR_q hq hk, ih]; rfl
  rw [h, sm_ex (fun t r => iF (ed r = (t : Int) ∧ cnt ed cl kd fi R e r) (ctp (fun j => kd r j = q) (cl r).toNat))]
  exact sm_cg _ (fun r _ => sm_one T)
end CNT
/-- both ways to count are the same -/
theorem R1.cnt {s : xS} (h : R1 s) (hG : GI s) {a b : Int} (ha : 0 ≤ a) (hb : 7 ≤ b ∧ b ≤ 9) (hc : s 271 (s 256 17).toNat = s 256 20) : foFR s a (a + 1).toNat b = ctp (fun c => s 272 c = b - 6 ∧ ∃ r : Int, ((0 ≤ r ∧ r < s 256 17) ∧ s 271 r.toNat ≤ c ∧ (c : Int) < s 271 (r + 1).toNat) ∧ CnR s a r) (s 256 20).toNat := by
  have g8 : ∀ i : Nat, 0 ≤ s 181 i := fun i => (show (0 : Int) ≤ s 181 i ∧ s 181 i ≤ 9 from hG 181 i).1
  have gR : (0 : Int) ≤ s 256 17 ∧ s 256 17 ≤ 8 := hG 256 17
  obtain ⟨q1, q2, q3, q4, q5⟩ := h.eq
  have hk : ∀ r n, kdR s r n = 1 → fiR s r n ≤ 5 := fun r n w => by
    rw [← q3] at w
    rw [← q4]
    unfold kdC at w
    unfold fiC
    by_cases q : (0 ≤ r ∧ r < s 179 5) ∧ 0 ≤ n ∧ n < s 181 r.toNat
    · rw [if_pos q] at w ⊢
      have ok := h.ok q.1 q.2
      unfold okS at ok
      omega
    · rw [if_neg q] at w; omega
  have hed : ∀ r : Int, 0 ≤ edR s r := fun r => by
    unfold edR
    by_cases q : 0 ≤ r ∧ r < s 256 17
    · rw [if_pos q]; exact (show (0 : Int) ≤ s 270 r.toNat ∧ s 270 r.toNat ≤ 9 from hG 270 r.toNat).1
    · rw [if_neg q]; exact Int.le_refl 0
  unfold foFR
  rw [foE_q (q := b - 5) (by omega) hk]
  have key : ∀ r : Nat, (r : Int) ≤ s 256 17 → ctp (fun c => s 272 c = b - 6 ∧ ∃ r : Int, ((0 ≤ r ∧ r < s 256 17) ∧ s 271 r.toNat ≤ c ∧ (c : Int) < s 271 (r + 1).toNat) ∧ CnR s a r) (s 271 r).toNat = sm (fun r => iF (CnR s a r) (ctp (fun j => kdR s r j = b - 5) (clR s r).toNat)) r := by
    intro r
    induction r with
    | zero => intro _; rw [h.2.1]; rfl
    | succ r ih =>
      intro hr
      have hr2 : 0 ≤ (r : Int) ∧ (r : Int) < s 256 17 := by omega
      have hf := h.f1 (r := (r : Int)) hr2
      rw [show ((r : Int)).toNat = r from rfl, show ((r : Int) + 1).toNat = r + 1 by omega] at hf
      have hcl : clR s r = s 181 r := by
        have e : clR s r = s 271 ((r : Int) + 1).toNat - s 271 ((r : Int)).toNat := if_pos hr2
        rw [e, show ((r : Int)).toNat = r from rfl, show ((r : Int) + 1).toNat = r + 1 by omega]
        omega
      have inner : ∀ n : Nat, (n : Int) ≤ s 181 r → ctp (fun c => s 272 c = b - 6 ∧ ∃ r : Int, ((0 ≤ r ∧ r < s 256 17) ∧ s 271 r.toNat ≤ c ∧ (c : Int) < s 271 (r + 1).toNat) ∧ CnR s a r) ((s 271 r).toNat + n) = ctp (fun c => s 272 c = b - 6 ∧ ∃ r : Int, ((0 ≤ r ∧ r < s 256 17) ∧ s 271 r.toNat ≤ c ∧ (c : Int) < s 271 (r + 1).toNat) ∧ CnR s a r) (s 271 r).toNat + iF (CnR s a r) (ctp (fun j => kdR s r j = b - 5) n) := by
        intro n
        induction n with
        | zero =>
          intro _
          rw [Nat.add_zero]
          by_cases w : CnR s a r
          · rw [iF_y w]; exact (Int.add_zero _).symm
          · rw [iF_n w]; exact (Int.add_zero _).symm
        | succ n ihn =>
          intro hn
          rw [← Nat.add_assoc, ctp_n, ihn (by omega), ctp_n]
          have hin : (0 ≤ (r : Int) ∧ (r : Int) < s 256 17) ∧ s 271 ((r : Int)).toNat ≤ (((s 271 r).toNat + n : Nat) : Int) ∧ (((s 271 r).toNat + n : Nat) : Int) < s 271 ((r : Int) + 1).toNat := by
            rw [show ((r : Int)).toNat = r from rfl, show ((r : Int) + 1).toNat = r + 1 by omega]
            omega
          have hkd : kdR s r n = s 272 ((s 271 r).toNat + n) + 1 := by
            unfold kdR
            rw [if_pos ⟨hr2, by omega, by rw [show ((r : Int)).toNat = r from rfl, show ((r : Int) + 1).toNat = r + 1 by omega]; omega⟩, show ((r : Int)).toNat = r from rfl, show (s 271 r + (n : Int)).toNat = (s 271 r).toNat + n by omega]
          have hP : (s 272 ((s 271 r).toNat + n) = b - 6 ∧ ∃ r' : Int, ((0 ≤ r' ∧ r' < s 256 17) ∧ s 271 r'.toNat ≤ (((s 271 r).toNat + n : Nat) : Int) ∧ (((s 271 r).toNat + n : Nat) : Int) < s 271 (r' + 1).toNat) ∧ CnR s a r') ↔ (kdR s r n = b - 5 ∧ CnR s a r) := by
            rw [hkd]
            constructor
            · rintro ⟨w1, r', w2, w3⟩
              have e := h.uniq g8 hin w2
              rw [← e] at w3
              exact ⟨by omega, w3⟩
            · rintro ⟨w1, w2⟩
              exact ⟨by omega, r, hin, w2⟩
          by_cases w : CnR s a r
          · rw [iF_y w, iF_y w]
            by_cases w2 : kdR s r n = b - 5
            · rw [iF_y (hP.mpr ⟨w2, w⟩), iF_y w2]; omega
            · rw [iF_n (fun z => w2 (hP.mp z).1), iF_n w2]; omega
          · rw [iF_n w, iF_n w, iF_n (fun z => w (hP.mp z).2)]; omega
      have g9 := g8 r
      rw [sm, ← ih (by omega), hcl, ← inner (s 181 r).toNat (by omega)]
      congr 1
      omega
  have kk := key (s 256 17).toNat (by omega)
  rw [hc] at kk
  rw [kk]
  refine sm_cg _ (fun r hr => ?_)
  by_cases w : CnR s a r
  · rw [iF_y w, iF_y ⟨w, hed r, by have := w.1; omega⟩]
  · rw [iF_n w, iF_n (fun z => w z.1)]
/-- force: both answer alike -/
theorem R1.force {s : xS} (h : R1 s) (hJ : J s) (hG : GI s) {a b z1 z2 : Int} (x1 : FzC s a b z1) (x2 : FzR s a b z2) : z1 = z2 := by
  obtain ⟨q1, q2, q3, q4, q5⟩ := h.eq
  have hf : foF s a (a + 1).toNat = foFR s a (a + 1).toNat := by unfold foF foFR; rw [q1, q2, q3, q4, q5, h.1.1]
  unfold FzC at x1
  unfold FzR at x2
  rcases x1 with ⟨a1, a2⟩ | ⟨a1, a2⟩ <;> rcases x2 with ⟨b1, b2⟩ | ⟨b1, b2, b3⟩ | ⟨b1, b2, b3⟩
  · omega
  · exact absurd b1 a1
  · exact absurd b1 a1
  · exact absurd a1 b1
  · rw [a2, b3, hf]
  · rw [a2, b3, hf]
    have e : fx b = b := by unfold fx; rw [if_neg (by omega), if_neg (by omega)]
    rw [e]
    exact h.cnt hG (by omega) (by omega) hJ.2.2.2.2.2.2.1.1
theorem FzC.cg {s s1 : xS} {a b z : Int} (h : FzC s a b z) (r : RuE s1 s) (h8 : s 179 5 ≤ 8) : FzC s1 a b z := by
  obtain ⟨e1, e2, e3, e4, e5⟩ := r.fn h8
  unfold FzC foF at h ⊢
  rw [e1, e2, e3, e4, e5, r.1]
  exact h
