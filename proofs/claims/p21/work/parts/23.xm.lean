/-! more instructions; the bounds of all places; frames -/
section XM
variable {X : pmX} {m pc : Nat} {ls : pmL} {r : List Value} {s : xS} {c k : Nat} {P : xS → Option Value → Prop} {len len2 : Nat} {a b : Int}
theorem x_bipush {n : Int} (hk : pm_look (pm_kl m) pc = some (.bipush n, len)) (hn : (Int8.ofInt n).toInt32 = Int32.ofInt n) (kk : xe X m (pc + 2) ls (vi n :: r) s c k P) : xe X m pc ls r s c k P := x_A hk (fun h => by simp only [pm_stepA]; rw [hn]) kk
theorem x_sipush {n : Int} (hk : pm_look (pm_kl m) pc = some (.sipush n, len)) (hn : (Int16.ofInt n).toInt32 = Int32.ofInt n) (kk : xe X m (pc + 3) ls (vi n :: r) s c k P) : xe X m pc ls r s c k P := x_A hk (fun h => by simp only [pm_stepA]; rw [hn]) kk
theorem x_lconst {n : Fin 2} {z : Int} (hk : pm_look (pm_kl m) pc = some (.lconst n, len)) (hn : Int64.ofNat n = Int64.ofInt z) (kk : xe X m (pc + 1) ls (vj z :: r) s c k P) : xe X m pc ls r s c k P := x_A hk (fun h => by simp only [pm_stepA]; rw [hn]) kk
theorem x_ldcI {j : Nat} {x : Int32} {z : Int} (hk : pm_look (pm_kl m) pc = some (.ldc j, len)) (hc : pm_look (pm_cons (pm_oc m)) j = some (.int x)) (hx : x = Int32.ofInt z) (kk : xe X m (pc + 2) ls (vi z :: r) s c k P) : xe X m pc ls r s c k P := x_B hk rfl (fun _ => rfl) (fun _ => rfl) (fun h _ => by simp only [pm_stepB, hc]; rw [hx]) kk
theorem x_ldcwI {j : Nat} {x : Int32} {z : Int} (hk : pm_look (pm_kl m) pc = some (.ldc_w j, len)) (hc : pm_look (pm_cons (pm_oc m)) j = some (.int x)) (hx : x = Int32.ofInt z) (kk : xe X m (pc + 3) ls (vi z :: r) s c k P) : xe X m pc ls r s c k P := x_B hk rfl (fun _ => rfl) (fun _ => rfl) (fun h _ => by simp only [pm_stepB, hc]; rw [hx]) kk
theorem x_ldcR {j q : Nat} (hk : pm_look (pm_kl m) pc = some (.ldc j, len)) (hc : pm_look (pm_cons (pm_oc m)) j = some (.ref q)) (kk : xe X m (pc + 2) ls (.ref q :: r) s c k P) : xe X m pc ls r s c k P := x_B hk rfl (fun _ => rfl) (fun _ => rfl) (fun h _ => by simp only [pm_stepB, hc]) kk
theorem x_ldc2 {j : Nat} {x : Int64} {z : Int} (hk : pm_look (pm_kl m) pc = some (.ldc2_w j, len)) (hc : pm_look (pm_cons (pm_oc m)) j = some (.long x)) (hx : x = Int64.ofInt z) (kk : xe X m (pc + 3) ls (vj z :: r) s c k P) : xe X m pc ls r s c k P := x_B hk rfl (fun _ => rfl) (fun _ => rfl) (fun h _ => by simp only [pm_stepB, hc]; rw [hx]) kk
theorem x_lcmp (hk : pm_look (pm_kl m) pc = some (.lcmp, len)) (ha : in64 a) (hb : in64 b) (kk : xe X m (pc + 1) ls (vi (if b < a then 1 else if a = b then 0 else -1) :: r) s c k P) : xe X m pc ls (vj b :: vj a :: r) s c k P := x_A hk (fun h => by
  simp only [pm_stepA]
  have e : lg_cmp (Int64.ofInt a) (Int64.ofInt b) = Int32.ofInt (if b < a then 1 else if a = b then 0 else -1) := by
    unfold lg_cmp
    simp only [gt_iff_lt, Int64.lt_iff_toInt_lt, ← Int64.toInt_inj, in64_toInt ha, in64_toInt hb]
    split
    · rfl
    · split <;> rfl
  rw [e]) kk
theorem x_lc_eq {off : Int} {t : Nat} (hk : pm_look (pm_kl m) pc = some (.lcmp, len)) (hk2 : pm_look (pm_kl m) (pc + 1) = some (.ifCond .eq off, len2)) (ht : pm_tgt (pc + 1) off = some t) (ha : in64 a) (hb : in64 b) (k1 : a = b → xe X m t ls r s c k P) (k2 : ¬ (a = b) → xe X m (pc + 1 + 3) ls r s c k P) : xe X m pc ls (vj b :: vj a :: r) s c k P := by
  refine x_lcmp hk ha hb (x_if_eq hk2 ht ?_ (fun h => k1 ?_) (fun h => k2 ?_))
  · constructor <;> (repeat' split) <;> omega
  all_goals ((repeat' split at h) <;> omega)
theorem x_lc_ne {off : Int} {t : Nat} (hk : pm_look (pm_kl m) pc = some (.lcmp, len)) (hk2 : pm_look (pm_kl m) (pc + 1) = some (.ifCond .ne off, len2)) (ht : pm_tgt (pc + 1) off = some t) (ha : in64 a) (hb : in64 b) (k1 : a ≠ b → xe X m t ls r s c k P) (k2 : ¬ (a ≠ b) → xe X m (pc + 1 + 3) ls r s c k P) : xe X m pc ls (vj b :: vj a :: r) s c k P := by
  refine x_lcmp hk ha hb (x_if_ne hk2 ht ?_ (fun h => k1 ?_) (fun h => k2 ?_))
  · constructor <;> (repeat' split) <;> omega
  all_goals ((repeat' split at h) <;> omega)
theorem x_lc_lt {off : Int} {t : Nat} (hk : pm_look (pm_kl m) pc = some (.lcmp, len)) (hk2 : pm_look (pm_kl m) (pc + 1) = some (.ifCond .lt off, len2)) (ht : pm_tgt (pc + 1) off = some t) (ha : in64 a) (hb : in64 b) (k1 : a < b → xe X m t ls r s c k P) (k2 : ¬ (a < b) → xe X m (pc + 1 + 3) ls r s c k P) : xe X m pc ls (vj b :: vj a :: r) s c k P := by
  refine x_lcmp hk ha hb (x_if_lt hk2 ht ?_ (fun h => k1 ?_) (fun h => k2 ?_))
  · constructor <;> (repeat' split) <;> omega
  all_goals ((repeat' split at h) <;> omega)
theorem x_lc_ge {off : Int} {t : Nat} (hk : pm_look (pm_kl m) pc = some (.lcmp, len)) (hk2 : pm_look (pm_kl m) (pc + 1) = some (.ifCond .ge off, len2)) (ht : pm_tgt (pc + 1) off = some t) (ha : in64 a) (hb : in64 b) (k1 : b ≤ a → xe X m t ls r s c k P) (k2 : ¬ (b ≤ a) → xe X m (pc + 1 + 3) ls r s c k P) : xe X m pc ls (vj b :: vj a :: r) s c k P := by
  refine x_lcmp hk ha hb (x_if_ge hk2 ht ?_ (fun h => k1 ?_) (fun h => k2 ?_))
  · constructor <;> (repeat' split) <;> omega
  all_goals ((repeat' split at h) <;> omega)
theorem x_lc_gt {off : Int} {t : Nat} (hk : pm_look (pm_kl m) pc = some (.lcmp, len)) (hk2 : pm_look (pm_kl m) (pc + 1) = some (.ifCond .gt off, len2)) (ht : pm_tgt (pc + 1) off = some t) (ha : in64 a) (hb : in64 b) (k1 : b < a → xe X m t ls r s c k P) (k2 : ¬ (b < a) → xe X m (pc + 1 + 3) ls r s c k P) : xe X m pc ls (vj b :: vj a :: r) s c k P := by
  refine x_lcmp hk ha hb (x_if_gt hk2 ht ?_ (fun h => k1 ?_) (fun h => k2 ?_))
  · constructor <;> (repeat' split) <;> omega
  all_goals ((repeat' split at h) <;> omega)
theorem x_lc_le {off : Int} {t : Nat} (hk : pm_look (pm_kl m) pc = some (.lcmp, len)) (hk2 : pm_look (pm_kl m) (pc + 1) = some (.ifCond .le off, len2)) (ht : pm_tgt (pc + 1) off = some t) (ha : in64 a) (hb : in64 b) (k1 : a ≤ b → xe X m t ls r s c k P) (k2 : ¬ (a ≤ b) → xe X m (pc + 1 + 3) ls r s c k P) : xe X m pc ls (vj b :: vj a :: r) s c k P := by
  refine x_lcmp hk ha hb (x_if_le hk2 ht ?_ (fun h => k1 ?_) (fun h => k2 ?_))
  · constructor <;> (repeat' split) <;> omega
  all_goals ((repeat' split at h) <;> omega)
theorem x_goto {off : Int} {t : Nat} (hk : pm_look (pm_kl m) pc = some (.goto off, len)) (ht : pm_tgt pc off = some t) (kk : xe X m t ls r s c k P) : xe X m pc ls r s c k P := x_A hk (fun h => by simp only [pm_stepA, ht]) kk
theorem x_tab {d lo hi : Int} {offs : Array Int} (hk : pm_look (pm_kl m) pc = some (.tableswitch d lo hi offs, len)) (ha : in32 a) (kin : ∀ t, lo ≤ a → a ≤ hi → (match offs[(a - lo).toNat]? with
    | some off => pm_tgt pc off
    | none => none) = some t → xe X m t ls r s c k P) (hin : lo ≤ a → a ≤ hi → ∃ t, (match offs[(a - lo).toNat]? with
    | some off => pm_tgt pc off
    | none => none) = some t) {t0 : Nat} (h0 : pm_tgt pc d = some t0) (kout : ¬ (lo ≤ a ∧ a ≤ hi) → xe X m t0 ls r s c k P) : xe X m pc ls (vi a :: r) s c k P := by
  by_cases hc : lo ≤ a ∧ a ≤ hi
  · obtain ⟨t, ht⟩ := hin hc.1 hc.2
    refine x_B hk rfl (fun _ => rfl) (fun _ => rfl) (fun h _ => ?_) (kin t hc.1 hc.2 ht)
    simp only [pm_stepB, in32_toInt ha]
    rw [if_neg (by omega)]
    split at ht
    · next off ho => simp only [ho, ht]
    · cases ht
  · refine x_B hk rfl (fun _ => rfl) (fun _ => rfl) (fun h _ => ?_) (kout hc)
    simp only [pm_stepB, in32_toInt ha]
    rw [if_pos (by omega)]
    simp only [h0]
end XM
/-- nothing but the places of w has changed -/
def Fr (w : Nat → Nat → Bool) (s s' : xS) : Prop := ∀ q i, w q i = false → s' q i = s q i
theorem Fr.rf {w : Nat → Nat → Bool} {s : xS} : Fr w s s := fun _ _ _ => rfl
theorem Fr.up {w : Nat → Nat → Bool} {s s' : xS} {q i : Nat} {v : Int} (h : Fr w s s') (hw : w q i = true) : Fr w s (x_up s' q i v) := fun a b hab => by
  by_cases e : a = q ∧ b = i
  · rw [e.1, e.2, hw] at hab; cases hab
  · show (if a = q ∧ b = i then v else s' a b) = _
    rw [if_neg e]
    exact h a b hab
theorem Fr.tr {w w' : Nat → Nat → Bool} {s s1 s2 : xS} (h : Fr w s s1) (h' : Fr w' s1 s2) (hw : ∀ q i, w q i = false → w' q i = false) : Fr w s s2 := fun a b hab => (h' a b (hw a b hab)).trans (h a b hab)
