section XO
variable {X : pmX} {m pc : Nat} {ls : pmL} {r : List Value} {s : xS} {c k : Nat} {P : xS → Option Value → Prop} {len : Nat} {a : Int}
theorem x_tabD {d lo hi : Int} {offs : Array Int} {t0 : Nat} (hk : pm_look (pm_kl m) pc = some (.tableswitch d lo hi offs, len)) (ha : in32 a) (ho : ¬ (lo ≤ a ∧ a ≤ hi)) (h0 : pm_tgt pc d = some t0) (kk : xe X m t0 ls r s c k P) : xe X m pc ls (vi a :: r) s c k P := by
  refine x_B hk rfl (fun _ => rfl) (fun _ => rfl) (fun h _ => ?_) kk
  simp only [pm_stepB, in32_toInt ha]
  rw [if_pos (by omega)]
  simp only [h0]
end XO
theorem FL.nil {s s' : xS} (h : FL [] s s') : s' = s := by
  funext q i
  exact h q i List.not_mem_nil
section XQ
variable {X : pmX} {m pc : Nat} {ls : pmL} {r : List Value} {s : xS} {c k : Nat} {P : xS → Option Value → Prop} {len : Nat} {a b : Int}
theorem x_ne0 (hb : in32 b) (h0 : b ≠ 0) : ¬ Int32.ofInt b = 0 := fun z => h0 ((in32_eq hb ⟨by decide, by decide⟩).mp (z.trans (show (0 : Int32) = Int32.ofInt 0 from rfl)))
theorem x_idiv_any (hk : pm_look (pm_kl m) pc = some (.idiv, len)) (hb : in32 b) (h0 : b ≠ 0) (kk : ∀ t, in32 t → xe X m (pc + 1) ls (vi t :: r) s c k P) : xe X m pc ls (vi b :: vi a :: r) s c k P := fun h hr => by
  obtain ⟨t, ht, e⟩ := in32_any (Int32.ofInt a / Int32.ofInt b)
  exact x_A hk (fun h => by simp only [pm_stepA, if_neg (x_ne0 hb h0)]; rw [e]) (kk t ht) h hr
theorem x_irem_any (hk : pm_look (pm_kl m) pc = some (.irem, len)) (hb : in32 b) (h0 : b ≠ 0) (kk : ∀ t, in32 t → xe X m (pc + 1) ls (vi t :: r) s c k P) : xe X m pc ls (vi b :: vi a :: r) s c k P := fun h hr => by
  obtain ⟨t, ht, e⟩ := in32_any (Int32.ofInt a - Int32.ofInt a / Int32.ofInt b * Int32.ofInt b)
  exact x_A hk (fun h => by simp only [pm_stepA, if_neg (x_ne0 hb h0)]; rw [e]) (kk t ht) h hr
end XQ
