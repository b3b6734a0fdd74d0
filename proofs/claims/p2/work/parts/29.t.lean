/-! the texts: their lengths and signs -/
theorem x_callX {X : pmX} {m pc : Nat} {ls : pmL} {as rest st : List Value} {s : xS} {c k : Nat} {P : xS → Option Value → Prop} {len j y n : Nat} {z : Int} (hk : pm_look (pm_kl m) pc = some (.invokevirtual j, len)) (hi : ∀ h, pm_inv m (.invokevirtual j) st h c k = some (some y, as, rest)) (hmc : pm_mc y = 0) (hms : pm_ms y = 0) (hex : ∀ h, pm_exec none n y 0 (lv_args 0 as) [] h 0 0 = some (h, some (vi z))) (kk : xe X m (pc + 3) ls (vi z :: rest) s c k P) : xe X m pc ls st s c k P := fun h hr => by
  refine ex_call hk rfl (hi h) ⟨n, h, some (vi z), hex h, ?_⟩
  rw [hmc, hms]
  exact kk h hr
theorem tx_len_0 (h : pmH) : pm_exec none 30 222 0 [(0, .ref 2001)] [] h 0 0 = some (h, some (vi 3)) := rfl
theorem tx_ch_0_0 (h : pmH) : pm_exec none 40 223 0 [(0, .ref 2001), (1, vi 0)] [] h 0 0 = some (h, some (vi 110)) := rfl
theorem tx_ch_0_1 (h : pmH) : pm_exec none 40 223 0 [(0, .ref 2001), (1, vi 1)] [] h 0 0 = some (h, some (vi 111)) := rfl
theorem tx_ch_0_2 (h : pmH) : pm_exec none 40 223 0 [(0, .ref 2001), (1, vi 2)] [] h 0 0 = some (h, some (vi 116)) := rfl
theorem tx_len_1 (h : pmH) : pm_exec none 30 222 0 [(0, .ref 2002)] [] h 0 0 = some (h, some (vi 4)) := rfl
theorem tx_ch_1_0 (h : pmH) : pm_exec none 40 223 0 [(0, .ref 2002), (1, vi 0)] [] h 0 0 = some (h, some (vi 109)) := rfl
theorem tx_ch_1_1 (h : pmH) : pm_exec none 40 223 0 [(0, .ref 2002), (1, vi 1)] [] h 0 0 = some (h, some (vi 97)) := rfl
theorem tx_ch_1_2 (h : pmH) : pm_exec none 40 223 0 [(0, .ref 2002), (1, vi 2)] [] h 0 0 = some (h, some (vi 114)) := rfl
theorem tx_ch_1_3 (h : pmH) : pm_exec none 40 223 0 [(0, .ref 2002), (1, vi 3)] [] h 0 0 = some (h, some (vi 107)) := rfl
