/-! the texts: their lengths and signs -/
theorem x_callX {X : pmX} {m pc : Nat} {ls : pmL} {as rest st : List Value} {s : xS} {c k : Nat} {P : xS → Option Value → Prop} {len j y n : Nat} {z : Int} (hk : pm_look (pm_kl m) pc = some (.invokevirtual j, len)) (hi : ∀ h, pm_inv m (.invokevirtual j) st h c k = some (some y, as, rest)) (hmc : pm_mc y = 0) (hms : pm_ms y = 0) (hex : ∀ h, pm_exec none n y 0 (lv_args 0 as) [] h 0 0 = some (h, some (vi z))) (kk : xe X m (pc + 3) ls (vi z :: rest) s c k P) : xe X m pc ls st s c k P := fun h hr => by
  refine ex_call hk rfl (hi h) ⟨n, h, some (vi z), hex h, ?_⟩
  rw [hmc, hms]
  exact kk h hr
theorem tx_len_0 (h : pmH) : pm_exec none 30 222 0 [(0, .ref 2001)] [] h 0 0 = some (h, some (vi 3)) := rfl
theorem tx_ch_0_0 (h : pmH) : pm_exec none 40 223 0 [(0, .ref 2001), (1, vi 0)] [] h 0 0 = some (h, some (vi 110)) := rfl
theorem tx_ch_0_1 (h : pmH) : pm_exec none 40 223 0 [(0, .ref 2001), (1, vi 1)] [] h 0 0 = some (h, some (vi 111)) := rfl
theorem tx_ch_0_2 (h : pmH) : pm_exec none 40 223 0 [(0, .ref 2001), (1, vi 2)] [] h 0 0 = some (h, some (vi 116)) := rfl
theorem tx_char_0 (z : Int) (hz : 0 ≤ z ∧ z < 3) : ∃ ch : Int, (97 ≤ ch ∧ ch ≤ 122) ∧ ∀ h, pm_exec none 40 223 0 [(0, .ref 2001), (1, vi z)] [] h 0 0 = some (h, some (vi ch)) := by
  rcases (show z = 0 ∨ z = 1 ∨ z = 2 by omega) with rfl | rfl | rfl
  · exact ⟨110, ⟨by omega, by omega⟩, tx_ch_0_0⟩
  · exact ⟨111, ⟨by omega, by omega⟩, tx_ch_0_1⟩
  · exact ⟨116, ⟨by omega, by omega⟩, tx_ch_0_2⟩
theorem tx_len_1 (h : pmH) : pm_exec none 30 222 0 [(0, .ref 2002)] [] h 0 0 = some (h, some (vi 4)) := rfl
theorem tx_ch_1_0 (h : pmH) : pm_exec none 40 223 0 [(0, .ref 2002), (1, vi 0)] [] h 0 0 = some (h, some (vi 109)) := rfl
theorem tx_ch_1_1 (h : pmH) : pm_exec none 40 223 0 [(0, .ref 2002), (1, vi 1)] [] h 0 0 = some (h, some (vi 97)) := rfl
theorem tx_ch_1_2 (h : pmH) : pm_exec none 40 223 0 [(0, .ref 2002), (1, vi 2)] [] h 0 0 = some (h, some (vi 114)) := rfl
theorem tx_ch_1_3 (h : pmH) : pm_exec none 40 223 0 [(0, .ref 2002), (1, vi 3)] [] h 0 0 = some (h, some (vi 107)) := rfl
theorem tx_char_1 (z : Int) (hz : 0 ≤ z ∧ z < 4) : ∃ ch : Int, (97 ≤ ch ∧ ch ≤ 122) ∧ ∀ h, pm_exec none 40 223 0 [(0, .ref 2002), (1, vi z)] [] h 0 0 = some (h, some (vi ch)) := by
  rcases (show z = 0 ∨ z = 1 ∨ z = 2 ∨ z = 3 by omega) with rfl | rfl | rfl | rfl
  · exact ⟨109, ⟨by omega, by omega⟩, tx_ch_1_0⟩
  · exact ⟨97, ⟨by omega, by omega⟩, tx_ch_1_1⟩
  · exact ⟨114, ⟨by omega, by omega⟩, tx_ch_1_2⟩
  · exact ⟨107, ⟨by omega, by omega⟩, tx_ch_1_3⟩
theorem tx_len_2 (h : pmH) : pm_exec none 30 222 0 [(0, .ref 2003)] [] h 0 0 = some (h, some (vi 4)) := rfl
theorem tx_ch_2_0 (h : pmH) : pm_exec none 40 223 0 [(0, .ref 2003), (1, vi 0)] [] h 0 0 = some (h, some (vi 119)) := rfl
theorem tx_ch_2_1 (h : pmH) : pm_exec none 40 223 0 [(0, .ref 2003), (1, vi 1)] [] h 0 0 = some (h, some (vi 111)) := rfl
theorem tx_ch_2_2 (h : pmH) : pm_exec none 40 223 0 [(0, .ref 2003), (1, vi 2)] [] h 0 0 = some (h, some (vi 114)) := rfl
theorem tx_ch_2_3 (h : pmH) : pm_exec none 40 223 0 [(0, .ref 2003), (1, vi 3)] [] h 0 0 = some (h, some (vi 100)) := rfl
theorem tx_char_2 (z : Int) (hz : 0 ≤ z ∧ z < 4) : ∃ ch : Int, (97 ≤ ch ∧ ch ≤ 122) ∧ ∀ h, pm_exec none 40 223 0 [(0, .ref 2003), (1, vi z)] [] h 0 0 = some (h, some (vi ch)) := by
  rcases (show z = 0 ∨ z = 1 ∨ z = 2 ∨ z = 3 by omega) with rfl | rfl | rfl | rfl
  · exact ⟨119, ⟨by omega, by omega⟩, tx_ch_2_0⟩
  · exact ⟨111, ⟨by omega, by omega⟩, tx_ch_2_1⟩
  · exact ⟨114, ⟨by omega, by omega⟩, tx_ch_2_2⟩
  · exact ⟨100, ⟨by omega, by omega⟩, tx_ch_2_3⟩
theorem tx_len_3 (h : pmH) : pm_exec none 30 222 0 [(0, .ref 2004)] [] h 0 0 = some (h, some (vi 4)) := rfl
theorem tx_ch_3_0 (h : pmH) : pm_exec none 40 223 0 [(0, .ref 2004), (1, vi 0)] [] h 0 0 = some (h, some (vi 104)) := rfl
theorem tx_ch_3_1 (h : pmH) : pm_exec none 40 223 0 [(0, .ref 2004), (1, vi 1)] [] h 0 0 = some (h, some (vi 97)) := rfl
theorem tx_ch_3_2 (h : pmH) : pm_exec none 40 223 0 [(0, .ref 2004), (1, vi 2)] [] h 0 0 = some (h, some (vi 110)) := rfl
theorem tx_ch_3_3 (h : pmH) : pm_exec none 40 223 0 [(0, .ref 2004), (1, vi 3)] [] h 0 0 = some (h, some (vi 100)) := rfl
theorem tx_char_3 (z : Int) (hz : 0 ≤ z ∧ z < 4) : ∃ ch : Int, (97 ≤ ch ∧ ch ≤ 122) ∧ ∀ h, pm_exec none 40 223 0 [(0, .ref 2004), (1, vi z)] [] h 0 0 = some (h, some (vi ch)) := by
  rcases (show z = 0 ∨ z = 1 ∨ z = 2 ∨ z = 3 by omega) with rfl | rfl | rfl | rfl
  · exact ⟨104, ⟨by omega, by omega⟩, tx_ch_3_0⟩
  · exact ⟨97, ⟨by omega, by omega⟩, tx_ch_3_1⟩
  · exact ⟨110, ⟨by omega, by omega⟩, tx_ch_3_2⟩
  · exact ⟨100, ⟨by omega, by omega⟩, tx_ch_3_3⟩
theorem tx_len_4 (h : pmH) : pm_exec none 30 222 0 [(0, .ref 2005)] [] h 0 0 = some (h, some (vi 6)) := rfl
theorem tx_ch_4_0 (h : pmH) : pm_exec none 40 223 0 [(0, .ref 2005), (1, vi 0)] [] h 0 0 = some (h, some (vi 98)) := rfl
theorem tx_ch_4_1 (h : pmH) : pm_exec none 40 223 0 [(0, .ref 2005), (1, vi 1)] [] h 0 0 = some (h, some (vi 101)) := rfl
theorem tx_ch_4_2 (h : pmH) : pm_exec none 40 223 0 [(0, .ref 2005), (1, vi 2)] [] h 0 0 = some (h, some (vi 102)) := rfl
theorem tx_ch_4_3 (h : pmH) : pm_exec none 40 223 0 [(0, .ref 2005), (1, vi 3)] [] h 0 0 = some (h, some (vi 111)) := rfl
theorem tx_ch_4_4 (h : pmH) : pm_exec none 40 223 0 [(0, .ref 2005), (1, vi 4)] [] h 0 0 = some (h, some (vi 114)) := rfl
theorem tx_ch_4_5 (h : pmH) : pm_exec none 40 223 0 [(0, .ref 2005), (1, vi 5)] [] h 0 0 = some (h, some (vi 101)) := rfl
theorem tx_char_4 (z : Int) (hz : 0 ≤ z ∧ z < 6) : ∃ ch : Int, (97 ≤ ch ∧ ch ≤ 122) ∧ ∀ h, pm_exec none 40 223 0 [(0, .ref 2005), (1, vi z)] [] h 0 0 = some (h, some (vi ch)) := by
  rcases (show z = 0 ∨ z = 1 ∨ z = 2 ∨ z = 3 ∨ z = 4 ∨ z = 5 by omega) with rfl | rfl | rfl | rfl | rfl | rfl
  · exact ⟨98, ⟨by omega, by omega⟩, tx_ch_4_0⟩
  · exact ⟨101, ⟨by omega, by omega⟩, tx_ch_4_1⟩
  · exact ⟨102, ⟨by omega, by omega⟩, tx_ch_4_2⟩
  · exact ⟨111, ⟨by omega, by omega⟩, tx_ch_4_3⟩
  · exact ⟨114, ⟨by omega, by omega⟩, tx_ch_4_4⟩
  · exact ⟨101, ⟨by omega, by omega⟩, tx_ch_4_5⟩
theorem tx_len_5 (h : pmH) : pm_exec none 30 222 0 [(0, .ref 2006)] [] h 0 0 = some (h, some (vi 2)) := rfl
theorem tx_ch_5_0 (h : pmH) : pm_exec none 40 223 0 [(0, .ref 2006), (1, vi 0)] [] h 0 0 = some (h, some (vi 97)) := rfl
theorem tx_ch_5_1 (h : pmH) : pm_exec none 40 223 0 [(0, .ref 2006), (1, vi 1)] [] h 0 0 = some (h, some (vi 116)) := rfl
theorem tx_char_5 (z : Int) (hz : 0 ≤ z ∧ z < 2) : ∃ ch : Int, (97 ≤ ch ∧ ch ≤ 122) ∧ ∀ h, pm_exec none 40 223 0 [(0, .ref 2006), (1, vi z)] [] h 0 0 = some (h, some (vi ch)) := by
  rcases (show z = 0 ∨ z = 1 by omega) with rfl | rfl
  · exact ⟨97, ⟨by omega, by omega⟩, tx_ch_5_0⟩
  · exact ⟨116, ⟨by omega, by omega⟩, tx_ch_5_1⟩
theorem tx_len_6 (h : pmH) : pm_exec none 30 222 0 [(0, .ref 2007)] [] h 0 0 = some (h, some (vi 3)) := rfl
theorem tx_ch_6_0 (h : pmH) : pm_exec none 40 223 0 [(0, .ref 2007), (1, vi 0)] [] h 0 0 = some (h, some (vi 97)) := rfl
theorem tx_ch_6_1 (h : pmH) : pm_exec none 40 223 0 [(0, .ref 2007), (1, vi 1)] [] h 0 0 = some (h, some (vi 110)) := rfl
theorem tx_ch_6_2 (h : pmH) : pm_exec none 40 223 0 [(0, .ref 2007), (1, vi 2)] [] h 0 0 = some (h, some (vi 100)) := rfl
theorem tx_char_6 (z : Int) (hz : 0 ≤ z ∧ z < 3) : ∃ ch : Int, (97 ≤ ch ∧ ch ≤ 122) ∧ ∀ h, pm_exec none 40 223 0 [(0, .ref 2007), (1, vi z)] [] h 0 0 = some (h, some (vi ch)) := by
  rcases (show z = 0 ∨ z = 1 ∨ z = 2 by omega) with rfl | rfl | rfl
  · exact ⟨97, ⟨by omega, by omega⟩, tx_ch_6_0⟩
  · exact ⟨110, ⟨by omega, by omega⟩, tx_ch_6_1⟩
  · exact ⟨100, ⟨by omega, by omega⟩, tx_ch_6_2⟩
theorem tx_len_7 (h : pmH) : pm_exec none 30 222 0 [(0, .ref 2008)] [] h 0 0 = some (h, some (vi 2)) := rfl
theorem tx_ch_7_0 (h : pmH) : pm_exec none 40 223 0 [(0, .ref 2008), (1, vi 0)] [] h 0 0 = some (h, some (vi 111)) := rfl
theorem tx_ch_7_1 (h : pmH) : pm_exec none 40 223 0 [(0, .ref 2008), (1, vi 1)] [] h 0 0 = some (h, some (vi 114)) := rfl
theorem tx_char_7 (z : Int) (hz : 0 ≤ z ∧ z < 2) : ∃ ch : Int, (97 ≤ ch ∧ ch ≤ 122) ∧ ∀ h, pm_exec none 40 223 0 [(0, .ref 2008), (1, vi z)] [] h 0 0 = some (h, some (vi ch)) := by
  rcases (show z = 0 ∨ z = 1 by omega) with rfl | rfl
  · exact ⟨111, ⟨by omega, by omega⟩, tx_ch_7_0⟩
  · exact ⟨114, ⟨by omega, by omega⟩, tx_ch_7_1⟩
theorem tx_len_8 (h : pmH) : pm_exec none 30 222 0 [(0, .ref 2009)] [] h 0 0 = some (h, some (vi 3)) := rfl
theorem tx_ch_8_0 (h : pmH) : pm_exec none 40 223 0 [(0, .ref 2009), (1, vi 0)] [] h 0 0 = some (h, some (vi 107)) := rfl
theorem tx_ch_8_1 (h : pmH) : pm_exec none 40 223 0 [(0, .ref 2009), (1, vi 1)] [] h 0 0 = some (h, some (vi 101)) := rfl
theorem tx_ch_8_2 (h : pmH) : pm_exec none 40 223 0 [(0, .ref 2009), (1, vi 2)] [] h 0 0 = some (h, some (vi 121)) := rfl
theorem tx_char_8 (z : Int) (hz : 0 ≤ z ∧ z < 3) : ∃ ch : Int, (97 ≤ ch ∧ ch ≤ 122) ∧ ∀ h, pm_exec none 40 223 0 [(0, .ref 2009), (1, vi z)] [] h 0 0 = some (h, some (vi ch)) := by
  rcases (show z = 0 ∨ z = 1 ∨ z = 2 by omega) with rfl | rfl | rfl
  · exact ⟨107, ⟨by omega, by omega⟩, tx_ch_8_0⟩
  · exact ⟨101, ⟨by omega, by omega⟩, tx_ch_8_1⟩
  · exact ⟨121, ⟨by omega, by omega⟩, tx_ch_8_2⟩
theorem tx_len_9 (h : pmH) : pm_exec none 30 222 0 [(0, .ref 2010)] [] h 0 0 = some (h, some (vi 5)) := rfl
theorem tx_ch_9_0 (h : pmH) : pm_exec none 40 223 0 [(0, .ref 2010), (1, vi 0)] [] h 0 0 = some (h, some (vi 97)) := rfl
theorem tx_ch_9_1 (h : pmH) : pm_exec none 40 223 0 [(0, .ref 2010), (1, vi 1)] [] h 0 0 = some (h, some (vi 108)) := rfl
theorem tx_ch_9_2 (h : pmH) : pm_exec none 40 223 0 [(0, .ref 2010), (1, vi 2)] [] h 0 0 = some (h, some (vi 108)) := rfl
theorem tx_ch_9_3 (h : pmH) : pm_exec none 40 223 0 [(0, .ref 2010), (1, vi 3)] [] h 0 0 = some (h, some (vi 111)) := rfl
theorem tx_ch_9_4 (h : pmH) : pm_exec none 40 223 0 [(0, .ref 2010), (1, vi 4)] [] h 0 0 = some (h, some (vi 119)) := rfl
theorem tx_char_9 (z : Int) (hz : 0 ≤ z ∧ z < 5) : ∃ ch : Int, (97 ≤ ch ∧ ch ≤ 122) ∧ ∀ h, pm_exec none 40 223 0 [(0, .ref 2010), (1, vi z)] [] h 0 0 = some (h, some (vi ch)) := by
  rcases (show z = 0 ∨ z = 1 ∨ z = 2 ∨ z = 3 ∨ z = 4 by omega) with rfl | rfl | rfl | rfl | rfl
  · exact ⟨97, ⟨by omega, by omega⟩, tx_ch_9_0⟩
  · exact ⟨108, ⟨by omega, by omega⟩, tx_ch_9_1⟩
  · exact ⟨108, ⟨by omega, by omega⟩, tx_ch_9_2⟩
  · exact ⟨111, ⟨by omega, by omega⟩, tx_ch_9_3⟩
  · exact ⟨119, ⟨by omega, by omega⟩, tx_ch_9_4⟩
theorem tx_len_10 (h : pmH) : pm_exec none 30 222 0 [(0, .ref 2011)] [] h 0 0 = some (h, some (vi 3)) := rfl
theorem tx_ch_10_0 (h : pmH) : pm_exec none 40 223 0 [(0, .ref 2011), (1, vi 0)] [] h 0 0 = some (h, some (vi 98)) := rfl
theorem tx_ch_10_1 (h : pmH) : pm_exec none 40 223 0 [(0, .ref 2011), (1, vi 1)] [] h 0 0 = some (h, some (vi 97)) := rfl
theorem tx_ch_10_2 (h : pmH) : pm_exec none 40 223 0 [(0, .ref 2011), (1, vi 2)] [] h 0 0 = some (h, some (vi 114)) := rfl
theorem tx_char_10 (z : Int) (hz : 0 ≤ z ∧ z < 3) : ∃ ch : Int, (97 ≤ ch ∧ ch ≤ 122) ∧ ∀ h, pm_exec none 40 223 0 [(0, .ref 2011), (1, vi z)] [] h 0 0 = some (h, some (vi ch)) := by
  rcases (show z = 0 ∨ z = 1 ∨ z = 2 by omega) with rfl | rfl | rfl
  · exact ⟨98, ⟨by omega, by omega⟩, tx_ch_10_0⟩
  · exact ⟨97, ⟨by omega, by omega⟩, tx_ch_10_1⟩
  · exact ⟨114, ⟨by omega, by omega⟩, tx_ch_10_2⟩
theorem tx_len_11 (h : pmH) : pm_exec none 30 222 0 [(0, .ref 2012)] [] h 0 0 = some (h, some (vi 4)) := rfl
theorem tx_ch_11_0 (h : pmH) : pm_exec none 40 223 0 [(0, .ref 2012), (1, vi 0)] [] h 0 0 = some (h, some (vi 110)) := rfl
theorem tx_ch_11_1 (h : pmH) : pm_exec none 40 223 0 [(0, .ref 2012), (1, vi 1)] [] h 0 0 = some (h, some (vi 101)) := rfl
theorem tx_ch_11_2 (h : pmH) : pm_exec none 40 223 0 [(0, .ref 2012), (1, vi 2)] [] h 0 0 = some (h, some (vi 101)) := rfl
theorem tx_ch_11_3 (h : pmH) : pm_exec none 40 223 0 [(0, .ref 2012), (1, vi 3)] [] h 0 0 = some (h, some (vi 100)) := rfl
theorem tx_char_11 (z : Int) (hz : 0 ≤ z ∧ z < 4) : ∃ ch : Int, (97 ≤ ch ∧ ch ≤ 122) ∧ ∀ h, pm_exec none 40 223 0 [(0, .ref 2012), (1, vi z)] [] h 0 0 = some (h, some (vi ch)) := by
  rcases (show z = 0 ∨ z = 1 ∨ z = 2 ∨ z = 3 by omega) with rfl | rfl | rfl | rfl
  · exact ⟨110, ⟨by omega, by omega⟩, tx_ch_11_0⟩
  · exact ⟨101, ⟨by omega, by omega⟩, tx_ch_11_1⟩
  · exact ⟨101, ⟨by omega, by omega⟩, tx_ch_11_2⟩
  · exact ⟨100, ⟨by omega, by omega⟩, tx_ch_11_3⟩
theorem tx_len_12 (h : pmH) : pm_exec none 30 222 0 [(0, .ref 2013)] [] h 0 0 = some (h, some (vi 4)) := rfl
theorem tx_ch_12_0 (h : pmH) : pm_exec none 40 223 0 [(0, .ref 2013), (1, vi 0)] [] h 0 0 = some (h, some (vi 109)) := rfl
theorem tx_ch_12_1 (h : pmH) : pm_exec none 40 223 0 [(0, .ref 2013), (1, vi 1)] [] h 0 0 = some (h, some (vi 111)) := rfl
theorem tx_ch_12_2 (h : pmH) : pm_exec none 40 223 0 [(0, .ref 2013), (1, vi 2)] [] h 0 0 = some (h, some (vi 115)) := rfl
theorem tx_ch_12_3 (h : pmH) : pm_exec none 40 223 0 [(0, .ref 2013), (1, vi 3)] [] h 0 0 = some (h, some (vi 116)) := rfl
theorem tx_char_12 (z : Int) (hz : 0 ≤ z ∧ z < 4) : ∃ ch : Int, (97 ≤ ch ∧ ch ≤ 122) ∧ ∀ h, pm_exec none 40 223 0 [(0, .ref 2013), (1, vi z)] [] h 0 0 = some (h, some (vi ch)) := by
  rcases (show z = 0 ∨ z = 1 ∨ z = 2 ∨ z = 3 by omega) with rfl | rfl | rfl | rfl
  · exact ⟨109, ⟨by omega, by omega⟩, tx_ch_12_0⟩
  · exact ⟨111, ⟨by omega, by omega⟩, tx_ch_12_1⟩
  · exact ⟨115, ⟨by omega, by omega⟩, tx_ch_12_2⟩
  · exact ⟨116, ⟨by omega, by omega⟩, tx_ch_12_3⟩
theorem tx_len_13 (h : pmH) : pm_exec none 30 222 0 [(0, .ref 2014)] [] h 0 0 = some (h, some (vi 6)) := rfl
theorem tx_ch_13_0 (h : pmH) : pm_exec none 40 223 0 [(0, .ref 2014), (1, vi 0)] [] h 0 0 = some (h, some (vi 115)) := rfl
theorem tx_ch_13_1 (h : pmH) : pm_exec none 40 223 0 [(0, .ref 2014), (1, vi 1)] [] h 0 0 = some (h, some (vi 116)) := rfl
theorem tx_ch_13_2 (h : pmH) : pm_exec none 40 223 0 [(0, .ref 2014), (1, vi 2)] [] h 0 0 = some (h, some (vi 114)) := rfl
theorem tx_ch_13_3 (h : pmH) : pm_exec none 40 223 0 [(0, .ref 2014), (1, vi 3)] [] h 0 0 = some (h, some (vi 105)) := rfl
theorem tx_ch_13_4 (h : pmH) : pm_exec none 40 223 0 [(0, .ref 2014), (1, vi 4)] [] h 0 0 = some (h, some (vi 107)) := rfl
theorem tx_ch_13_5 (h : pmH) : pm_exec none 40 223 0 [(0, .ref 2014), (1, vi 5)] [] h 0 0 = some (h, some (vi 101)) := rfl
theorem tx_char_13 (z : Int) (hz : 0 ≤ z ∧ z < 6) : ∃ ch : Int, (97 ≤ ch ∧ ch ≤ 122) ∧ ∀ h, pm_exec none 40 223 0 [(0, .ref 2014), (1, vi z)] [] h 0 0 = some (h, some (vi ch)) := by
  rcases (show z = 0 ∨ z = 1 ∨ z = 2 ∨ z = 3 ∨ z = 4 ∨ z = 5 by omega) with rfl | rfl | rfl | rfl | rfl | rfl
  · exact ⟨115, ⟨by omega, by omega⟩, tx_ch_13_0⟩
  · exact ⟨116, ⟨by omega, by omega⟩, tx_ch_13_1⟩
  · exact ⟨114, ⟨by omega, by omega⟩, tx_ch_13_2⟩
  · exact ⟨105, ⟨by omega, by omega⟩, tx_ch_13_3⟩
  · exact ⟨107, ⟨by omega, by omega⟩, tx_ch_13_4⟩
  · exact ⟨101, ⟨by omega, by omega⟩, tx_ch_13_5⟩
theorem tx_len_14 (h : pmH) : pm_exec none 30 222 0 [(0, .ref 2015)] [] h 0 0 = some (h, some (vi 5)) := rfl
theorem tx_ch_14_0 (h : pmH) : pm_exec none 40 223 0 [(0, .ref 2015), (1, vi 0)] [] h 0 0 = some (h, some (vi 117)) := rfl
theorem tx_ch_14_1 (h : pmH) : pm_exec none 40 223 0 [(0, .ref 2015), (1, vi 1)] [] h 0 0 = some (h, some (vi 110)) := rfl
theorem tx_ch_14_2 (h : pmH) : pm_exec none 40 223 0 [(0, .ref 2015), (1, vi 2)] [] h 0 0 = some (h, some (vi 100)) := rfl
theorem tx_ch_14_3 (h : pmH) : pm_exec none 40 223 0 [(0, .ref 2015), (1, vi 3)] [] h 0 0 = some (h, some (vi 101)) := rfl
theorem tx_ch_14_4 (h : pmH) : pm_exec none 40 223 0 [(0, .ref 2015), (1, vi 4)] [] h 0 0 = some (h, some (vi 114)) := rfl
theorem tx_char_14 (z : Int) (hz : 0 ≤ z ∧ z < 5) : ∃ ch : Int, (97 ≤ ch ∧ ch ≤ 122) ∧ ∀ h, pm_exec none 40 223 0 [(0, .ref 2015), (1, vi z)] [] h 0 0 = some (h, some (vi ch)) := by
  rcases (show z = 0 ∨ z = 1 ∨ z = 2 ∨ z = 3 ∨ z = 4 by omega) with rfl | rfl | rfl | rfl | rfl
  · exact ⟨117, ⟨by omega, by omega⟩, tx_ch_14_0⟩
  · exact ⟨110, ⟨by omega, by omega⟩, tx_ch_14_1⟩
  · exact ⟨100, ⟨by omega, by omega⟩, tx_ch_14_2⟩
  · exact ⟨101, ⟨by omega, by omega⟩, tx_ch_14_3⟩
  · exact ⟨114, ⟨by omega, by omega⟩, tx_ch_14_4⟩
theorem tx_len_15 (h : pmH) : pm_exec none 30 222 0 [(0, .ref 2016)] [] h 0 0 = some (h, some (vi 4)) := rfl
theorem tx_ch_15_0 (h : pmH) : pm_exec none 40 223 0 [(0, .ref 2016), (1, vi 0)] [] h 0 0 = some (h, some (vi 119)) := rfl
theorem tx_ch_15_1 (h : pmH) : pm_exec none 40 223 0 [(0, .ref 2016), (1, vi 1)] [] h 0 0 = some (h, some (vi 105)) := rfl
theorem tx_ch_15_2 (h : pmH) : pm_exec none 40 223 0 [(0, .ref 2016), (1, vi 2)] [] h 0 0 = some (h, some (vi 116)) := rfl
theorem tx_ch_15_3 (h : pmH) : pm_exec none 40 223 0 [(0, .ref 2016), (1, vi 3)] [] h 0 0 = some (h, some (vi 104)) := rfl
theorem tx_char_15 (z : Int) (hz : 0 ≤ z ∧ z < 4) : ∃ ch : Int, (97 ≤ ch ∧ ch ≤ 122) ∧ ∀ h, pm_exec none 40 223 0 [(0, .ref 2016), (1, vi z)] [] h 0 0 = some (h, some (vi ch)) := by
  rcases (show z = 0 ∨ z = 1 ∨ z = 2 ∨ z = 3 by omega) with rfl | rfl | rfl | rfl
  · exact ⟨119, ⟨by omega, by omega⟩, tx_ch_15_0⟩
  · exact ⟨105, ⟨by omega, by omega⟩, tx_ch_15_1⟩
  · exact ⟨116, ⟨by omega, by omega⟩, tx_ch_15_2⟩
  · exact ⟨104, ⟨by omega, by omega⟩, tx_ch_15_3⟩
theorem tx_len_16 (h : pmH) : pm_exec none 30 222 0 [(0, .ref 2017)] [] h 0 0 = some (h, some (vi 5)) := rfl
theorem tx_ch_16_0 (h : pmH) : pm_exec none 40 223 0 [(0, .ref 2017), (1, vi 0)] [] h 0 0 = some (h, some (vi 107)) := rfl
theorem tx_ch_16_1 (h : pmH) : pm_exec none 40 223 0 [(0, .ref 2017), (1, vi 1)] [] h 0 0 = some (h, some (vi 101)) := rfl
theorem tx_ch_16_2 (h : pmH) : pm_exec none 40 223 0 [(0, .ref 2017), (1, vi 2)] [] h 0 0 = some (h, some (vi 101)) := rfl
theorem tx_ch_16_3 (h : pmH) : pm_exec none 40 223 0 [(0, .ref 2017), (1, vi 3)] [] h 0 0 = some (h, some (vi 112)) := rfl
theorem tx_ch_16_4 (h : pmH) : pm_exec none 40 223 0 [(0, .ref 2017), (1, vi 4)] [] h 0 0 = some (h, some (vi 115)) := rfl
theorem tx_char_16 (z : Int) (hz : 0 ≤ z ∧ z < 5) : ∃ ch : Int, (97 ≤ ch ∧ ch ≤ 122) ∧ ∀ h, pm_exec none 40 223 0 [(0, .ref 2017), (1, vi z)] [] h 0 0 = some (h, some (vi ch)) := by
  rcases (show z = 0 ∨ z = 1 ∨ z = 2 ∨ z = 3 ∨ z = 4 by omega) with rfl | rfl | rfl | rfl | rfl
  · exact ⟨107, ⟨by omega, by omega⟩, tx_ch_16_0⟩
  · exact ⟨101, ⟨by omega, by omega⟩, tx_ch_16_1⟩
  · exact ⟨101, ⟨by omega, by omega⟩, tx_ch_16_2⟩
  · exact ⟨112, ⟨by omega, by omega⟩, tx_ch_16_3⟩
  · exact ⟨115, ⟨by omega, by omega⟩, tx_ch_16_4⟩
theorem tx_len_17 (h : pmH) : pm_exec none 30 222 0 [(0, .ref 2018)] [] h 0 0 = some (h, some (vi 5)) := rfl
theorem tx_ch_17_0 (h : pmH) : pm_exec none 40 223 0 [(0, .ref 2018), (1, vi 0)] [] h 0 0 = some (h, some (vi 116)) := rfl
theorem tx_ch_17_1 (h : pmH) : pm_exec none 40 223 0 [(0, .ref 2018), (1, vi 1)] [] h 0 0 = some (h, some (vi 117)) := rfl
theorem tx_ch_17_2 (h : pmH) : pm_exec none 40 223 0 [(0, .ref 2018), (1, vi 2)] [] h 0 0 = some (h, some (vi 114)) := rfl
theorem tx_ch_17_3 (h : pmH) : pm_exec none 40 223 0 [(0, .ref 2018), (1, vi 3)] [] h 0 0 = some (h, some (vi 110)) := rfl
theorem tx_ch_17_4 (h : pmH) : pm_exec none 40 223 0 [(0, .ref 2018), (1, vi 4)] [] h 0 0 = some (h, some (vi 115)) := rfl
theorem tx_char_17 (z : Int) (hz : 0 ≤ z ∧ z < 5) : ∃ ch : Int, (97 ≤ ch ∧ ch ≤ 122) ∧ ∀ h, pm_exec none 40 223 0 [(0, .ref 2018), (1, vi z)] [] h 0 0 = some (h, some (vi ch)) := by
  rcases (show z = 0 ∨ z = 1 ∨ z = 2 ∨ z = 3 ∨ z = 4 by omega) with rfl | rfl | rfl | rfl | rfl
  · exact ⟨116, ⟨by omega, by omega⟩, tx_ch_17_0⟩
  · exact ⟨117, ⟨by omega, by omega⟩, tx_ch_17_1⟩
  · exact ⟨114, ⟨by omega, by omega⟩, tx_ch_17_2⟩
  · exact ⟨110, ⟨by omega, by omega⟩, tx_ch_17_3⟩
  · exact ⟨115, ⟨by omega, by omega⟩, tx_ch_17_4⟩
theorem tx_len_18 (h : pmH) : pm_exec none 30 222 0 [(0, .ref 2019)] [] h 0 0 = some (h, some (vi 6)) := rfl
theorem tx_ch_18_0 (h : pmH) : pm_exec none 40 223 0 [(0, .ref 2019), (1, vi 0)] [] h 0 0 = some (h, some (vi 114)) := rfl
theorem tx_ch_18_1 (h : pmH) : pm_exec none 40 223 0 [(0, .ref 2019), (1, vi 1)] [] h 0 0 = some (h, some (vi 97)) := rfl
theorem tx_ch_18_2 (h : pmH) : pm_exec none 40 223 0 [(0, .ref 2019), (1, vi 2)] [] h 0 0 = some (h, some (vi 105)) := rfl
theorem tx_ch_18_3 (h : pmH) : pm_exec none 40 223 0 [(0, .ref 2019), (1, vi 3)] [] h 0 0 = some (h, some (vi 115)) := rfl
theorem tx_ch_18_4 (h : pmH) : pm_exec none 40 223 0 [(0, .ref 2019), (1, vi 4)] [] h 0 0 = some (h, some (vi 101)) := rfl
theorem tx_ch_18_5 (h : pmH) : pm_exec none 40 223 0 [(0, .ref 2019), (1, vi 5)] [] h 0 0 = some (h, some (vi 115)) := rfl
theorem tx_char_18 (z : Int) (hz : 0 ≤ z ∧ z < 6) : ∃ ch : Int, (97 ≤ ch ∧ ch ≤ 122) ∧ ∀ h, pm_exec none 40 223 0 [(0, .ref 2019), (1, vi z)] [] h 0 0 = some (h, some (vi ch)) := by
  rcases (show z = 0 ∨ z = 1 ∨ z = 2 ∨ z = 3 ∨ z = 4 ∨ z = 5 by omega) with rfl | rfl | rfl | rfl | rfl | rfl
  · exact ⟨114, ⟨by omega, by omega⟩, tx_ch_18_0⟩
  · exact ⟨97, ⟨by omega, by omega⟩, tx_ch_18_1⟩
  · exact ⟨105, ⟨by omega, by omega⟩, tx_ch_18_2⟩
  · exact ⟨115, ⟨by omega, by omega⟩, tx_ch_18_3⟩
  · exact ⟨101, ⟨by omega, by omega⟩, tx_ch_18_4⟩
  · exact ⟨115, ⟨by omega, by omega⟩, tx_ch_18_5⟩
