/-! the state behind the constructors -/
def xs0 (q i : Nat) : Int := if q = 260 then (if i < 10 then -1 else 0) else if q = 258 ∨ q = 259 then (if i = 0 then -1 else 0) else if q = 3 ∨ q = 4 ∨ (6 ≤ q ∧ q ≤ 45) then -1 else if (q = 1 ∧ i = 4) ∨ (q = 256 ∧ i = 1) then 1 else if (q = 0 ∧ i = 11) ∨ (q = 243 ∧ i = 12) ∨ (q = 256 ∧ i = 35) then -1 else 0
theorem xs0_z {q i : Nat} (h1 : q ≠ 260) (h2 : q ≠ 258) (h3 : q ≠ 259) (h4 : q ≠ 3) (h5 : q ≠ 4) (h6 : ¬ (6 ≤ q ∧ q ≤ 45)) (h7 : q ≠ 1) (h8 : q ≠ 256) (h9 : q ≠ 0) (h10 : q ≠ 243) : xs0 q i = 0 := by
  unfold xs0
  rw [if_neg h1, if_neg (by omega), if_neg (by omega), if_neg (by omega), if_neg (by omega)]
theorem x_gd (l : List Int) (i : Nat) (h : l.length ≤ i) : l.getD i 0 = 0 := by rw [List.getD_eq_getElem?_getD, List.getElem?_eq_none h]; rfl
theorem GI_0 : GI xs0 := fun q i => by
  unfold glo ghi
  by_cases h243 : q < 243
  · rw [if_pos h243, if_pos h243]
    by_cases h183 : q < 183
    · rw [if_pos h183, if_pos h183]
      by_cases h51 : q < 51
      · rw [if_pos h51, if_pos h51]
        by_cases h6 : q < 6
        · rw [if_pos h6, if_pos h6]
          by_cases h3 : q < 3
          · rw [if_pos h3, if_pos h3]
            by_cases h1 : q < 1
            · rw [if_pos h1, if_pos h1]
              have hq : q = 0 := by omega
              subst hq
              by_cases hi : i < 12
              · have key : ∀ j, j < 12 → ([0, 0, 0, 0, 0, 0, 0, 0, 0, 0, 0, -2147483648] : List Int).getD j 0 ≤ xs0 0 j ∧ xs0 0 j ≤ ([0, 0, 0, 0, 0, 0, 0, 0, 0, 0, 9, 2147483647] : List Int).getD j 0 := by decide +kernel
                exact key i hi
              · rw [x_gd [0, 0, 0, 0, 0, 0, 0, 0, 0, 0, 0, -2147483648] i (show 12 ≤ i by omega), x_gd [0, 0, 0, 0, 0, 0, 0, 0, 0, 0, 9, 2147483647] i (show 12 ≤ i by omega)]
                unfold xs0
                rw [if_neg (by omega), if_neg (by omega), if_neg (by omega), if_neg (by omega), if_neg (by omega)]
                exact ⟨by omega, by omega⟩
            · rw [if_neg h1, if_neg h1]
              by_cases h2 : q < 2
              · rw [if_pos h2, if_pos h2]
                have hq : q = 1 := by omega
                subst hq
                by_cases hi : i < 5
                · have key : ∀ j, j < 5 → ([0, 0, 0, 0, 1] : List Int).getD j 0 ≤ xs0 1 j ∧ xs0 1 j ≤ ([0, 0, 0, 0, 40] : List Int).getD j 0 := by decide +kernel
                  exact key i hi
                · rw [x_gd [0, 0, 0, 0, 1] i (show 5 ≤ i by omega), x_gd [0, 0, 0, 0, 40] i (show 5 ≤ i by omega)]
                  unfold xs0
                  rw [if_neg (by omega), if_neg (by omega), if_neg (by omega), if_neg (by omega), if_neg (by omega)]
                  exact ⟨by omega, by omega⟩
              · rw [if_neg h2, if_neg h2]
                rw [xs0_z (by omega) (by omega) (by omega) (by omega) (by omega) (by omega) (by omega) (by omega) (by omega) (by omega)]
                exact ⟨by omega, by omega⟩
          · rw [if_neg h3, if_neg h3]
            by_cases h4 : q < 4
            · rw [if_pos h4, if_pos h4]
              have e : xs0 q i = -1 := by unfold xs0; rw [if_neg (by omega), if_neg (by omega), if_pos (by omega)]
              rw [e]
              exact ⟨by omega, by omega⟩
            · rw [if_neg h4, if_neg h4]
              by_cases h5 : q < 5
              · rw [if_pos h5, if_pos h5]
                have e : xs0 q i = -1 := by unfold xs0; rw [if_neg (by omega), if_neg (by omega), if_pos (by omega)]
                rw [e]
                exact ⟨by omega, by omega⟩
              · rw [if_neg h5, if_neg h5]
                rw [xs0_z (by omega) (by omega) (by omega) (by omega) (by omega) (by omega) (by omega) (by omega) (by omega) (by omega)]
                exact ⟨by omega, by omega⟩
        · rw [if_neg h6, if_neg h6]
          by_cases h48 : q < 48
          · rw [if_pos h48, if_pos h48]
            by_cases h46 : q < 46
            · rw [if_pos h46, if_pos h46]
              have e : xs0 q i = -1 := by unfold xs0; rw [if_neg (by omega), if_neg (by omega), if_pos (by omega)]
              rw [e]
              exact ⟨by omega, by omega⟩
            · rw [if_neg h46, if_neg h46]
              by_cases h47 : q < 47
              · rw [if_pos h47, if_pos h47]
                have hq : q = 46 := by omega
                subst hq
                by_cases hi : i < 4
                · have key : ∀ j, j < 4 → ([0, 0, 0, 0] : List Int).getD j 0 ≤ xs0 46 j ∧ xs0 46 j ≤ ([0, 0, 0, 40] : List Int).getD j 0 := by decide +kernel
                  exact key i hi
                · rw [x_gd [0, 0, 0, 0] i (show 4 ≤ i by omega), x_gd [0, 0, 0, 40] i (show 4 ≤ i by omega)]
                  unfold xs0
                  rw [if_neg (by omega), if_neg (by omega), if_neg (by omega), if_neg (by omega), if_neg (by omega)]
                  exact ⟨by omega, by omega⟩
              · rw [if_neg h47, if_neg h47]
                rw [xs0_z (by omega) (by omega) (by omega) (by omega) (by omega) (by omega) (by omega) (by omega) (by omega) (by omega)]
                exact ⟨by omega, by omega⟩
          · rw [if_neg h48, if_neg h48]
            by_cases h49 : q < 49
            · rw [if_pos h49, if_pos h49]
              rw [xs0_z (by omega) (by omega) (by omega) (by omega) (by omega) (by omega) (by omega) (by omega) (by omega) (by omega)]
              exact ⟨by omega, by omega⟩
            · rw [if_neg h49, if_neg h49]
              by_cases h50 : q < 50
              · rw [if_pos h50, if_pos h50]
                rw [xs0_z (by omega) (by omega) (by omega) (by omega) (by omega) (by omega) (by omega) (by omega) (by omega) (by omega)]
                exact ⟨by omega, by omega⟩
              · rw [if_neg h50, if_neg h50]
                have hq : q = 50 := by omega
                subst hq
                by_cases hi : i < 7
                · have key : ∀ j, j < 7 → ([0, 0, 0, 0, 0, 0, 0] : List Int).getD j 0 ≤ xs0 50 j ∧ xs0 50 j ≤ ([0, 0, 0, 0, 0, 0, 120] : List Int).getD j 0 := by decide +kernel
                  exact key i hi
                · rw [x_gd [0, 0, 0, 0, 0, 0, 0] i (show 7 ≤ i by omega), x_gd [0, 0, 0, 0, 0, 0, 120] i (show 7 ≤ i by omega)]
                  unfold xs0
                  rw [if_neg (by omega), if_neg (by omega), if_neg (by omega), if_neg (by omega), if_neg (by omega)]
                  exact ⟨by omega, by omega⟩
      · rw [if_neg h51, if_neg h51]
        by_cases h57 : q < 57
        · rw [if_pos h57, if_pos h57]
          by_cases h54 : q < 54
          · rw [if_pos h54, if_pos h54]
            by_cases h52 : q < 52
            · rw [if_pos h52, if_pos h52]
              rw [xs0_z (by omega) (by omega) (by omega) (by omega) (by omega) (by omega) (by omega) (by omega) (by omega) (by omega)]
              exact ⟨by omega, by omega⟩
            · rw [if_neg h52, if_neg h52]
              by_cases h53 : q < 53
              · rw [if_pos h53, if_pos h53]
                rw [xs0_z (by omega) (by omega) (by omega) (by omega) (by omega) (by omega) (by omega) (by omega) (by omega) (by omega)]
                exact ⟨by omega, by omega⟩
              · rw [if_neg h53, if_neg h53]
                rw [xs0_z (by omega) (by omega) (by omega) (by omega) (by omega) (by omega) (by omega) (by omega) (by omega) (by omega)]
                exact ⟨by omega, by omega⟩
          · rw [if_neg h54, if_neg h54]
            by_cases h55 : q < 55
            · rw [if_pos h55, if_pos h55]
              rw [xs0_z (by omega) (by omega) (by omega) (by omega) (by omega) (by omega) (by omega) (by omega) (by omega) (by omega)]
              exact ⟨by omega, by omega⟩
            · rw [if_neg h55, if_neg h55]
              by_cases h56 : q < 56
              · rw [if_pos h56, if_pos h56]
                rw [xs0_z (by omega) (by omega) (by omega) (by omega) (by omega) (by omega) (by omega) (by omega) (by omega) (by omega)]
                exact ⟨by omega, by omega⟩
              · rw [if_neg h56, if_neg h56]
                rw [xs0_z (by omega) (by omega) (by omega) (by omega) (by omega) (by omega) (by omega) (by omega) (by omega) (by omega)]
                exact ⟨by omega, by omega⟩
        · rw [if_neg h57, if_neg h57]
          by_cases h179 : q < 179
          · rw [if_pos h179, if_pos h179]
            by_cases h177 : q < 177
            · rw [if_pos h177, if_pos h177]
              rw [xs0_z (by omega) (by omega) (by omega) (by omega) (by omega) (by omega) (by omega) (by omega) (by omega) (by omega)]
              exact ⟨by omega, by omega⟩
            · rw [if_neg h177, if_neg h177]
              by_cases h178 : q < 178
              · rw [if_pos h178, if_pos h178]
                have hq : q = 177 := by omega
                subst hq
                by_cases hi : i < 7
                · have key : ∀ j, j < 7 → ([0, 0, 0, 0, 0, 0, -2147483648] : List Int).getD j 0 ≤ xs0 177 j ∧ xs0 177 j ≤ ([0, 160, 3, 160, 160, 5, 2147483647] : List Int).getD j 0 := by decide +kernel
                  exact key i hi
                · rw [x_gd [0, 0, 0, 0, 0, 0, -2147483648] i (show 7 ≤ i by omega), x_gd [0, 160, 3, 160, 160, 5, 2147483647] i (show 7 ≤ i by omega)]
                  unfold xs0
                  rw [if_neg (by omega), if_neg (by omega), if_neg (by omega), if_neg (by omega), if_neg (by omega)]
                  exact ⟨by omega, by omega⟩
              · rw [if_neg h178, if_neg h178]
                rw [xs0_z (by omega) (by omega) (by omega) (by omega) (by omega) (by omega) (by omega) (by omega) (by omega) (by omega)]
                exact ⟨by omega, by omega⟩
          · rw [if_neg h179, if_neg h179]
            by_cases h181 : q < 181
            · rw [if_pos h181, if_pos h181]
              by_cases h180 : q < 180
              · rw [if_pos h180, if_pos h180]
                have hq : q = 179 := by omega
                subst hq
                by_cases hi : i < 6
                · have key : ∀ j, j < 6 → ([0, 0, 0, 0, 0, 0] : List Int).getD j 0 ≤ xs0 179 j ∧ xs0 179 j ≤ ([0, 0, 0, 0, 0, 8] : List Int).getD j 0 := by decide +kernel
                  exact key i hi
                · rw [x_gd [0, 0, 0, 0, 0, 0] i (show 6 ≤ i by omega), x_gd [0, 0, 0, 0, 0, 8] i (show 6 ≤ i by omega)]
                  unfold xs0
                  rw [if_neg (by omega), if_neg (by omega), if_neg (by omega), if_neg (by omega), if_neg (by omega)]
                  exact ⟨by omega, by omega⟩
              · rw [if_neg h180, if_neg h180]
                rw [xs0_z (by omega) (by omega) (by omega) (by omega) (by omega) (by omega) (by omega) (by omega) (by omega) (by omega)]
                exact ⟨by omega, by omega⟩
            · rw [if_neg h181, if_neg h181]
              by_cases h182 : q < 182
              · rw [if_pos h182, if_pos h182]
                rw [xs0_z (by omega) (by omega) (by omega) (by omega) (by omega) (by omega) (by omega) (by omega) (by omega) (by omega)]
                exact ⟨by omega, by omega⟩
              · rw [if_neg h182, if_neg h182]
                rw [xs0_z (by omega) (by omega) (by omega) (by omega) (by omega) (by omega) (by omega) (by omega) (by omega) (by omega)]
                exact ⟨by omega, by omega⟩
    · rw [if_neg h183, if_neg h183]
      by_cases h217 : q < 217
      · rw [if_pos h217, if_pos h217]
        by_cases h210 : q < 210
        · rw [if_pos h210, if_pos h210]
          by_cases h200 : q < 200
          · rw [if_pos h200, if_pos h200]
            by_cases h191 : q < 191
            · rw [if_pos h191, if_pos h191]
              rw [xs0_z (by omega) (by omega) (by omega) (by omega) (by omega) (by omega) (by omega) (by omega) (by omega) (by omega)]
              exact ⟨by omega, by omega⟩
            · rw [if_neg h191, if_neg h191]
              by_cases h192 : q < 192
              · rw [if_pos h192, if_pos h192]
                rw [xs0_z (by omega) (by omega) (by omega) (by omega) (by omega) (by omega) (by omega) (by omega) (by omega) (by omega)]
                exact ⟨by omega, by omega⟩
              · rw [if_neg h192, if_neg h192]
                rw [xs0_z (by omega) (by omega) (by omega) (by omega) (by omega) (by omega) (by omega) (by omega) (by omega) (by omega)]
                exact ⟨by omega, by omega⟩
          · rw [if_neg h200, if_neg h200]
            by_cases h201 : q < 201
            · rw [if_pos h201, if_pos h201]
              rw [xs0_z (by omega) (by omega) (by omega) (by omega) (by omega) (by omega) (by omega) (by omega) (by omega) (by omega)]
              exact ⟨by omega, by omega⟩
            · rw [if_neg h201, if_neg h201]
              by_cases h209 : q < 209
              · rw [if_pos h209, if_pos h209]
                rw [xs0_z (by omega) (by omega) (by omega) (by omega) (by omega) (by omega) (by omega) (by omega) (by omega) (by omega)]
                exact ⟨by omega, by omega⟩
              · rw [if_neg h209, if_neg h209]
                have hq : q = 209 := by omega
                subst hq
                by_cases hi : i < 8
                · have key : ∀ j, j < 8 → ([-2147483648, 0, 0, 0, 0, -2147483648, -2147483648, -2147483648] : List Int).getD j 0 ≤ xs0 209 j ∧ xs0 209 j ≤ ([2147483647, 0, 0, 0, 0, 2147483647, 2147483647, 2147483647] : List Int).getD j 0 := by decide +kernel
                  exact key i hi
                · rw [x_gd [-2147483648, 0, 0, 0, 0, -2147483648, -2147483648, -2147483648] i (show 8 ≤ i by omega), x_gd [2147483647, 0, 0, 0, 0, 2147483647, 2147483647, 2147483647] i (show 8 ≤ i by omega)]
                  unfold xs0
                  rw [if_neg (by omega), if_neg (by omega), if_neg (by omega), if_neg (by omega), if_neg (by omega)]
                  exact ⟨by omega, by omega⟩
        · rw [if_neg h210, if_neg h210]
          by_cases h213 : q < 213
          · rw [if_pos h213, if_pos h213]
            by_cases h211 : q < 211
            · rw [if_pos h211, if_pos h211]
              rw [xs0_z (by omega) (by omega) (by omega) (by omega) (by omega) (by omega) (by omega) (by omega) (by omega) (by omega)]
              exact ⟨by omega, by omega⟩
            · rw [if_neg h211, if_neg h211]
              by_cases h212 : q < 212
              · rw [if_pos h212, if_pos h212]
                rw [xs0_z (by omega) (by omega) (by omega) (by omega) (by omega) (by omega) (by omega) (by omega) (by omega) (by omega)]
                exact ⟨by omega, by omega⟩
              · rw [if_neg h212, if_neg h212]
                rw [xs0_z (by omega) (by omega) (by omega) (by omega) (by omega) (by omega) (by omega) (by omega) (by omega) (by omega)]
                exact ⟨by omega, by omega⟩
          · rw [if_neg h213, if_neg h213]
            by_cases h215 : q < 215
            · rw [if_pos h215, if_pos h215]
              by_cases h214 : q < 214
              · rw [if_pos h214, if_pos h214]
                rw [xs0_z (by omega) (by omega) (by omega) (by omega) (by omega) (by omega) (by omega) (by omega) (by omega) (by omega)]
                exact ⟨by omega, by omega⟩
              · rw [if_neg h214, if_neg h214]
                have hq : q = 214 := by omega
                subst hq
                by_cases hi : i < 4
                · have key : ∀ j, j < 4 → ([0, 0, 0, 0] : List Int).getD j 0 ≤ xs0 214 j ∧ xs0 214 j ≤ ([0, 0, 0, 60] : List Int).getD j 0 := by decide +kernel
                  exact key i hi
                · rw [x_gd [0, 0, 0, 0] i (show 4 ≤ i by omega), x_gd [0, 0, 0, 60] i (show 4 ≤ i by omega)]
                  unfold xs0
                  rw [if_neg (by omega), if_neg (by omega), if_neg (by omega), if_neg (by omega), if_neg (by omega)]
                  exact ⟨by omega, by omega⟩
            · rw [if_neg h215, if_neg h215]
              by_cases h216 : q < 216
              · rw [if_pos h216, if_pos h216]
                rw [xs0_z (by omega) (by omega) (by omega) (by omega) (by omega) (by omega) (by omega) (by omega) (by omega) (by omega)]
                exact ⟨by omega, by omega⟩
              · rw [if_neg h216, if_neg h216]
                rw [xs0_z (by omega) (by omega) (by omega) (by omega) (by omega) (by omega) (by omega) (by omega) (by omega) (by omega)]
                exact ⟨by omega, by omega⟩
      · rw [if_neg h217, if_neg h217]
        by_cases h230 : q < 230
        · rw [if_pos h230, if_pos h230]
          by_cases h220 : q < 220
          · rw [if_pos h220, if_pos h220]
            by_cases h218 : q < 218
            · rw [if_pos h218, if_pos h218]
              rw [xs0_z (by omega) (by omega) (by omega) (by omega) (by omega) (by omega) (by omega) (by omega) (by omega) (by omega)]
              exact ⟨by omega, by omega⟩
            · rw [if_neg h218, if_neg h218]
              by_cases h219 : q < 219
              · rw [if_pos h219, if_pos h219]
                have hq : q = 218 := by omega
                subst hq
                by_cases hi : i < 7
                · have key : ∀ j, j < 7 → ([0, 0, 0, 0, 0, -2147483648, 0] : List Int).getD j 0 ≤ xs0 218 j ∧ xs0 218 j ≤ ([0, 0, 0, 0, 100, 2147483647, 8] : List Int).getD j 0 := by decide +kernel
                  exact key i hi
                · rw [x_gd [0, 0, 0, 0, 0, -2147483648, 0] i (show 7 ≤ i by omega), x_gd [0, 0, 0, 0, 100, 2147483647, 8] i (show 7 ≤ i by omega)]
                  unfold xs0
                  rw [if_neg (by omega), if_neg (by omega), if_neg (by omega), if_neg (by omega), if_neg (by omega)]
                  exact ⟨by omega, by omega⟩
              · rw [if_neg h219, if_neg h219]
                rw [xs0_z (by omega) (by omega) (by omega) (by omega) (by omega) (by omega) (by omega) (by omega) (by omega) (by omega)]
                exact ⟨by omega, by omega⟩
          · rw [if_neg h220, if_neg h220]
            by_cases h221 : q < 221
            · rw [if_pos h221, if_pos h221]
              rw [xs0_z (by omega) (by omega) (by omega) (by omega) (by omega) (by omega) (by omega) (by omega) (by omega) (by omega)]
              exact ⟨by omega, by omega⟩
            · rw [if_neg h221, if_neg h221]
              by_cases h229 : q < 229
              · rw [if_pos h229, if_pos h229]
                rw [xs0_z (by omega) (by omega) (by omega) (by omega) (by omega) (by omega) (by omega) (by omega) (by omega) (by omega)]
                exact ⟨by omega, by omega⟩
              · rw [if_neg h229, if_neg h229]
                rw [xs0_z (by omega) (by omega) (by omega) (by omega) (by omega) (by omega) (by omega) (by omega) (by omega) (by omega)]
                exact ⟨by omega, by omega⟩
        · rw [if_neg h230, if_neg h230]
          by_cases h233 : q < 233
          · rw [if_pos h233, if_pos h233]
            by_cases h231 : q < 231
            · rw [if_pos h231, if_pos h231]
              rw [xs0_z (by omega) (by omega) (by omega) (by omega) (by omega) (by omega) (by omega) (by omega) (by omega) (by omega)]
              exact ⟨by omega, by omega⟩
            · rw [if_neg h231, if_neg h231]
              by_cases h232 : q < 232
              · rw [if_pos h232, if_pos h232]
                have hq : q = 231 := by omega
                subst hq
                by_cases hi : i < 4
                · have key : ∀ j, j < 4 → ([0, 0, 0, 0] : List Int).getD j 0 ≤ xs0 231 j ∧ xs0 231 j ≤ ([0, 0, 0, 4] : List Int).getD j 0 := by decide +kernel
                  exact key i hi
                · rw [x_gd [0, 0, 0, 0] i (show 4 ≤ i by omega), x_gd [0, 0, 0, 4] i (show 4 ≤ i by omega)]
                  unfold xs0
                  rw [if_neg (by omega), if_neg (by omega), if_neg (by omega), if_neg (by omega), if_neg (by omega)]
                  exact ⟨by omega, by omega⟩
              · rw [if_neg h232, if_neg h232]
                rw [xs0_z (by omega) (by omega) (by omega) (by omega) (by omega) (by omega) (by omega) (by omega) (by omega) (by omega)]
                exact ⟨by omega, by omega⟩
          · rw [if_neg h233, if_neg h233]
            by_cases h238 : q < 238
            · rw [if_pos h238, if_pos h238]
              by_cases h234 : q < 234
              · rw [if_pos h234, if_pos h234]
                rw [xs0_z (by omega) (by omega) (by omega) (by omega) (by omega) (by omega) (by omega) (by omega) (by omega) (by omega)]
                exact ⟨by omega, by omega⟩
              · rw [if_neg h234, if_neg h234]
                rw [xs0_z (by omega) (by omega) (by omega) (by omega) (by omega) (by omega) (by omega) (by omega) (by omega) (by omega)]
                exact ⟨by omega, by omega⟩
            · rw [if_neg h238, if_neg h238]
              by_cases h239 : q < 239
              · rw [if_pos h239, if_pos h239]
                rw [xs0_z (by omega) (by omega) (by omega) (by omega) (by omega) (by omega) (by omega) (by omega) (by omega) (by omega)]
                exact ⟨by omega, by omega⟩
              · rw [if_neg h239, if_neg h239]
                rw [xs0_z (by omega) (by omega) (by omega) (by omega) (by omega) (by omega) (by omega) (by omega) (by omega) (by omega)]
                exact ⟨by omega, by omega⟩
  · rw [if_neg h243, if_neg h243]
    by_cases h269 : q < 269
    · rw [if_pos h269, if_pos h269]
      by_cases h256 : q < 256
      · rw [if_pos h256, if_pos h256]
        by_cases h249 : q < 249
        · rw [if_pos h249, if_pos h249]
          by_cases h246 : q < 246
          · rw [if_pos h246, if_pos h246]
            by_cases h244 : q < 244
            · rw [if_pos h244, if_pos h244]
              have hq : q = 243 := by omega
              subst hq
              by_cases hi : i < 13
              · have key : ∀ j, j < 13 → ([0, 0, 0, 0, 0, 0, 0, 0, 0, 0, 0, 0, -1] : List Int).getD j 0 ≤ xs0 243 j ∧ xs0 243 j ≤ ([0, 0, 0, 0, 0, 0, 0, 0, 0, 0, 0, 1, 9] : List Int).getD j 0 := by decide +kernel
                exact key i hi
              · rw [x_gd [0, 0, 0, 0, 0, 0, 0, 0, 0, 0, 0, 0, -1] i (show 13 ≤ i by omega), x_gd [0, 0, 0, 0, 0, 0, 0, 0, 0, 0, 0, 1, 9] i (show 13 ≤ i by omega)]
                unfold xs0
                rw [if_neg (by omega), if_neg (by omega), if_neg (by omega), if_neg (by omega), if_neg (by omega)]
                exact ⟨by omega, by omega⟩
            · rw [if_neg h244, if_neg h244]
              by_cases h245 : q < 245
              · rw [if_pos h245, if_pos h245]
                have hq : q = 244 := by omega
                subst hq
                by_cases hi : i < 8
                · have key : ∀ j, j < 8 → ([-2147483648, 0, 0, 0, 0, -2147483648, -2147483648, -2147483648] : List Int).getD j 0 ≤ xs0 244 j ∧ xs0 244 j ≤ ([2147483647, 0, 0, 0, 0, 2147483647, 2147483647, 2147483647] : List Int).getD j 0 := by decide +kernel
                  exact key i hi
                · rw [x_gd [-2147483648, 0, 0, 0, 0, -2147483648, -2147483648, -2147483648] i (show 8 ≤ i by omega), x_gd [2147483647, 0, 0, 0, 0, 2147483647, 2147483647, 2147483647] i (show 8 ≤ i by omega)]
                  unfold xs0
                  rw [if_neg (by omega), if_neg (by omega), if_neg (by omega), if_neg (by omega), if_neg (by omega)]
                  exact ⟨by omega, by omega⟩
              · rw [if_neg h245, if_neg h245]
                rw [xs0_z (by omega) (by omega) (by omega) (by omega) (by omega) (by omega) (by omega) (by omega) (by omega) (by omega)]
                exact ⟨by omega, by omega⟩
          · rw [if_neg h246, if_neg h246]
            by_cases h247 : q < 247
            · rw [if_pos h247, if_pos h247]
              rw [xs0_z (by omega) (by omega) (by omega) (by omega) (by omega) (by omega) (by omega) (by omega) (by omega) (by omega)]
              exact ⟨by omega, by omega⟩
            · rw [if_neg h247, if_neg h247]
              by_cases h248 : q < 248
              · rw [if_pos h248, if_pos h248]
                rw [xs0_z (by omega) (by omega) (by omega) (by omega) (by omega) (by omega) (by omega) (by omega) (by omega) (by omega)]
                exact ⟨by omega, by omega⟩
              · rw [if_neg h248, if_neg h248]
                rw [xs0_z (by omega) (by omega) (by omega) (by omega) (by omega) (by omega) (by omega) (by omega) (by omega) (by omega)]
                exact ⟨by omega, by omega⟩
        · rw [if_neg h249, if_neg h249]
          by_cases h252 : q < 252
          · rw [if_pos h252, if_pos h252]
            by_cases h250 : q < 250
            · rw [if_pos h250, if_pos h250]
              rw [xs0_z (by omega) (by omega) (by omega) (by omega) (by omega) (by omega) (by omega) (by omega) (by omega) (by omega)]
              exact ⟨by omega, by omega⟩
            · rw [if_neg h250, if_neg h250]
              by_cases h251 : q < 251
              · rw [if_pos h251, if_pos h251]
                rw [xs0_z (by omega) (by omega) (by omega) (by omega) (by omega) (by omega) (by omega) (by omega) (by omega) (by omega)]
                exact ⟨by omega, by omega⟩
              · rw [if_neg h251, if_neg h251]
                rw [xs0_z (by omega) (by omega) (by omega) (by omega) (by omega) (by omega) (by omega) (by omega) (by omega) (by omega)]
                exact ⟨by omega, by omega⟩
          · rw [if_neg h252, if_neg h252]
            by_cases h254 : q < 254
            · rw [if_pos h254, if_pos h254]
              by_cases h253 : q < 253
              · rw [if_pos h253, if_pos h253]
                rw [xs0_z (by omega) (by omega) (by omega) (by omega) (by omega) (by omega) (by omega) (by omega) (by omega) (by omega)]
                exact ⟨by omega, by omega⟩
              · rw [if_neg h253, if_neg h253]
                rw [xs0_z (by omega) (by omega) (by omega) (by omega) (by omega) (by omega) (by omega) (by omega) (by omega) (by omega)]
                exact ⟨by omega, by omega⟩
            · rw [if_neg h254, if_neg h254]
              by_cases h255 : q < 255
              · rw [if_pos h255, if_pos h255]
                rw [xs0_z (by omega) (by omega) (by omega) (by omega) (by omega) (by omega) (by omega) (by omega) (by omega) (by omega)]
                exact ⟨by omega, by omega⟩
              · rw [if_neg h255, if_neg h255]
                rw [xs0_z (by omega) (by omega) (by omega) (by omega) (by omega) (by omega) (by omega) (by omega) (by omega) (by omega)]
                exact ⟨by omega, by omega⟩
      · rw [if_neg h256, if_neg h256]
        by_cases h262 : q < 262
        · rw [if_pos h262, if_pos h262]
          by_cases h259 : q < 259
          · rw [if_pos h259, if_pos h259]
            by_cases h257 : q < 257
            · rw [if_pos h257, if_pos h257]
              have hq : q = 256 := by omega
              subst hq
              by_cases hi : i < 62
              · have key : ∀ j, j < 62 → ([0, 1, 0, 0, 0, 0, 0, 0, 0, 0, 0, 0, 0, 0, 0, 0, 0, 0, 0, 0, 0, 0, 0, 0, 0, 0, -2147483648, 0, 0, 0, 0, 0, 0, 0, 0, -2147483648, 0, -9223372036854775808, 0, 0, 0, 0, 0, 0, 0, 0, 0, 0, 0, 0, 0, 0, 0, 0, 0, 0, 0, 0, 0, 0, 0, 0] : List Int).getD j 0 ≤ xs0 256 j ∧ xs0 256 j ≤ ([9, 40, 0, 0, 0, 0, 40, 0, 0, 0, 120, 0, 0, 0, 0, 0, 0, 8, 0, 0, 64, 0, 0, 0, 0, 0, 2147483647, 0, 0, 0, 0, 0, 0, 0, 160, 2147483647, 160, 9223372036854775807, 160, 1100000, 60, 0, 0, 8, 0, 0, 0, 110, 120, 0, 5, 1, 0, 40, 40, 40, 40, 0, 4, 0, 0, 0] : List Int).getD j 0 := by decide +kernel
                exact key i hi
              · rw [x_gd [0, 1, 0, 0, 0, 0, 0, 0, 0, 0, 0, 0, 0, 0, 0, 0, 0, 0, 0, 0, 0, 0, 0, 0, 0, 0, -2147483648, 0, 0, 0, 0, 0, 0, 0, 0, -2147483648, 0, -9223372036854775808, 0, 0, 0, 0, 0, 0, 0, 0, 0, 0, 0, 0, 0, 0, 0, 0, 0, 0, 0, 0, 0, 0, 0, 0] i (show 62 ≤ i by omega), x_gd [9, 40, 0, 0, 0, 0, 40, 0, 0, 0, 120, 0, 0, 0, 0, 0, 0, 8, 0, 0, 64, 0, 0, 0, 0, 0, 2147483647, 0, 0, 0, 0, 0, 0, 0, 160, 2147483647, 160, 9223372036854775807, 160, 1100000, 60, 0, 0, 8, 0, 0, 0, 110, 120, 0, 5, 1, 0, 40, 40, 40, 40, 0, 4, 0, 0, 0] i (show 62 ≤ i by omega)]
                unfold xs0
                rw [if_neg (by omega), if_neg (by omega), if_neg (by omega), if_neg (by omega), if_neg (by omega)]
                exact ⟨by omega, by omega⟩
            · rw [if_neg h257, if_neg h257]
              by_cases h258 : q < 258
              · rw [if_pos h258, if_pos h258]
                rw [xs0_z (by omega) (by omega) (by omega) (by omega) (by omega) (by omega) (by omega) (by omega) (by omega) (by omega)]
                exact ⟨by omega, by omega⟩
              · rw [if_neg h258, if_neg h258]
                have hq : q = 258 := by omega
                subst hq
                show (-1 : Int) ≤ (if i = 0 then -1 else 0) ∧ (if i = 0 then -1 else 0) ≤ (9 : Int)
                split <;> exact ⟨by omega, by omega⟩
          · rw [if_neg h259, if_neg h259]
            by_cases h260 : q < 260
            · rw [if_pos h260, if_pos h260]
              have hq : q = 259 := by omega
              subst hq
              show (-1 : Int) ≤ (if i = 0 then -1 else 0) ∧ (if i = 0 then -1 else 0) ≤ (39 : Int)
              split <;> exact ⟨by omega, by omega⟩
            · rw [if_neg h260, if_neg h260]
              by_cases h261 : q < 261
              · rw [if_pos h261, if_pos h261]
                have hq : q = 260 := by omega
                subst hq
                show (-1 : Int) ≤ (if i < 10 then -1 else 0) ∧ (if i < 10 then -1 else 0) ≤ (39 : Int)
                split <;> exact ⟨by omega, by omega⟩
              · rw [if_neg h261, if_neg h261]
                rw [xs0_z (by omega) (by omega) (by omega) (by omega) (by omega) (by omega) (by omega) (by omega) (by omega) (by omega)]
                exact ⟨by omega, by omega⟩
        · rw [if_neg h262, if_neg h262]
          by_cases h265 : q < 265
          · rw [if_pos h265, if_pos h265]
            by_cases h263 : q < 263
            · rw [if_pos h263, if_pos h263]
              rw [xs0_z (by omega) (by omega) (by omega) (by omega) (by omega) (by omega) (by omega) (by omega) (by omega) (by omega)]
              exact ⟨by omega, by omega⟩
            · rw [if_neg h263, if_neg h263]
              by_cases h264 : q < 264
              · rw [if_pos h264, if_pos h264]
                rw [xs0_z (by omega) (by omega) (by omega) (by omega) (by omega) (by omega) (by omega) (by omega) (by omega) (by omega)]
                exact ⟨by omega, by omega⟩
              · rw [if_neg h264, if_neg h264]
                rw [xs0_z (by omega) (by omega) (by omega) (by omega) (by omega) (by omega) (by omega) (by omega) (by omega) (by omega)]
                exact ⟨by omega, by omega⟩
          · rw [if_neg h265, if_neg h265]
            by_cases h267 : q < 267
            · rw [if_pos h267, if_pos h267]
              by_cases h266 : q < 266
              · rw [if_pos h266, if_pos h266]
                rw [xs0_z (by omega) (by omega) (by omega) (by omega) (by omega) (by omega) (by omega) (by omega) (by omega) (by omega)]
                exact ⟨by omega, by omega⟩
              · rw [if_neg h266, if_neg h266]
                rw [xs0_z (by omega) (by omega) (by omega) (by omega) (by omega) (by omega) (by omega) (by omega) (by omega) (by omega)]
                exact ⟨by omega, by omega⟩
            · rw [if_neg h267, if_neg h267]
              by_cases h268 : q < 268
              · rw [if_pos h268, if_pos h268]
                rw [xs0_z (by omega) (by omega) (by omega) (by omega) (by omega) (by omega) (by omega) (by omega) (by omega) (by omega)]
                exact ⟨by omega, by omega⟩
              · rw [if_neg h268, if_neg h268]
                rw [xs0_z (by omega) (by omega) (by omega) (by omega) (by omega) (by omega) (by omega) (by omega) (by omega) (by omega)]
                exact ⟨by omega, by omega⟩
    · rw [if_neg h269, if_neg h269]
      by_cases h282 : q < 282
      · rw [if_pos h282, if_pos h282]
        by_cases h275 : q < 275
        · rw [if_pos h275, if_pos h275]
          by_cases h272 : q < 272
          · rw [if_pos h272, if_pos h272]
            by_cases h270 : q < 270
            · rw [if_pos h270, if_pos h270]
              rw [xs0_z (by omega) (by omega) (by omega) (by omega) (by omega) (by omega) (by omega) (by omega) (by omega) (by omega)]
              exact ⟨by omega, by omega⟩
            · rw [if_neg h270, if_neg h270]
              by_cases h271 : q < 271
              · rw [if_pos h271, if_pos h271]
                rw [xs0_z (by omega) (by omega) (by omega) (by omega) (by omega) (by omega) (by omega) (by omega) (by omega) (by omega)]
                exact ⟨by omega, by omega⟩
              · rw [if_neg h271, if_neg h271]
                rw [xs0_z (by omega) (by omega) (by omega) (by omega) (by omega) (by omega) (by omega) (by omega) (by omega) (by omega)]
                exact ⟨by omega, by omega⟩
          · rw [if_neg h272, if_neg h272]
            by_cases h273 : q < 273
            · rw [if_pos h273, if_pos h273]
              rw [xs0_z (by omega) (by omega) (by omega) (by omega) (by omega) (by omega) (by omega) (by omega) (by omega) (by omega)]
              exact ⟨by omega, by omega⟩
            · rw [if_neg h273, if_neg h273]
              by_cases h274 : q < 274
              · rw [if_pos h274, if_pos h274]
                rw [xs0_z (by omega) (by omega) (by omega) (by omega) (by omega) (by omega) (by omega) (by omega) (by omega) (by omega)]
                exact ⟨by omega, by omega⟩
              · rw [if_neg h274, if_neg h274]
                rw [xs0_z (by omega) (by omega) (by omega) (by omega) (by omega) (by omega) (by omega) (by omega) (by omega) (by omega)]
                exact ⟨by omega, by omega⟩
        · rw [if_neg h275, if_neg h275]
          by_cases h278 : q < 278
          · rw [if_pos h278, if_pos h278]
            by_cases h276 : q < 276
            · rw [if_pos h276, if_pos h276]
              rw [xs0_z (by omega) (by omega) (by omega) (by omega) (by omega) (by omega) (by omega) (by omega) (by omega) (by omega)]
              exact ⟨by omega, by omega⟩
            · rw [if_neg h276, if_neg h276]
              by_cases h277 : q < 277
              · rw [if_pos h277, if_pos h277]
                rw [xs0_z (by omega) (by omega) (by omega) (by omega) (by omega) (by omega) (by omega) (by omega) (by omega) (by omega)]
                exact ⟨by omega, by omega⟩
              · rw [if_neg h277, if_neg h277]
                rw [xs0_z (by omega) (by omega) (by omega) (by omega) (by omega) (by omega) (by omega) (by omega) (by omega) (by omega)]
                exact ⟨by omega, by omega⟩
          · rw [if_neg h278, if_neg h278]
            by_cases h280 : q < 280
            · rw [if_pos h280, if_pos h280]
              by_cases h279 : q < 279
              · rw [if_pos h279, if_pos h279]
                rw [xs0_z (by omega) (by omega) (by omega) (by omega) (by omega) (by omega) (by omega) (by omega) (by omega) (by omega)]
                exact ⟨by omega, by omega⟩
              · rw [if_neg h279, if_neg h279]
                rw [xs0_z (by omega) (by omega) (by omega) (by omega) (by omega) (by omega) (by omega) (by omega) (by omega) (by omega)]
                exact ⟨by omega, by omega⟩
            · rw [if_neg h280, if_neg h280]
              by_cases h281 : q < 281
              · rw [if_pos h281, if_pos h281]
                rw [xs0_z (by omega) (by omega) (by omega) (by omega) (by omega) (by omega) (by omega) (by omega) (by omega) (by omega)]
                exact ⟨by omega, by omega⟩
              · rw [if_neg h281, if_neg h281]
                rw [xs0_z (by omega) (by omega) (by omega) (by omega) (by omega) (by omega) (by omega) (by omega) (by omega) (by omega)]
                exact ⟨by omega, by omega⟩
      · rw [if_neg h282, if_neg h282]
        by_cases h288 : q < 288
        · rw [if_pos h288, if_pos h288]
          by_cases h285 : q < 285
          · rw [if_pos h285, if_pos h285]
            by_cases h283 : q < 283
            · rw [if_pos h283, if_pos h283]
              rw [xs0_z (by omega) (by omega) (by omega) (by omega) (by omega) (by omega) (by omega) (by omega) (by omega) (by omega)]
              exact ⟨by omega, by omega⟩
            · rw [if_neg h283, if_neg h283]
              by_cases h284 : q < 284
              · rw [if_pos h284, if_pos h284]
                rw [xs0_z (by omega) (by omega) (by omega) (by omega) (by omega) (by omega) (by omega) (by omega) (by omega) (by omega)]
                exact ⟨by omega, by omega⟩
              · rw [if_neg h284, if_neg h284]
                rw [xs0_z (by omega) (by omega) (by omega) (by omega) (by omega) (by omega) (by omega) (by omega) (by omega) (by omega)]
                exact ⟨by omega, by omega⟩
          · rw [if_neg h285, if_neg h285]
            by_cases h286 : q < 286
            · rw [if_pos h286, if_pos h286]
              rw [xs0_z (by omega) (by omega) (by omega) (by omega) (by omega) (by omega) (by omega) (by omega) (by omega) (by omega)]
              exact ⟨by omega, by omega⟩
            · rw [if_neg h286, if_neg h286]
              by_cases h287 : q < 287
              · rw [if_pos h287, if_pos h287]
                rw [xs0_z (by omega) (by omega) (by omega) (by omega) (by omega) (by omega) (by omega) (by omega) (by omega) (by omega)]
                exact ⟨by omega, by omega⟩
              · rw [if_neg h287, if_neg h287]
                rw [xs0_z (by omega) (by omega) (by omega) (by omega) (by omega) (by omega) (by omega) (by omega) (by omega) (by omega)]
                exact ⟨by omega, by omega⟩
        · rw [if_neg h288, if_neg h288]
          by_cases h291 : q < 291
          · rw [if_pos h291, if_pos h291]
            by_cases h289 : q < 289
            · rw [if_pos h289, if_pos h289]
              rw [xs0_z (by omega) (by omega) (by omega) (by omega) (by omega) (by omega) (by omega) (by omega) (by omega) (by omega)]
              exact ⟨by omega, by omega⟩
            · rw [if_neg h289, if_neg h289]
              by_cases h290 : q < 290
              · rw [if_pos h290, if_pos h290]
                rw [xs0_z (by omega) (by omega) (by omega) (by omega) (by omega) (by omega) (by omega) (by omega) (by omega) (by omega)]
                exact ⟨by omega, by omega⟩
              · rw [if_neg h290, if_neg h290]
                rw [xs0_z (by omega) (by omega) (by omega) (by omega) (by omega) (by omega) (by omega) (by omega) (by omega) (by omega)]
                exact ⟨by omega, by omega⟩
          · rw [if_neg h291, if_neg h291]
            by_cases h293 : q < 293
            · rw [if_pos h293, if_pos h293]
              by_cases h292 : q < 292
              · rw [if_pos h292, if_pos h292]
                rw [xs0_z (by omega) (by omega) (by omega) (by omega) (by omega) (by omega) (by omega) (by omega) (by omega) (by omega)]
                exact ⟨by omega, by omega⟩
              · rw [if_neg h292, if_neg h292]
                rw [xs0_z (by omega) (by omega) (by omega) (by omega) (by omega) (by omega) (by omega) (by omega) (by omega) (by omega)]
                exact ⟨by omega, by omega⟩
            · rw [if_neg h293, if_neg h293]
              by_cases h294 : q < 294
              · rw [if_pos h294, if_pos h294]
                rw [xs0_z (by omega) (by omega) (by omega) (by omega) (by omega) (by omega) (by omega) (by omega) (by omega) (by omega)]
                exact ⟨by omega, by omega⟩
              · rw [if_neg h294, if_neg h294]
                rw [xs0_z (by omega) (by omega) (by omega) (by omega) (by omega) (by omega) (by omega) (by omega) (by omega) (by omega)]
                exact ⟨by omega, by omega⟩
theorem J_0 : J xs0 := by
  refine ⟨?_, ⟨fun _ m => if m = 0 then 0 else 1, ?_⟩, ?_, ⟨fun m => if m = 0 then 0 else 1, ?_⟩, ?_, ?_, ?_, ?_, ?_⟩
  · intro r n r0 r1 r2
    have : r < 0 := r2
    omega
  · intro m e m0 m1 e0 e1
    have h : xs0 260 (10 * m + e).toNat = if (10 * m + e).toNat < 10 then -1 else 0 := rfl
    rw [h]
    by_cases hm : m = 0
    · rw [if_pos (by omega)]
      exact ⟨fun _ => rfl, fun z => absurd hm z⟩
    · rw [if_neg (by omega)]
      refine ⟨fun z => absurd z hm, fun _ => ⟨Int.le_refl 0, ?_⟩⟩
      show (if (0 : Int) = 0 then 0 else 1) < (if m = 0 then 0 else 1)
      rw [if_pos rfl, if_neg hm]
      decide
  · intro m e m0 m1 e0 e1
    have h : ∀ i, xs0 260 i = if i < 10 then -1 else 0 := fun i => rfl
    have h1 : xs0 256 1 = 1 := rfl
    have h0 : xs0 256 0 = 0 := rfl
    rw [h1, h0, h, h]
    refine ⟨by split <;> omega, fun _ => ?_⟩
    by_cases hm : m = 0
    · rw [if_pos (by omega), if_pos (by omega)]
    · rw [if_neg (by omega), if_neg (by omega)]
  · intro m m0 m1 hm
    have h : xs0 259 m.toNat = if m.toNat = 0 then -1 else 0 := rfl
    rw [h] at hm ⊢
    by_cases hz : m.toNat = 0
    · rw [if_pos hz] at hm; omega
    · rw [if_neg hz]
      show (if (0 : Int) = 0 then 0 else 1) < (if m = 0 then 0 else 1)
      rw [if_pos rfl, if_neg (by omega)]
      decide
  · refine ⟨rfl, rfl, fun m m0 m1 => ?_⟩
    have h : ∀ i, xs0 258 i = if i = 0 then -1 else 0 := fun i => rfl
    have h' : ∀ i, xs0 259 i = if i = 0 then -1 else 0 := fun i => rfl
    have h1 : xs0 256 1 = 1 := rfl
    have h0 : xs0 256 0 = 0 := rfl
    rw [h, h', h1, h0]
    refine ⟨by split <;> omega, fun hm _ => ?_⟩
    rw [if_pos (by omega)]
    decide
  · intro c c0 c1
    have : c < 0 := c1
    omega
  · refine ⟨rfl, by decide, fun k k0 k1 => ?_⟩
    show (0 : Int) ≤ 0
    decide
  · refine ⟨fun p p0 p1 => ?_, fun h => ?_⟩
    · show (0 : Int) < p
      omega
    · have : (0 : Int) < 0 := h
      omega
  · intro a a0 a1
    have : a < 0 := a1
    omega
