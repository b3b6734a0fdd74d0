theorem pm_t1 {w : Cond} (h : w ∈ tables_1_1) : w ∈ lw_tbl := List.mem_append_right _ (show w ∈ tables_1 from List.mem_append_left _ h)
theorem pm_t2 {w : Cond} (h : w ∈ tables_1_2) : w ∈ lw_tbl := List.mem_append_right _ (show w ∈ tables_1 from List.mem_append_right _ (List.mem_append_left _ h))
theorem pm_t3 {w : Cond} (h : w ∈ tables_1_3) : w ∈ lw_tbl := List.mem_append_right _ (show w ∈ tables_1 from List.mem_append_right _ (List.mem_append_right _ (List.mem_append_left _ h)))
theorem pm_t4 {w : Cond} (h : w ∈ tables_1_4) : w ∈ lw_tbl := List.mem_append_right _ (show w ∈ tables_1 from List.mem_append_right _ (List.mem_append_right _ (List.mem_append_right _ (List.mem_append_left _ h))))
theorem pm_t5 {w : Cond} (h : w ∈ tables_1_5) : w ∈ lw_tbl := List.mem_append_right _ (show w ∈ tables_1 from List.mem_append_right _ (List.mem_append_right _ (List.mem_append_right _ (List.mem_append_right _ (List.mem_append_left _ h)))))
theorem pm_t6 {w : Cond} (h : w ∈ tables_1_6) : w ∈ lw_tbl := List.mem_append_right _ (show w ∈ tables_1 from List.mem_append_right _ (List.mem_append_right _ (List.mem_append_right _ (List.mem_append_right _ (List.mem_append_right _ (List.mem_append_left _ h))))))
theorem pm_t7 {w : Cond} (h : w ∈ tables_1_7) : w ∈ lw_tbl := List.mem_append_right _ (show w ∈ tables_1 from List.mem_append_right _ (List.mem_append_right _ (List.mem_append_right _ (List.mem_append_right _ (List.mem_append_right _ (List.mem_append_right _ (h)))))))
def pm_okm (M : pmM) : Prop := (∀ e ∈ M.2.2.2.2.2.2.2.2.2.2, decode M.2.1 e.1 = .ok (e.2.1, pm_len e.2.1 e.2.2)) ∧ plainFor M.1 = true ∧ M.1.cls = pm_own M.2.2.2.2.2.2.2.2.1 ∧ (M.2.2.2.2.2.2.2.2.2.1 = 1 → M.1.name = "<init>") ∧ (M.2.2.2.2.2.2.2.2.1 ≠ 18 → Cond.code M.1 M.2.1 M.2.2.1 M.2.2.2.1 ∈ pm_ws)
theorem pm_d0 : ∀ e ∈ pmk0, decode cX0_init e.1 = .ok (e.2.1, pm_len e.2.1 e.2.2) := pm_walk 0 (by decide +kernel)
theorem pm_ok0 : pm_okm pmm0 := ⟨pm_d0, by decide +kernel, rfl, fun _ => rfl, fun _ => pm_wsin (pm_t2 (List.mem_of_getElem? (i := 16) rfl)) rfl⟩
theorem pm_d1 : ∀ e ∈ pmk1, decode cX0_has e.1 = .ok (e.2.1, pm_len e.2.1 e.2.2) := pm_walk 0 (by decide +kernel)
theorem pm_ok1 : pm_okm pmm1 := ⟨pm_d1, by decide +kernel, rfl, fun h => absurd h (by decide), fun _ => pm_wsin (pm_t4 (List.mem_of_getElem? (i := 178) rfl)) rfl⟩
theorem pm_d2 : ∀ e ∈ pmk2, decode cX0_read e.1 = .ok (e.2.1, pm_len e.2.1 e.2.2) := pm_walk 0 (by decide +kernel)
theorem pm_ok2 : pm_okm pmm2 := ⟨pm_d2, by decide +kernel, rfl, fun h => absurd h (by decide), fun _ => pm_wsin (pm_t4 (List.mem_of_getElem? (i := 114) rfl)) rfl⟩
theorem pm_d3 : ∀ e ∈ pmk3, decode cX0_readUpToOne e.1 = .ok (e.2.1, pm_len e.2.1 e.2.2) := pm_walk 0 (by decide +kernel)
theorem pm_ok3 : pm_okm pmm3 := ⟨pm_d3, by decide +kernel, rfl, fun h => absurd h (by decide), fun _ => pm_wsin (pm_t4 (List.mem_of_getElem? (i := 119) rfl)) rfl⟩
theorem pm_d4 : ∀ e ∈ pmk4, decode cX0_openBracket e.1 = .ok (e.2.1, pm_len e.2.1 e.2.2) := pm_walk 0 (by decide +kernel)
theorem pm_ok4 : pm_okm pmm4 := ⟨pm_d4, by decide +kernel, rfl, fun h => absurd h (by decide), fun _ => pm_wsin (pm_t4 (List.mem_of_getElem? (i := 124) rfl)) rfl⟩
theorem pm_d5 : ∀ e ∈ pmk5, decode cX0_readOne e.1 = .ok (e.2.1, pm_len e.2.1 e.2.2) := pm_walk 0 (by decide +kernel)
theorem pm_ok5 : pm_okm pmm5 := ⟨pm_d5, by decide +kernel, rfl, fun h => absurd h (by decide), fun _ => pm_wsin (pm_t4 (List.mem_of_getElem? (i := 136) rfl)) rfl⟩
theorem pm_d6 : ∀ e ∈ pmk6, decode cX0_oneKind e.1 = .ok (e.2.1, pm_len e.2.1 e.2.2) := pm_walk 0 (by decide +kernel)
theorem pm_ok6 : pm_okm pmm6 := ⟨pm_d6, by decide +kernel, rfl, fun h => absurd h (by decide), fun _ => pm_wsin (pm_t4 (List.mem_of_getElem? (i := 139) rfl)) rfl⟩
theorem pm_d7 : ∀ e ∈ pmk7, decode cX0_readNumber e.1 = .ok (e.2.1, pm_len e.2.1 e.2.2) := pm_walk 0 (by decide +kernel)
theorem pm_ok7 : pm_okm pmm7 := ⟨pm_d7, by decide +kernel, rfl, fun h => absurd h (by decide), fun _ => pm_wsin (pm_t4 (List.mem_of_getElem? (i := 147) rfl)) rfl⟩
theorem pm_d8 : ∀ e ∈ pmk8, decode cX0_readUpToJoin e.1 = .ok (e.2.1, pm_len e.2.1 e.2.2) := pm_walk 0 (by decide +kernel)
theorem pm_ok8 : pm_okm pmm8 := ⟨pm_d8, by decide +kernel, rfl, fun h => absurd h (by decide), fun _ => pm_wsin (pm_t4 (List.mem_of_getElem? (i := 156) rfl)) rfl⟩
theorem pm_d9 : ∀ e ∈ pmk9, decode cX0_closeBracket e.1 = .ok (e.2.1, pm_len e.2.1 e.2.2) := pm_walk 0 (by decide +kernel)
theorem pm_ok9 : pm_okm pmm9 := ⟨pm_d9, by decide +kernel, rfl, fun h => absurd h (by decide), fun _ => pm_wsin (pm_t4 (List.mem_of_getElem? (i := 160) rfl)) rfl⟩
theorem pm_d10 : ∀ e ∈ pmk10, decode cX0_joinBy e.1 = .ok (e.2.1, pm_len e.2.1 e.2.2) := pm_walk 0 (by decide +kernel)
theorem pm_ok10 : pm_okm pmm10 := ⟨pm_d10, by decide +kernel, rfl, fun h => absurd h (by decide), fun _ => pm_wsin (pm_t4 (List.mem_of_getElem? (i := 169) rfl)) rfl⟩
theorem pm_d11 : ∀ e ∈ pmk11, decode cX0_hold e.1 = .ok (e.2.1, pm_len e.2.1 e.2.2) := pm_walk 0 (by decide +kernel)
theorem pm_ok11 : pm_okm pmm11 := ⟨pm_d11, by decide +kernel, rfl, fun h => absurd h (by decide), fun _ => pm_wsin (pm_t4 (List.mem_of_getElem? (i := 129) rfl)) rfl⟩
theorem pm_d12 : ∀ e ∈ pmk12, decode cX0_releaseDownTo e.1 = .ok (e.2.1, pm_len e.2.1 e.2.2) := pm_walk 0 (by decide +kernel)
theorem pm_ok12 : pm_okm pmm12 := ⟨pm_d12, by decide +kernel, rfl, fun h => absurd h (by decide), fun _ => pm_wsin (pm_t4 (List.mem_of_getElem? (i := 164) rfl)) rfl⟩
theorem pm_d13 : ∀ e ∈ pmk13, decode cX0_emit e.1 = .ok (e.2.1, pm_len e.2.1 e.2.2) := pm_walk 0 (by decide +kernel)
theorem pm_ok13 : pm_okm pmm13 := ⟨pm_d13, by decide +kernel, rfl, fun h => absurd h (by decide), fun _ => pm_wsin (pm_t4 (List.mem_of_getElem? (i := 152) rfl)) rfl⟩
theorem pm_d14 : ∀ e ∈ pmk14, decode cX1_init e.1 = .ok (e.2.1, pm_len e.2.1 e.2.2) := pm_walk 0 (by decide +kernel)
theorem pm_ok14 : pm_okm pmm14 := ⟨pm_d14, by decide +kernel, rfl, fun _ => rfl, fun _ => pm_wsin (pm_t1 (List.mem_of_getElem? (i := 197) rfl)) rfl⟩
theorem pm_d15 : ∀ e ∈ pmk15, decode cX1_clear e.1 = .ok (e.2.1, pm_len e.2.1 e.2.2) := pm_walk 0 (by decide +kernel)
theorem pm_ok15 : pm_okm pmm15 := ⟨pm_d15, by decide +kernel, rfl, fun h => absurd h (by decide), fun _ => pm_wsin (pm_t3 (List.mem_of_getElem? (i := 14) rfl)) rfl⟩
theorem pm_d16 : ∀ e ∈ pmk16, decode cX1_setTo e.1 = .ok (e.2.1, pm_len e.2.1 e.2.2) := pm_walk 0 (by decide +kernel)
theorem pm_ok16 : pm_okm pmm16 := ⟨pm_d16, by decide +kernel, rfl, fun h => absurd h (by decide), fun _ => pm_wsin (pm_t3 (List.mem_of_getElem? (i := 10) rfl)) rfl⟩
theorem pm_d17 : ∀ e ∈ pmk17, decode cX1_apply e.1 = .ok (e.2.1, pm_len e.2.1 e.2.2) := pm_walk 0 (by decide +kernel)
theorem pm_ok17 : pm_okm pmm17 := ⟨pm_d17, by decide +kernel, rfl, fun h => absurd h (by decide), fun _ => pm_wsin (pm_t3 (List.mem_of_getElem? (i := 26) rfl)) rfl⟩
theorem pm_d18 : ∀ e ∈ pmk18, decode cX1_applyClause e.1 = .ok (e.2.1, pm_len e.2.1 e.2.2) := pm_walk 0 (by decide +kernel)
theorem pm_ok18 : pm_okm pmm18 := ⟨pm_d18, by decide +kernel, rfl, fun h => absurd h (by decide), fun _ => pm_wsin (pm_t3 (List.mem_of_getElem? (i := 30) rfl)) rfl⟩
theorem pm_d19 : ∀ e ∈ pmk19, decode cX1_hasKey e.1 = .ok (e.2.1, pm_len e.2.1 e.2.2) := pm_walk 0 (by decide +kernel)
theorem pm_ok19 : pm_okm pmm19 := ⟨pm_d19, by decide +kernel, rfl, fun h => absurd h (by decide), fun _ => pm_wsin (pm_t3 (List.mem_of_getElem? (i := 43) rfl)) rfl⟩
theorem pm_d20 : ∀ e ∈ pmk20, decode cX1_disallows e.1 = .ok (e.2.1, pm_len e.2.1 e.2.2) := pm_walk 0 (by decide +kernel)
theorem pm_ok20 : pm_okm pmm20 := ⟨pm_d20, by decide +kernel, rfl, fun h => absurd h (by decide), fun _ => pm_wsin (pm_t3 (List.mem_of_getElem? (i := 40) rfl)) rfl⟩
theorem pm_d21 : ∀ e ∈ pmk21, decode cX1_barsTwo e.1 = .ok (e.2.1, pm_len e.2.1 e.2.2) := pm_walk 0 (by decide +kernel)
theorem pm_ok21 : pm_okm pmm21 := ⟨pm_d21, by decide +kernel, rfl, fun h => absurd h (by decide), fun _ => pm_wsin (pm_t3 (List.mem_of_getElem? (i := 47) rfl)) rfl⟩
theorem pm_d22 : ∀ e ∈ pmk22, decode cX1_countSense e.1 = .ok (e.2.1, pm_len e.2.1 e.2.2) := pm_walk 0 (by decide +kernel)
theorem pm_ok22 : pm_okm pmm22 := ⟨pm_d22, by decide +kernel, rfl, fun h => absurd h (by decide), fun _ => pm_wsin (pm_t3 (List.mem_of_getElem? (i := 51) rfl)) rfl⟩
theorem pm_d23 : ∀ e ∈ pmk23, decode cX2_init e.1 = .ok (e.2.1, pm_len e.2.1 e.2.2) := pm_walk 0 (by decide +kernel)
theorem pm_ok23 : pm_okm pmm23 := ⟨pm_d23, by decide +kernel, rfl, fun _ => rfl, fun _ => pm_wsin (pm_t1 (List.mem_of_getElem? (i := 85) rfl)) rfl⟩
theorem pm_d24 : ∀ e ∈ pmk24, decode cX2_has e.1 = .ok (e.2.1, pm_len e.2.1 e.2.2) := pm_walk 0 (by decide +kernel)
theorem pm_ok24 : pm_okm pmm24 := ⟨pm_d24, by decide +kernel, rfl, fun h => absurd h (by decide), fun _ => pm_wsin (pm_t3 (List.mem_of_getElem? (i := 64) rfl)) rfl⟩
theorem pm_d25 : ∀ e ∈ pmk25, decode cX2_add e.1 = .ok (e.2.1, pm_len e.2.1 e.2.2) := pm_walk 0 (by decide +kernel)
theorem pm_ok25 : pm_okm pmm25 := ⟨pm_d25, by decide +kernel, rfl, fun h => absurd h (by decide), fun _ => pm_wsin (pm_t3 (List.mem_of_getElem? (i := 123) rfl)) rfl⟩
theorem pm_d26 : ∀ e ∈ pmk26, decode cX2_doubters e.1 = .ok (e.2.1, pm_len e.2.1 e.2.2) := pm_walk 0 (by decide +kernel)
theorem pm_ok26 : pm_okm pmm26 := ⟨pm_d26, by decide +kernel, rfl, fun h => absurd h (by decide), fun _ => pm_wsin (pm_t3 (List.mem_of_getElem? (i := 60) rfl)) rfl⟩
theorem pm_d27 : ∀ e ∈ pmk27, decode cX2_picturesOf e.1 = .ok (e.2.1, pm_len e.2.1 e.2.2) := pm_walk 0 (by decide +kernel)
theorem pm_ok27 : pm_okm pmm27 := ⟨pm_d27, by decide +kernel, rfl, fun h => absurd h (by decide), fun _ => pm_wsin (pm_t4 (List.mem_of_getElem? (i := 191) rfl)) rfl⟩
theorem pm_d28 : ∀ e ∈ pmk28, decode cX3_init e.1 = .ok (e.2.1, pm_len e.2.1 e.2.2) := pm_walk 0 (by decide +kernel)
theorem pm_ok28 : pm_okm pmm28 := ⟨pm_d28, by decide +kernel, rfl, fun _ => rfl, fun _ => pm_wsin (pm_t1 (List.mem_of_getElem? (i := 64) rfl)) rfl⟩
theorem pm_d29 : ∀ e ∈ pmk29, decode cX3_has e.1 = .ok (e.2.1, pm_len e.2.1 e.2.2) := pm_walk 0 (by decide +kernel)
theorem pm_ok29 : pm_okm pmm29 := ⟨pm_d29, by decide +kernel, rfl, fun h => absurd h (by decide), fun _ => pm_wsin (pm_t3 (List.mem_of_getElem? (i := 104) rfl)) rfl⟩
theorem pm_d30 : ∀ e ∈ pmk30, decode cX3_add e.1 = .ok (e.2.1, pm_len e.2.1 e.2.2) := pm_walk 0 (by decide +kernel)
theorem pm_ok30 : pm_okm pmm30 := ⟨pm_d30, by decide +kernel, rfl, fun h => absurd h (by decide), fun _ => pm_wsin (pm_t3 (List.mem_of_getElem? (i := 111) rfl)) rfl⟩
theorem pm_d31 : ∀ e ∈ pmk31, decode cX3_all e.1 = .ok (e.2.1, pm_len e.2.1 e.2.2) := pm_walk 0 (by decide +kernel)
theorem pm_ok31 : pm_okm pmm31 := ⟨pm_d31, by decide +kernel, rfl, fun h => absurd h (by decide), fun _ => pm_wsin (pm_t4 (List.mem_of_getElem? (i := 204) rfl)) rfl⟩
theorem pm_d32 : ∀ e ∈ pmk32, decode cX3_ofYears e.1 = .ok (e.2.1, pm_len e.2.1 e.2.2) := pm_walk 0 (by decide +kernel)
theorem pm_ok32 : pm_okm pmm32 := ⟨pm_d32, by decide +kernel, rfl, fun h => absurd h (by decide), fun _ => pm_wsin (pm_t4 (List.mem_of_getElem? (i := 195) rfl)) rfl⟩
theorem pm_d33 : ∀ e ∈ pmk33, decode cX3_atPlace e.1 = .ok (e.2.1, pm_len e.2.1 e.2.2) := pm_walk 0 (by decide +kernel)
theorem pm_ok33 : pm_okm pmm33 := ⟨pm_d33, by decide +kernel, rfl, fun h => absurd h (by decide), fun _ => pm_wsin (pm_t4 (List.mem_of_getElem? (i := 200) rfl)) rfl⟩
theorem pm_d34 : ∀ e ∈ pmk34, decode cX4_init e.1 = .ok (e.2.1, pm_len e.2.1 e.2.2) := pm_walk 0 (by decide +kernel)
theorem pm_ok34 : pm_okm pmm34 := ⟨pm_d34, by decide +kernel, rfl, fun _ => rfl, fun _ => pm_wsin (pm_t1 (List.mem_of_getElem? (i := 164) rfl)) rfl⟩
theorem pm_d35 : ∀ e ∈ pmk35, decode cX4_read e.1 = .ok (e.2.1, pm_len e.2.1 e.2.2) := pm_walk 0 (by decide +kernel)
theorem pm_ok35 : pm_okm pmm35 := ⟨pm_d35, by decide +kernel, rfl, fun h => absurd h (by decide), fun _ => pm_wsin (pm_t3 (List.mem_of_getElem? (i := 191) rfl)) rfl⟩
theorem pm_d36 : ∀ e ∈ pmk36, decode cX4_clauseKind e.1 = .ok (e.2.1, pm_len e.2.1 e.2.2) := pm_walk 0 (by decide +kernel)
theorem pm_ok36 : pm_okm pmm36 := ⟨pm_d36, by decide +kernel, rfl, fun h => absurd h (by decide), fun _ => pm_wsin (pm_t3 (List.mem_of_getElem? (i := 213) rfl)) rfl⟩
theorem pm_d37 : ∀ e ∈ pmk37, decode cX4_readClause e.1 = .ok (e.2.1, pm_len e.2.1 e.2.2) := pm_walk 0 (by decide +kernel)
theorem pm_ok37 : pm_okm pmm37 := ⟨pm_d37, by decide +kernel, rfl, fun h => absurd h (by decide), fun _ => pm_wsin (pm_t3 (List.mem_of_getElem? (i := 210) rfl)) rfl⟩
theorem pm_d38 : ∀ e ∈ pmk38, decode cX4_readFirst e.1 = .ok (e.2.1, pm_len e.2.1 e.2.2) := pm_walk 0 (by decide +kernel)
theorem pm_ok38 : pm_okm pmm38 := ⟨pm_d38, by decide +kernel, rfl, fun h => absurd h (by decide), fun _ => pm_wsin (pm_t4 (List.mem_of_getElem? (i := 39) rfl)) rfl⟩
theorem pm_d39 : ∀ e ∈ pmk39, decode cX4_readSecond e.1 = .ok (e.2.1, pm_len e.2.1 e.2.2) := pm_walk 0 (by decide +kernel)
theorem pm_ok39 : pm_okm pmm39 := ⟨pm_d39, by decide +kernel, rfl, fun h => absurd h (by decide), fun _ => pm_wsin (pm_t4 (List.mem_of_getElem? (i := 48) rfl)) rfl⟩
theorem pm_d40 : ∀ e ∈ pmk40, decode cX4_readSense e.1 = .ok (e.2.1, pm_len e.2.1 e.2.2) := pm_walk 0 (by decide +kernel)
theorem pm_ok40 : pm_okm pmm40 := ⟨pm_d40, by decide +kernel, rfl, fun h => absurd h (by decide), fun _ => pm_wsin (pm_t4 (List.mem_of_getElem? (i := 51) rfl)) rfl⟩
theorem pm_d41 : ∀ e ∈ pmk41, decode cX4_counting e.1 = .ok (e.2.1, pm_len e.2.1 e.2.2) := pm_walk 0 (by decide +kernel)
theorem pm_ok41 : pm_okm pmm41 := ⟨pm_d41, by decide +kernel, rfl, fun h => absurd h (by decide), fun _ => pm_wsin (pm_t3 (List.mem_of_getElem? (i := 22) rfl)) rfl⟩
theorem pm_d42 : ∀ e ∈ pmk42, decode cX5_init e.1 = .ok (e.2.1, pm_len e.2.1 e.2.2) := pm_walk 0 (by decide +kernel)
theorem pm_ok42 : pm_okm pmm42 := ⟨pm_d42, by decide +kernel, rfl, fun _ => rfl, fun _ => pm_wsin (pm_t2 (List.mem_of_getElem? (i := 49) rfl)) rfl⟩
theorem pm_d43 : ∀ e ∈ pmk43, decode cX5_has e.1 = .ok (e.2.1, pm_len e.2.1 e.2.2) := pm_walk 0 (by decide +kernel)
theorem pm_ok43 : pm_okm pmm43 := ⟨pm_d43, by decide +kernel, rfl, fun h => absurd h (by decide), fun _ => pm_wsin (pm_t5 (List.mem_of_getElem? (i := 29) rfl)) rfl⟩
theorem pm_d44 : ∀ e ∈ pmk44, decode cX5_add e.1 = .ok (e.2.1, pm_len e.2.1 e.2.2) := pm_walk 0 (by decide +kernel)
theorem pm_ok44 : pm_okm pmm44 := ⟨pm_d44, by decide +kernel, rfl, fun h => absurd h (by decide), fun _ => pm_wsin (pm_t5 (List.mem_of_getElem? (i := 21) rfl)) rfl⟩
theorem pm_d45 : ∀ e ∈ pmk45, decode cX5_addMark e.1 = .ok (e.2.1, pm_len e.2.1 e.2.2) := pm_walk 0 (by decide +kernel)
theorem pm_ok45 : pm_okm pmm45 := ⟨pm_d45, by decide +kernel, rfl, fun h => absurd h (by decide), fun _ => pm_wsin (pm_t5 (List.mem_of_getElem? (i := 33) rfl)) rfl⟩
theorem pm_d46 : ∀ e ∈ pmk46, decode cX6_init e.1 = .ok (e.2.1, pm_len e.2.1 e.2.2) := pm_walk 0 (by decide +kernel)
theorem pm_ok46 : pm_okm pmm46 := ⟨pm_d46, by decide +kernel, rfl, fun _ => rfl, fun _ => pm_wsin (pm_t1 (List.mem_of_getElem? (i := 127) rfl)) rfl⟩
theorem pm_d47 : ∀ e ∈ pmk47, decode cX6_add e.1 = .ok (e.2.1, pm_len e.2.1 e.2.2) := pm_walk 0 (by decide +kernel)
theorem pm_ok47 : pm_okm pmm47 := ⟨pm_d47, by decide +kernel, rfl, fun h => absurd h (by decide), fun _ => pm_wsin (pm_t3 (List.mem_of_getElem? (i := 183) rfl)) rfl⟩
theorem pm_d48 : ∀ e ∈ pmk48, decode cX6_startReading e.1 = .ok (e.2.1, pm_len e.2.1 e.2.2) := pm_walk 0 (by decide +kernel)
theorem pm_ok48 : pm_okm pmm48 := ⟨pm_d48, by decide +kernel, rfl, fun h => absurd h (by decide), fun _ => pm_wsin (pm_t3 (List.mem_of_getElem? (i := 195) rfl)) rfl⟩
theorem pm_d49 : ∀ e ∈ pmk49, decode cX6_byteAt e.1 = .ok (e.2.1, pm_len e.2.1 e.2.2) := pm_walk 0 (by decide +kernel)
theorem pm_ok49 : pm_okm pmm49 := ⟨pm_d49, by decide +kernel, rfl, fun h => absurd h (by decide), fun _ => pm_wsin (pm_t3 (List.mem_of_getElem? (i := 203) rfl)) rfl⟩
theorem pm_d50 : ∀ e ∈ pmk50, decode cX6_kindOf e.1 = .ok (e.2.1, pm_len e.2.1 e.2.2) := pm_walk 0 (by decide +kernel)
theorem pm_ok50 : pm_okm pmm50 := ⟨pm_d50, by decide +kernel, rfl, fun h => absurd h (by decide), fun _ => pm_wsin (pm_t3 (List.mem_of_getElem? (i := 206) rfl)) rfl⟩
theorem pm_d51 : ∀ e ∈ pmk51, decode cX6_advance e.1 = .ok (e.2.1, pm_len e.2.1 e.2.2) := pm_walk 0 (by decide +kernel)
theorem pm_ok51 : pm_okm pmm51 := ⟨pm_d51, by decide +kernel, rfl, fun h => absurd h (by decide), fun _ => pm_wsin (pm_t3 (List.mem_of_getElem? (i := 199) rfl)) rfl⟩
theorem pm_d52 : ∀ e ∈ pmk52, decode cX6_fail e.1 = .ok (e.2.1, pm_len e.2.1 e.2.2) := pm_walk 0 (by decide +kernel)
theorem pm_ok52 : pm_okm pmm52 := ⟨pm_d52, by decide +kernel, rfl, fun h => absurd h (by decide), fun _ => pm_wsin (pm_t4 (List.mem_of_getElem? (i := 35) rfl)) rfl⟩
theorem pm_d53 : ∀ e ∈ pmk53, decode cX6_isWord e.1 = .ok (e.2.1, pm_len e.2.1 e.2.2) := pm_walk 0 (by decide +kernel)
theorem pm_ok53 : pm_okm pmm53 := ⟨pm_d53, by decide +kernel, rfl, fun h => absurd h (by decide), fun _ => pm_wsin (pm_t3 (List.mem_of_getElem? (i := 218) rfl)) rfl⟩
theorem pm_d54 : ∀ e ∈ pmk54, decode cX6_isSign e.1 = .ok (e.2.1, pm_len e.2.1 e.2.2) := pm_walk 0 (by decide +kernel)
theorem pm_ok54 : pm_okm pmm54 := ⟨pm_d54, by decide +kernel, rfl, fun h => absurd h (by decide), fun _ => pm_wsin (pm_t4 (List.mem_of_getElem? (i := 69) rfl)) rfl⟩
theorem pm_d55 : ∀ e ∈ pmk55, decode cX6_takeWord e.1 = .ok (e.2.1, pm_len e.2.1 e.2.2) := pm_walk 0 (by decide +kernel)
theorem pm_ok55 : pm_okm pmm55 := ⟨pm_d55, by decide +kernel, rfl, fun h => absurd h (by decide), fun _ => pm_wsin (pm_t4 (List.mem_of_getElem? (i := 59) rfl)) rfl⟩
theorem pm_d56 : ∀ e ∈ pmk56, decode cX6_takeSign e.1 = .ok (e.2.1, pm_len e.2.1 e.2.2) := pm_walk 0 (by decide +kernel)
theorem pm_ok56 : pm_okm pmm56 := ⟨pm_d56, by decide +kernel, rfl, fun h => absurd h (by decide), fun _ => pm_wsin (pm_t4 (List.mem_of_getElem? (i := 65) rfl)) rfl⟩
theorem pm_d57 : ∀ e ∈ pmk57, decode cX6_takeNumber e.1 = .ok (e.2.1, pm_len e.2.1 e.2.2) := pm_walk 0 (by decide +kernel)
theorem pm_ok57 : pm_okm pmm57 := ⟨pm_d57, by decide +kernel, rfl, fun h => absurd h (by decide), fun _ => pm_wsin (pm_t4 (List.mem_of_getElem? (i := 43) rfl)) rfl⟩
theorem pm_d58 : ∀ e ∈ pmk58, decode cX7_init e.1 = .ok (e.2.1, pm_len e.2.1 e.2.2) := pm_walk 0 (by decide +kernel)
theorem pm_ok58 : pm_okm pmm58 := ⟨pm_d58, by decide +kernel, rfl, fun _ => rfl, fun _ => pm_wsin (pm_t1 (List.mem_of_getElem? (i := 32) rfl)) rfl⟩
theorem pm_d59 : ∀ e ∈ pmk59, decode cX7_has e.1 = .ok (e.2.1, pm_len e.2.1 e.2.2) := pm_walk 0 (by decide +kernel)
theorem pm_ok59 : pm_okm pmm59 := ⟨pm_d59, by decide +kernel, rfl, fun h => absurd h (by decide), fun _ => pm_wsin (pm_t2 (List.mem_of_getElem? (i := 171) rfl)) rfl⟩
theorem pm_d60 : ∀ e ∈ pmk60, decode cX7_add e.1 = .ok (e.2.1, pm_len e.2.1 e.2.2) := pm_walk 0 (by decide +kernel)
theorem pm_ok60 : pm_okm pmm60 := ⟨pm_d60, by decide +kernel, rfl, fun h => absurd h (by decide), fun _ => pm_wsin (pm_t2 (List.mem_of_getElem? (i := 188) rfl)) rfl⟩
theorem pm_d61 : ∀ e ∈ pmk61, decode cX7_setParent e.1 = .ok (e.2.1, pm_len e.2.1 e.2.2) := pm_walk 0 (by decide +kernel)
theorem pm_ok61 : pm_okm pmm61 := ⟨pm_d61, by decide +kernel, rfl, fun h => absurd h (by decide), fun _ => pm_wsin (pm_t2 (List.mem_of_getElem? (i := 192) rfl)) rfl⟩
theorem pm_d62 : ∀ e ∈ pmk62, decode cX7_parentIn e.1 = .ok (e.2.1, pm_len e.2.1 e.2.2) := pm_walk 0 (by decide +kernel)
theorem pm_ok62 : pm_okm pmm62 := ⟨pm_d62, by decide +kernel, rfl, fun h => absurd h (by decide), fun _ => pm_wsin (pm_t2 (List.mem_of_getElem? (i := 211) rfl)) rfl⟩
theorem pm_d63 : ∀ e ∈ pmk63, decode cX7_isEnded e.1 = .ok (e.2.1, pm_len e.2.1 e.2.2) := pm_walk 0 (by decide +kernel)
theorem pm_ok63 : pm_okm pmm63 := ⟨pm_d63, by decide +kernel, rfl, fun h => absurd h (by decide), fun _ => pm_wsin (pm_t2 (List.mem_of_getElem? (i := 180) rfl)) rfl⟩
theorem pm_d64 : ∀ e ∈ pmk64, decode cX7_isThere e.1 = .ok (e.2.1, pm_len e.2.1 e.2.2) := pm_walk 0 (by decide +kernel)
theorem pm_ok64 : pm_okm pmm64 := ⟨pm_d64, by decide +kernel, rfl, fun h => absurd h (by decide), fun _ => pm_wsin (pm_t2 (List.mem_of_getElem? (i := 175) rfl)) rfl⟩
theorem pm_d65 : ∀ e ∈ pmk65, decode cX7_pathUp e.1 = .ok (e.2.1, pm_len e.2.1 e.2.2) := pm_walk 0 (by decide +kernel)
theorem pm_ok65 : pm_okm pmm65 := ⟨pm_d65, by decide +kernel, rfl, fun h => absurd h (by decide), fun _ => pm_wsin (pm_t2 (List.mem_of_getElem? (i := 207) rfl)) rfl⟩
theorem pm_d66 : ∀ e ∈ pmk66, decode cX7_isBelow e.1 = .ok (e.2.1, pm_len e.2.1 e.2.2) := pm_walk 0 (by decide +kernel)
theorem pm_ok66 : pm_okm pmm66 := ⟨pm_d66, by decide +kernel, rfl, fun h => absurd h (by decide), fun _ => pm_wsin (pm_t2 (List.mem_of_getElem? (i := 203) rfl)) rfl⟩
theorem pm_d67 : ∀ e ∈ pmk67, decode cX7_countBelow e.1 = .ok (e.2.1, pm_len e.2.1 e.2.2) := pm_walk 0 (by decide +kernel)
theorem pm_ok67 : pm_okm pmm67 := ⟨pm_d67, by decide +kernel, rfl, fun h => absurd h (by decide), fun _ => pm_wsin (pm_t2 (List.mem_of_getElem? (i := 224) rfl)) rfl⟩
theorem pm_d68 : ∀ e ∈ pmk68, decode cX7_countThere e.1 = .ok (e.2.1, pm_len e.2.1 e.2.2) := pm_walk 0 (by decide +kernel)
theorem pm_ok68 : pm_okm pmm68 := ⟨pm_d68, by decide +kernel, rfl, fun h => absurd h (by decide), fun _ => pm_wsin (pm_t3 (List.mem_of_getElem? (i := 162) rfl)) rfl⟩
theorem pm_d69 : ∀ e ∈ pmk69, decode cX7_followJoins e.1 = .ok (e.2.1, pm_len e.2.1 e.2.2) := pm_walk 0 (by decide +kernel)
theorem pm_ok69 : pm_okm pmm69 := ⟨pm_d69, by decide +kernel, rfl, fun h => absurd h (by decide), fun _ => pm_wsin (pm_t3 (List.mem_of_getElem? (i := 68) rfl)) rfl⟩
theorem pm_d70 : ∀ e ∈ pmk70, decode cX7_firstThere e.1 = .ok (e.2.1, pm_len e.2.1 e.2.2) := pm_walk 0 (by decide +kernel)
theorem pm_ok70 : pm_okm pmm70 := ⟨pm_d70, by decide +kernel, rfl, fun h => absurd h (by decide), fun _ => pm_wsin (pm_t3 (List.mem_of_getElem? (i := 73) rfl)) rfl⟩
theorem pm_d71 : ∀ e ∈ pmk71, decode cX7_raised e.1 = .ok (e.2.1, pm_len e.2.1 e.2.2) := pm_walk 0 (by decide +kernel)
theorem pm_ok71 : pm_okm pmm71 := ⟨pm_d71, by decide +kernel, rfl, fun h => absurd h (by decide), fun _ => pm_wsin (pm_t3 (List.mem_of_getElem? (i := 78) rfl)) rfl⟩
theorem pm_d72 : ∀ e ∈ pmk72, decode cX8_init e.1 = .ok (e.2.1, pm_len e.2.1 e.2.2) := pm_walk 0 (by decide +kernel)
theorem pm_ok72 : pm_okm pmm72 := ⟨pm_d72, by decide +kernel, rfl, fun _ => rfl, fun _ => pm_wsin (pm_t2 (List.mem_of_getElem? (i := 74) rfl)) rfl⟩
theorem pm_d73 : ∀ e ∈ pmk73, decode cX8_forget e.1 = .ok (e.2.1, pm_len e.2.1 e.2.2) := pm_walk 0 (by decide +kernel)
theorem pm_ok73 : pm_okm pmm73 := ⟨pm_d73, by decide +kernel, rfl, fun h => absurd h (by decide), fun _ => pm_wsin (pm_t2 (List.mem_of_getElem? (i := 184) rfl)) rfl⟩
theorem pm_d74 : ∀ e ∈ pmk74, decode cX8_judge e.1 = .ok (e.2.1, pm_len e.2.1 e.2.2) := pm_walk 0 (by decide +kernel)
theorem pm_ok74 : pm_okm pmm74 := ⟨pm_d74, by decide +kernel, rfl, fun h => absurd h (by decide), fun _ => pm_wsin (pm_t3 (List.mem_of_getElem? (i := 5) rfl)) rfl⟩
theorem pm_d75 : ∀ e ∈ pmk75, decode cX8_whyWrong e.1 = .ok (e.2.1, pm_len e.2.1 e.2.2) := pm_walk 0 (by decide +kernel)
theorem pm_ok75 : pm_okm pmm75 := ⟨pm_d75, by decide +kernel, rfl, fun h => absurd h (by decide), fun _ => pm_wsin (pm_t3 (List.mem_of_getElem? (i := 34) rfl)) rfl⟩
theorem pm_d76 : ∀ e ∈ pmk76, decode cX8_lookIn e.1 = .ok (e.2.1, pm_len e.2.1 e.2.2) := pm_walk 0 (by decide +kernel)
theorem pm_ok76 : pm_okm pmm76 := ⟨pm_d76, by decide +kernel, rfl, fun h => absurd h (by decide), fun _ => pm_wsin (pm_t3 (List.mem_of_getElem? (i := 1) rfl)) rfl⟩
theorem pm_d77 : ∀ e ∈ pmk77, decode cX8_setMeaning e.1 = .ok (e.2.1, pm_len e.2.1 e.2.2) := pm_walk 0 (by decide +kernel)
theorem pm_ok77 : pm_okm pmm77 := ⟨pm_d77, by decide +kernel, rfl, fun h => absurd h (by decide), fun _ => pm_wsin (pm_t3 (List.mem_of_getElem? (i := 56) rfl)) rfl⟩
theorem pm_d78 : ∀ e ∈ pmk78, decode cX8_shows e.1 = .ok (e.2.1, pm_len e.2.1 e.2.2) := pm_walk 0 (by decide +kernel)
theorem pm_ok78 : pm_okm pmm78 := ⟨pm_d78, by decide +kernel, rfl, fun h => absurd h (by decide), fun _ => pm_wsin (pm_t5 (List.mem_of_getElem? (i := 7) rfl)) rfl⟩
theorem pm_d79 : ∀ e ∈ pmk79, decode cX8_showing e.1 = .ok (e.2.1, pm_len e.2.1 e.2.2) := pm_walk 0 (by decide +kernel)
theorem pm_ok79 : pm_okm pmm79 := ⟨pm_d79, by decide +kernel, rfl, fun h => absurd h (by decide), fun _ => pm_wsin (pm_t3 (List.mem_of_getElem? (i := 82) rfl)) rfl⟩
theorem pm_d80 : ∀ e ∈ pmk80, decode cX8_showingAny e.1 = .ok (e.2.1, pm_len e.2.1 e.2.2) := pm_walk 0 (by decide +kernel)
theorem pm_ok80 : pm_okm pmm80 := ⟨pm_d80, by decide +kernel, rfl, fun h => absurd h (by decide), fun _ => pm_wsin (pm_t3 (List.mem_of_getElem? (i := 86) rfl)) rfl⟩
theorem pm_d81 : ∀ e ∈ pmk81, decode cX8_meansBelow e.1 = .ok (e.2.1, pm_len e.2.1 e.2.2) := pm_walk 0 (by decide +kernel)
theorem pm_ok81 : pm_okm pmm81 := ⟨pm_d81, by decide +kernel, rfl, fun h => absurd h (by decide), fun _ => pm_wsin (pm_t3 (List.mem_of_getElem? (i := 153) rfl)) rfl⟩
theorem pm_d82 : ∀ e ∈ pmk82, decode cX8_seenBy e.1 = .ok (e.2.1, pm_len e.2.1 e.2.2) := pm_walk 0 (by decide +kernel)
theorem pm_ok82 : pm_okm pmm82 := ⟨pm_d82, by decide +kernel, rfl, fun h => absurd h (by decide), fun _ => pm_wsin (pm_t4 (List.mem_of_getElem? (i := 216) rfl)) rfl⟩
theorem pm_d83 : ∀ e ∈ pmk83, decode cX8_isLacking e.1 = .ok (e.2.1, pm_len e.2.1 e.2.2) := pm_walk 0 (by decide +kernel)
theorem pm_ok83 : pm_okm pmm83 := ⟨pm_d83, by decide +kernel, rfl, fun h => absurd h (by decide), fun _ => pm_wsin (pm_t3 (List.mem_of_getElem? (i := 144) rfl)) rfl⟩
theorem pm_d84 : ∀ e ∈ pmk84, decode cX8_countWrong e.1 = .ok (e.2.1, pm_len e.2.1 e.2.2) := pm_walk 0 (by decide +kernel)
theorem pm_ok84 : pm_okm pmm84 := ⟨pm_d84, by decide +kernel, rfl, fun h => absurd h (by decide), fun _ => pm_wsin (pm_t3 (List.mem_of_getElem? (i := 166) rfl)) rfl⟩
theorem pm_d85 : ∀ e ∈ pmk85, decode cX8_countNeedingLook e.1 = .ok (e.2.1, pm_len e.2.1 e.2.2) := pm_walk 0 (by decide +kernel)
theorem pm_ok85 : pm_okm pmm85 := ⟨pm_d85, by decide +kernel, rfl, fun h => absurd h (by decide), fun _ => pm_wsin (pm_t3 (List.mem_of_getElem? (i := 170) rfl)) rfl⟩
theorem pm_d86 : ∀ e ∈ pmk86, decode cX8_countLacking e.1 = .ok (e.2.1, pm_len e.2.1 e.2.2) := pm_walk 0 (by decide +kernel)
theorem pm_ok86 : pm_okm pmm86 := ⟨pm_d86, by decide +kernel, rfl, fun h => absurd h (by decide), fun _ => pm_wsin (pm_t3 (List.mem_of_getElem? (i := 174) rfl)) rfl⟩
theorem pm_d87 : ∀ e ∈ pmk87, decode cX9_init e.1 = .ok (e.2.1, pm_len e.2.1 e.2.2) := pm_walk 0 (by decide +kernel)
theorem pm_ok87 : pm_okm pmm87 := ⟨pm_d87, by decide +kernel, rfl, fun _ => rfl, fun _ => pm_wsin (pm_t1 (List.mem_of_getElem? (i := 236) rfl)) rfl⟩
theorem pm_d88 : ∀ e ∈ pmk88, decode cX9_add e.1 = .ok (e.2.1, pm_len e.2.1 e.2.2) := pm_walk 0 (by decide +kernel)
theorem pm_ok88 : pm_okm pmm88 := ⟨pm_d88, by decide +kernel, rfl, fun h => absurd h (by decide), fun _ => pm_wsin (pm_t4 (List.mem_of_getElem? (i := 97) rfl)) rfl⟩
theorem pm_d89 : ∀ e ∈ pmk89, decode cX9_marksOf e.1 = .ok (e.2.1, pm_len e.2.1 e.2.2) := pm_walk 0 (by decide +kernel)
theorem pm_ok89 : pm_okm pmm89 := ⟨pm_d89, by decide +kernel, rfl, fun h => absurd h (by decide), fun _ => pm_wsin (pm_t4 (List.mem_of_getElem? (i := 93) rfl)) rfl⟩
theorem pm_d90 : ∀ e ∈ pmk90, decode cX10_init e.1 = .ok (e.2.1, pm_len e.2.1 e.2.2) := pm_walk 0 (by decide +kernel)
theorem pm_ok90 : pm_okm pmm90 := ⟨pm_d90, by decide +kernel, rfl, fun _ => rfl, fun _ => pm_wsin (pm_t1 (List.mem_of_getElem? (i := 24) rfl)) rfl⟩
theorem pm_d91 : ∀ e ∈ pmk91, decode cX10_edition e.1 = .ok (e.2.1, pm_len e.2.1 e.2.2) := pm_walk 0 (by decide +kernel)
theorem pm_ok91 : pm_okm pmm91 := ⟨pm_d91, by decide +kernel, rfl, fun h => absurd h (by decide), fun _ => pm_wsin (pm_t2 (List.mem_of_getElem? (i := 163) rfl)) rfl⟩
theorem pm_d92 : ∀ e ∈ pmk92, decode cX10_mark e.1 = .ok (e.2.1, pm_len e.2.1 e.2.2) := pm_walk 0 (by decide +kernel)
theorem pm_ok92 : pm_okm pmm92 := ⟨pm_d92, by decide +kernel, rfl, fun h => absurd h (by decide), fun _ => pm_wsin (pm_t2 (List.mem_of_getElem? (i := 167) rfl)) rfl⟩
theorem pm_d93 : ∀ e ∈ pmk93, decode cX10_move e.1 = .ok (e.2.1, pm_len e.2.1 e.2.2) := pm_walk 0 (by decide +kernel)
theorem pm_ok93 : pm_okm pmm93 := ⟨pm_d93, by decide +kernel, rfl, fun h => absurd h (by decide), fun _ => pm_wsin (pm_t2 (List.mem_of_getElem? (i := 199) rfl)) rfl⟩
theorem pm_d94 : ∀ e ∈ pmk94, decode cX10_end e.1 = .ok (e.2.1, pm_len e.2.1 e.2.2) := pm_walk 0 (by decide +kernel)
theorem pm_ok94 : pm_okm pmm94 := ⟨pm_d94, by decide +kernel, rfl, fun h => absurd h (by decide), fun _ => pm_wsin (pm_t2 (List.mem_of_getElem? (i := 220) rfl)) rfl⟩
theorem pm_d95 : ∀ e ∈ pmk95, decode cX10_tree e.1 = .ok (e.2.1, pm_len e.2.1 e.2.2) := pm_walk 0 (by decide +kernel)
theorem pm_ok95 : pm_okm pmm95 := ⟨pm_d95, by decide +kernel, rfl, fun h => absurd h (by decide), fun _ => pm_wsin (pm_t2 (List.mem_of_getElem? (i := 229) rfl)) rfl⟩
theorem pm_d96 : ∀ e ∈ pmk96, decode cX10_below e.1 = .ok (e.2.1, pm_len e.2.1 e.2.2) := pm_walk 0 (by decide +kernel)
theorem pm_ok96 : pm_okm pmm96 := ⟨pm_d96, by decide +kernel, rfl, fun h => absurd h (by decide), fun _ => pm_wsin (pm_t3 (List.mem_of_getElem? (i := 96) rfl)) rfl⟩
theorem pm_d97 : ∀ e ∈ pmk97, decode cX10_picture e.1 = .ok (e.2.1, pm_len e.2.1 e.2.2) := pm_walk 0 (by decide +kernel)
theorem pm_ok97 : pm_okm pmm97 := ⟨pm_d97, by decide +kernel, rfl, fun h => absurd h (by decide), fun _ => pm_wsin (pm_t3 (List.mem_of_getElem? (i := 100) rfl)) rfl⟩
theorem pm_d98 : ∀ e ∈ pmk98, decode cX10_give e.1 = .ok (e.2.1, pm_len e.2.1 e.2.2) := pm_walk 0 (by decide +kernel)
theorem pm_ok98 : pm_okm pmm98 := ⟨pm_d98, by decide +kernel, rfl, fun h => absurd h (by decide), fun _ => pm_wsin (pm_t3 (List.mem_of_getElem? (i := 116) rfl)) rfl⟩
theorem pm_d99 : ∀ e ∈ pmk99, decode cX10_doubt e.1 = .ok (e.2.1, pm_len e.2.1 e.2.2) := pm_walk 0 (by decide +kernel)
theorem pm_ok99 : pm_okm pmm99 := ⟨pm_d99, by decide +kernel, rfl, fun h => absurd h (by decide), fun _ => pm_wsin (pm_t3 (List.mem_of_getElem? (i := 128) rfl)) rfl⟩
theorem pm_d100 : ∀ e ∈ pmk100, decode cX10_told e.1 = .ok (e.2.1, pm_len e.2.1 e.2.2) := pm_walk 0 (by decide +kernel)
theorem pm_ok100 : pm_okm pmm100 := ⟨pm_d100, by decide +kernel, rfl, fun h => absurd h (by decide), fun _ => pm_wsin (pm_t3 (List.mem_of_getElem? (i := 134) rfl)) rfl⟩
theorem pm_d101 : ∀ e ∈ pmk101, decode cX10_means e.1 = .ok (e.2.1, pm_len e.2.1 e.2.2) := pm_walk 0 (by decide +kernel)
theorem pm_ok101 : pm_okm pmm101 := ⟨pm_d101, by decide +kernel, rfl, fun h => absurd h (by decide), fun _ => pm_wsin (pm_t3 (List.mem_of_getElem? (i := 139) rfl)) rfl⟩
theorem pm_d102 : ∀ e ∈ pmk102, decode cX10_led e.1 = .ok (e.2.1, pm_len e.2.1 e.2.2) := pm_walk 0 (by decide +kernel)
theorem pm_ok102 : pm_okm pmm102 := ⟨pm_d102, by decide +kernel, rfl, fun h => absurd h (by decide), fun _ => pm_wsin (pm_t3 (List.mem_of_getElem? (i := 149) rfl)) rfl⟩
theorem pm_d103 : ∀ e ∈ pmk103, decode cX10_count e.1 = .ok (e.2.1, pm_len e.2.1 e.2.2) := pm_walk 0 (by decide +kernel)
theorem pm_ok103 : pm_okm pmm103 := ⟨pm_d103, by decide +kernel, rfl, fun h => absurd h (by decide), fun _ => pm_wsin (pm_t3 (List.mem_of_getElem? (i := 158) rfl)) rfl⟩
theorem pm_d104 : ∀ e ∈ pmk104, decode cX10_feed e.1 = .ok (e.2.1, pm_len e.2.1 e.2.2) := pm_walk 0 (by decide +kernel)
theorem pm_ok104 : pm_okm pmm104 := ⟨pm_d104, by decide +kernel, rfl, fun h => absurd h (by decide), fun _ => pm_wsin (pm_t3 (List.mem_of_getElem? (i := 179) rfl)) rfl⟩
theorem pm_d105 : ∀ e ∈ pmk105, decode cX10_rule e.1 = .ok (e.2.1, pm_len e.2.1 e.2.2) := pm_walk 0 (by decide +kernel)
theorem pm_ok105 : pm_okm pmm105 := ⟨pm_d105, by decide +kernel, rfl, fun h => absurd h (by decide), fun _ => pm_wsin (pm_t3 (List.mem_of_getElem? (i := 187) rfl)) rfl⟩
theorem pm_d106 : ∀ e ∈ pmk106, decode cX10_fault e.1 = .ok (e.2.1, pm_len e.2.1 e.2.2) := pm_walk 0 (by decide +kernel)
theorem pm_ok106 : pm_okm pmm106 := ⟨pm_d106, by decide +kernel, rfl, fun h => absurd h (by decide), fun _ => pm_wsin (pm_t4 (List.mem_of_getElem? (i := 78) rfl)) rfl⟩
theorem pm_d107 : ∀ e ∈ pmk107, decode cX10_force e.1 = .ok (e.2.1, pm_len e.2.1 e.2.2) := pm_walk 0 (by decide +kernel)
theorem pm_ok107 : pm_okm pmm107 := ⟨pm_d107, by decide +kernel, rfl, fun h => absurd h (by decide), fun _ => pm_wsin (pm_t4 (List.mem_of_getElem? (i := 82) rfl)) rfl⟩
theorem pm_d108 : ∀ e ∈ pmk108, decode cX10_word e.1 = .ok (e.2.1, pm_len e.2.1 e.2.2) := pm_walk 0 (by decide +kernel)
theorem pm_ok108 : pm_okm pmm108 := ⟨pm_d108, by decide +kernel, rfl, fun h => absurd h (by decide), fun _ => pm_wsin (pm_t4 (List.mem_of_getElem? (i := 86) rfl)) rfl⟩
theorem pm_d109 : ∀ e ∈ pmk109, decode cX10_leads e.1 = .ok (e.2.1, pm_len e.2.1 e.2.2) := pm_walk 0 (by decide +kernel)
theorem pm_ok109 : pm_okm pmm109 := ⟨pm_d109, by decide +kernel, rfl, fun h => absurd h (by decide), fun _ => pm_wsin (pm_t4 (List.mem_of_getElem? (i := 103) rfl)) rfl⟩
theorem pm_d110 : ∀ e ∈ pmk110, decode cX10_ask e.1 = .ok (e.2.1, pm_len e.2.1 e.2.2) := pm_walk 0 (by decide +kernel)
theorem pm_ok110 : pm_okm pmm110 := ⟨pm_d110, by decide +kernel, rfl, fun h => absurd h (by decide), fun _ => pm_wsin (pm_t4 (List.mem_of_getElem? (i := 110) rfl)) rfl⟩
theorem pm_d111 : ∀ e ∈ pmk111, decode cX10_met e.1 = .ok (e.2.1, pm_len e.2.1 e.2.2) := pm_walk 0 (by decide +kernel)
theorem pm_ok111 : pm_okm pmm111 := ⟨pm_d111, by decide +kernel, rfl, fun h => absurd h (by decide), fun _ => pm_wsin (pm_t4 (List.mem_of_getElem? (i := 174) rfl)) rfl⟩
theorem pm_d112 : ∀ e ∈ pmk112, decode cX10_hands e.1 = .ok (e.2.1, pm_len e.2.1 e.2.2) := pm_walk 0 (by decide +kernel)
theorem pm_ok112 : pm_okm pmm112 := ⟨pm_d112, by decide +kernel, rfl, fun h => absurd h (by decide), fun _ => pm_wsin (pm_t4 (List.mem_of_getElem? (i := 212) rfl)) rfl⟩
theorem pm_d113 : ∀ e ∈ pmk113, decode cX10_together e.1 = .ok (e.2.1, pm_len e.2.1 e.2.2) := pm_walk 0 (by decide +kernel)
theorem pm_ok113 : pm_okm pmm113 := ⟨pm_d113, by decide +kernel, rfl, fun h => absurd h (by decide), fun _ => pm_wsin (pm_t4 (List.mem_of_getElem? (i := 224) rfl)) rfl⟩
theorem pm_d114 : ∀ e ∈ pmk114, decode cX10_along e.1 = .ok (e.2.1, pm_len e.2.1 e.2.2) := pm_walk 0 (by decide +kernel)
theorem pm_ok114 : pm_okm pmm114 := ⟨pm_d114, by decide +kernel, rfl, fun h => absurd h (by decide), fun _ => pm_wsin (pm_t4 (List.mem_of_getElem? (i := 231) rfl)) rfl⟩
theorem pm_d115 : ∀ e ∈ pmk115, decode cX10_likely e.1 = .ok (e.2.1, pm_len e.2.1 e.2.2) := pm_walk 0 (by decide +kernel)
theorem pm_ok115 : pm_okm pmm115 := ⟨pm_d115, by decide +kernel, rfl, fun h => absurd h (by decide), fun _ => pm_wsin (pm_t5 (List.mem_of_getElem? (i := 3) rfl)) rfl⟩
theorem pm_d116 : ∀ e ∈ pmk116, decode cX10_lacking e.1 = .ok (e.2.1, pm_len e.2.1 e.2.2) := pm_walk 0 (by decide +kernel)
theorem pm_ok116 : pm_okm pmm116 := ⟨pm_d116, by decide +kernel, rfl, fun h => absurd h (by decide), fun _ => pm_wsin (pm_t5 (List.mem_of_getElem? (i := 11) rfl)) rfl⟩
theorem pm_d117 : ∀ e ∈ pmk117, decode cX10_story e.1 = .ok (e.2.1, pm_len e.2.1 e.2.2) := pm_walk 0 (by decide +kernel)
theorem pm_ok117 : pm_okm pmm117 := ⟨pm_d117, by decide +kernel, rfl, fun h => absurd h (by decide), fun _ => pm_wsin (pm_t5 (List.mem_of_getElem? (i := 17) rfl)) rfl⟩
theorem pm_d118 : ∀ e ∈ pmk118, decode cX10_moment e.1 = .ok (e.2.1, pm_len e.2.1 e.2.2) := pm_walk 0 (by decide +kernel)
theorem pm_ok118 : pm_okm pmm118 := ⟨pm_d118, by decide +kernel, rfl, fun h => absurd h (by decide), fun _ => pm_wsin (pm_t5 (List.mem_of_getElem? (i := 25) rfl)) rfl⟩
theorem pm_d119 : ∀ e ∈ pmk119, decode cX10_of e.1 = .ok (e.2.1, pm_len e.2.1 e.2.2) := pm_walk 0 (by decide +kernel)
theorem pm_ok119 : pm_okm pmm119 := ⟨pm_d119, by decide +kernel, rfl, fun h => absurd h (by decide), fun _ => pm_wsin (pm_t5 (List.mem_of_getElem? (i := 37) rfl)) rfl⟩
theorem pm_d120 : ∀ e ∈ pmk120, decode cX10_split e.1 = .ok (e.2.1, pm_len e.2.1 e.2.2) := pm_walk 0 (by decide +kernel)
theorem pm_ok120 : pm_okm pmm120 := ⟨pm_d120, by decide +kernel, rfl, fun h => absurd h (by decide), fun _ => pm_wsin (pm_t5 (List.mem_of_getElem? (i := 41) rfl)) rfl⟩
theorem pm_d121 : ∀ e ∈ pmk121, decode cX10_isWithin e.1 = .ok (e.2.1, pm_len e.2.1 e.2.2) := pm_walk 0 (by decide +kernel)
theorem pm_ok121 : pm_okm pmm121 := ⟨pm_d121, by decide +kernel, rfl, fun h => absurd h (by decide), fun _ => pm_wsin (pm_t2 (List.mem_of_getElem? (i := 214) rfl)) rfl⟩
theorem pm_d122 : ∀ e ∈ pmk122, decode cX10_isYear e.1 = .ok (e.2.1, pm_len e.2.1 e.2.2) := pm_walk 0 (by decide +kernel)
theorem pm_ok122 : pm_okm pmm122 := ⟨pm_d122, by decide +kernel, rfl, fun h => absurd h (by decide), fun _ => pm_wsin (pm_t3 (List.mem_of_getElem? (i := 107) rfl)) rfl⟩
theorem pm_d123 : ∀ e ∈ pmk123, decode cX10_isHand e.1 = .ok (e.2.1, pm_len e.2.1 e.2.2) := pm_walk 0 (by decide +kernel)
theorem pm_ok123 : pm_okm pmm123 := ⟨pm_d123, by decide +kernel, rfl, fun h => absurd h (by decide), fun _ => pm_wsin (pm_t3 (List.mem_of_getElem? (i := 119) rfl)) rfl⟩
theorem pm_d124 : ∀ e ∈ pmk124, decode cX10_isWord e.1 = .ok (e.2.1, pm_len e.2.1 e.2.2) := pm_walk 0 (by decide +kernel)
theorem pm_ok124 : pm_okm pmm124 := ⟨pm_d124, by decide +kernel, rfl, fun h => absurd h (by decide), fun _ => pm_wsin (pm_t4 (List.mem_of_getElem? (i := 89) rfl)) rfl⟩
theorem pm_d125 : ∀ e ∈ pmk125, decode cX10_isKnownEdition e.1 = .ok (e.2.1, pm_len e.2.1 e.2.2) := pm_walk 0 (by decide +kernel)
theorem pm_ok125 : pm_okm pmm125 := ⟨pm_d125, by decide +kernel, rfl, fun h => absurd h (by decide), fun _ => pm_wsin (pm_t2 (List.mem_of_getElem? (i := 233) rfl)) rfl⟩
theorem pm_d126 : ∀ e ∈ pmk126, decode cX10_oneIf e.1 = .ok (e.2.1, pm_len e.2.1 e.2.2) := pm_walk 0 (by decide +kernel)
theorem pm_ok126 : pm_okm pmm126 := ⟨pm_d126, by decide +kernel, rfl, fun h => absurd h (by decide), fun _ => pm_wsin (pm_t2 (List.mem_of_getElem? (i := 237) rfl)) rfl⟩
theorem pm_d127 : ∀ e ∈ pmk127, decode cX10_pick e.1 = .ok (e.2.1, pm_len e.2.1 e.2.2) := pm_walk 0 (by decide +kernel)
theorem pm_ok127 : pm_okm pmm127 := ⟨pm_d127, by decide +kernel, rfl, fun h => absurd h (by decide), fun _ => pm_wsin (pm_t4 (List.mem_of_getElem? (i := 208) rfl)) rfl⟩
theorem pm_d128 : ∀ e ∈ pmk128, decode cX10_afterReading e.1 = .ok (e.2.1, pm_len e.2.1 e.2.2) := pm_walk 0 (by decide +kernel)
theorem pm_ok128 : pm_okm pmm128 := ⟨pm_d128, by decide +kernel, rfl, fun h => absurd h (by decide), fun _ => pm_wsin (pm_t4 (List.mem_of_getElem? (i := 73) rfl)) rfl⟩
theorem pm_d129 : ∀ e ∈ pmk129, decode cX10_missed e.1 = .ok (e.2.1, pm_len e.2.1 e.2.2) := pm_walk 0 (by decide +kernel)
theorem pm_ok129 : pm_okm pmm129 := ⟨pm_d129, by decide +kernel, rfl, fun h => absurd h (by decide), fun _ => pm_wsin (pm_t4 (List.mem_of_getElem? (i := 220) rfl)) rfl⟩
theorem pm_d130 : ∀ e ∈ pmk130, decode cX10_isBeyondChance e.1 = .ok (e.2.1, pm_len e.2.1 e.2.2) := pm_walk 0 (by decide +kernel)
theorem pm_ok130 : pm_okm pmm130 := ⟨pm_d130, by decide +kernel, rfl, fun h => absurd h (by decide), fun _ => pm_wsin (pm_t4 (List.mem_of_getElem? (i := 227) rfl)) rfl⟩
theorem pm_d131 : ∀ e ∈ pmk131, decode cX10_isApart e.1 = .ok (e.2.1, pm_len e.2.1 e.2.2) := pm_walk 0 (by decide +kernel)
theorem pm_ok131 : pm_okm pmm131 := ⟨pm_d131, by decide +kernel, rfl, fun h => absurd h (by decide), fun _ => pm_wsin (pm_t4 (List.mem_of_getElem? (i := 239) rfl)) rfl⟩
theorem pm_d132 : ∀ e ∈ pmk132, decode cX10_goingAlong e.1 = .ok (e.2.1, pm_len e.2.1 e.2.2) := pm_walk 0 (by decide +kernel)
theorem pm_ok132 : pm_okm pmm132 := ⟨pm_d132, by decide +kernel, rfl, fun h => absurd h (by decide), fun _ => pm_wsin (pm_t4 (List.mem_of_getElem? (i := 235) rfl)) rfl⟩
theorem pm_d133 : ∀ e ∈ pmk133, decode cX10_metBy e.1 = .ok (e.2.1, pm_len e.2.1 e.2.2) := pm_walk 0 (by decide +kernel)
theorem pm_ok133 : pm_okm pmm133 := ⟨pm_d133, by decide +kernel, rfl, fun h => absurd h (by decide), fun _ => pm_wsin (pm_t4 (List.mem_of_getElem? (i := 182) rfl)) rfl⟩
theorem pm_d134 : ∀ e ∈ pmk134, decode cX10_metByOne e.1 = .ok (e.2.1, pm_len e.2.1 e.2.2) := pm_walk 0 (by decide +kernel)
theorem pm_ok134 : pm_okm pmm134 := ⟨pm_d134, by decide +kernel, rfl, fun h => absurd h (by decide), fun _ => pm_wsin (pm_t4 (List.mem_of_getElem? (i := 186) rfl)) rfl⟩
theorem pm_d135 : ∀ e ∈ pmk135, decode cX11_init e.1 = .ok (e.2.1, pm_len e.2.1 e.2.2) := pm_walk 0 (by decide +kernel)
theorem pm_ok135 : pm_okm pmm135 := ⟨pm_d135, by decide +kernel, rfl, fun _ => rfl, fun _ => pm_wsin (pm_t5 (List.mem_of_getElem? (i := 47) rfl)) rfl⟩
theorem pm_d136 : ∀ e ∈ pmk136, decode cX11_in e.1 = .ok (e.2.1, pm_len e.2.1 e.2.2) := pm_walk 0 (by decide +kernel)
theorem pm_ok136 : pm_okm pmm136 := ⟨pm_d136, by decide +kernel, rfl, fun h => absurd h (by decide), fun _ => pm_wsin (pm_t6 (List.mem_of_getElem? (i := 18) rfl)) rfl⟩
theorem pm_d137 : ∀ e ∈ pmk137, decode cX11_isMark e.1 = .ok (e.2.1, pm_len e.2.1 e.2.2) := pm_walk 0 (by decide +kernel)
theorem pm_ok137 : pm_okm pmm137 := ⟨pm_d137, by decide +kernel, rfl, fun h => absurd h (by decide), fun _ => pm_wsin (pm_t6 (List.mem_of_getElem? (i := 15) rfl)) rfl⟩
theorem pm_d138 : ∀ e ∈ pmk138, decode cX11_isEdition e.1 = .ok (e.2.1, pm_len e.2.1 e.2.2) := pm_walk 0 (by decide +kernel)
theorem pm_ok138 : pm_okm pmm138 := ⟨pm_d138, by decide +kernel, rfl, fun h => absurd h (by decide), fun _ => pm_wsin (pm_t6 (List.mem_of_getElem? (i := 50) rfl)) rfl⟩
theorem pm_d139 : ∀ e ∈ pmk139, decode cX11_tell e.1 = .ok (e.2.1, pm_len e.2.1 e.2.2) := pm_walk 0 (by decide +kernel)
theorem pm_ok139 : pm_okm pmm139 := ⟨pm_d139, by decide +kernel, rfl, fun h => absurd h (by decide), fun _ => pm_wsin (pm_t5 (List.mem_of_getElem? (i := 52) rfl)) rfl⟩
theorem pm_d140 : ∀ e ∈ pmk140, decode cX11_hang e.1 = .ok (e.2.1, pm_len e.2.1 e.2.2) := pm_walk 0 (by decide +kernel)
theorem pm_ok140 : pm_okm pmm140 := ⟨pm_d140, by decide +kernel, rfl, fun h => absurd h (by decide), fun _ => pm_wsin (pm_t5 (List.mem_of_getElem? (i := 56) rfl)) rfl⟩
theorem pm_d141 : ∀ e ∈ pmk141, decode cX11_isTold e.1 = .ok (e.2.1, pm_len e.2.1 e.2.2) := pm_walk 0 (by decide +kernel)
theorem pm_ok141 : pm_okm pmm141 := ⟨pm_d141, by decide +kernel, rfl, fun h => absurd h (by decide), fun _ => pm_wsin (pm_t6 (List.mem_of_getElem? (i := 26) rfl)) rfl⟩
theorem pm_d142 : ∀ e ∈ pmk142, decode cX11_isThere e.1 = .ok (e.2.1, pm_len e.2.1 e.2.2) := pm_walk 0 (by decide +kernel)
theorem pm_ok142 : pm_okm pmm142 := ⟨pm_d142, by decide +kernel, rfl, fun h => absurd h (by decide), fun _ => pm_wsin (pm_t6 (List.mem_of_getElem? (i := 22) rfl)) rfl⟩
theorem pm_d143 : ∀ e ∈ pmk143, decode cX11_isBelow e.1 = .ok (e.2.1, pm_len e.2.1 e.2.2) := pm_walk 0 (by decide +kernel)
theorem pm_ok143 : pm_okm pmm143 := ⟨pm_d143, by decide +kernel, rfl, fun h => absurd h (by decide), fun _ => pm_wsin (pm_t6 (List.mem_of_getElem? (i := 34) rfl)) rfl⟩
theorem pm_d144 : ∀ e ∈ pmk144, decode cX11_belowMany e.1 = .ok (e.2.1, pm_len e.2.1 e.2.2) := pm_walk 0 (by decide +kernel)
theorem pm_ok144 : pm_okm pmm144 := ⟨pm_d144, by decide +kernel, rfl, fun h => absurd h (by decide), fun _ => pm_wsin (pm_t6 (List.mem_of_getElem? (i := 42) rfl)) rfl⟩
theorem pm_d145 : ∀ e ∈ pmk145, decode cX11_edition e.1 = .ok (e.2.1, pm_len e.2.1 e.2.2) := pm_walk 0 (by decide +kernel)
theorem pm_ok145 : pm_okm pmm145 := ⟨pm_d145, by decide +kernel, rfl, fun h => absurd h (by decide), fun _ => pm_wsin (pm_t6 (List.mem_of_getElem? (i := 7) rfl)) rfl⟩
theorem pm_d146 : ∀ e ∈ pmk146, decode cX11_mark e.1 = .ok (e.2.1, pm_len e.2.1 e.2.2) := pm_walk 0 (by decide +kernel)
theorem pm_ok146 : pm_okm pmm146 := ⟨pm_d146, by decide +kernel, rfl, fun h => absurd h (by decide), fun _ => pm_wsin (pm_t6 (List.mem_of_getElem? (i := 11) rfl)) rfl⟩
theorem pm_d147 : ∀ e ∈ pmk147, decode cX11_move e.1 = .ok (e.2.1, pm_len e.2.1 e.2.2) := pm_walk 0 (by decide +kernel)
theorem pm_ok147 : pm_okm pmm147 := ⟨pm_d147, by decide +kernel, rfl, fun h => absurd h (by decide), fun _ => pm_wsin (pm_t6 (List.mem_of_getElem? (i := 30) rfl)) rfl⟩
theorem pm_d148 : ∀ e ∈ pmk148, decode cX11_end e.1 = .ok (e.2.1, pm_len e.2.1 e.2.2) := pm_walk 0 (by decide +kernel)
theorem pm_ok148 : pm_okm pmm148 := ⟨pm_d148, by decide +kernel, rfl, fun h => absurd h (by decide), fun _ => pm_wsin (pm_t6 (List.mem_of_getElem? (i := 38) rfl)) rfl⟩
theorem pm_d149 : ∀ e ∈ pmk149, decode cX11_tree e.1 = .ok (e.2.1, pm_len e.2.1 e.2.2) := pm_walk 0 (by decide +kernel)
theorem pm_ok149 : pm_okm pmm149 := ⟨pm_d149, by decide +kernel, rfl, fun h => absurd h (by decide), fun _ => pm_wsin (pm_t6 (List.mem_of_getElem? (i := 46) rfl)) rfl⟩
theorem pm_d150 : ∀ e ∈ pmk150, decode cX11_below e.1 = .ok (e.2.1, pm_len e.2.1 e.2.2) := pm_walk 0 (by decide +kernel)
theorem pm_ok150 : pm_okm pmm150 := ⟨pm_d150, by decide +kernel, rfl, fun h => absurd h (by decide), fun _ => pm_wsin (pm_t6 (List.mem_of_getElem? (i := 107) rfl)) rfl⟩
theorem pm_d151 : ∀ e ∈ pmk151, decode cX11_isPicture e.1 = .ok (e.2.1, pm_len e.2.1 e.2.2) := pm_walk 0 (by decide +kernel)
theorem pm_ok151 : pm_okm pmm151 := ⟨pm_d151, by decide +kernel, rfl, fun h => absurd h (by decide), fun _ => pm_wsin (pm_t6 (List.mem_of_getElem? (i := 115) rfl)) rfl⟩
theorem pm_d152 : ∀ e ∈ pmk152, decode cX11_isGiving e.1 = .ok (e.2.1, pm_len e.2.1 e.2.2) := pm_walk 0 (by decide +kernel)
theorem pm_ok152 : pm_okm pmm152 := ⟨pm_d152, by decide +kernel, rfl, fun h => absurd h (by decide), fun _ => pm_wsin (pm_t6 (List.mem_of_getElem? (i := 134) rfl)) rfl⟩
theorem pm_d153 : ∀ e ∈ pmk153, decode cX11_isHand e.1 = .ok (e.2.1, pm_len e.2.1 e.2.2) := pm_walk 0 (by decide +kernel)
theorem pm_ok153 : pm_okm pmm153 := ⟨pm_d153, by decide +kernel, rfl, fun h => absurd h (by decide), fun _ => pm_wsin (pm_t6 (List.mem_of_getElem? (i := 124) rfl)) rfl⟩
theorem pm_d154 : ∀ e ∈ pmk154, decode cX11_picture e.1 = .ok (e.2.1, pm_len e.2.1 e.2.2) := pm_walk 0 (by decide +kernel)
theorem pm_ok154 : pm_okm pmm154 := ⟨pm_d154, by decide +kernel, rfl, fun h => absurd h (by decide), fun _ => pm_wsin (pm_t6 (List.mem_of_getElem? (i := 111) rfl)) rfl⟩
theorem pm_d155 : ∀ e ∈ pmk155, decode cX11_give e.1 = .ok (e.2.1, pm_len e.2.1 e.2.2) := pm_walk 0 (by decide +kernel)
theorem pm_ok155 : pm_okm pmm155 := ⟨pm_d155, by decide +kernel, rfl, fun h => absurd h (by decide), fun _ => pm_wsin (pm_t6 (List.mem_of_getElem? (i := 121) rfl)) rfl⟩
theorem pm_d156 : ∀ e ∈ pmk156, decode cX11_doubts e.1 = .ok (e.2.1, pm_len e.2.1 e.2.2) := pm_walk 0 (by decide +kernel)
theorem pm_ok156 : pm_okm pmm156 := ⟨pm_d156, by decide +kernel, rfl, fun h => absurd h (by decide), fun _ => pm_wsin (pm_t6 (List.mem_of_getElem? (i := 99) rfl)) rfl⟩
theorem pm_d157 : ∀ e ∈ pmk157, decode cX11_doubt e.1 = .ok (e.2.1, pm_len e.2.1 e.2.2) := pm_walk 0 (by decide +kernel)
theorem pm_ok157 : pm_okm pmm157 := ⟨pm_d157, by decide +kernel, rfl, fun h => absurd h (by decide), fun _ => pm_wsin (pm_t6 (List.mem_of_getElem? (i := 130) rfl)) rfl⟩
theorem pm_d158 : ∀ e ∈ pmk158, decode cX11_told e.1 = .ok (e.2.1, pm_len e.2.1 e.2.2) := pm_walk 0 (by decide +kernel)
theorem pm_ok158 : pm_okm pmm158 := ⟨pm_d158, by decide +kernel, rfl, fun h => absurd h (by decide), fun _ => pm_wsin (pm_t6 (List.mem_of_getElem? (i := 138) rfl)) rfl⟩
theorem pm_d159 : ∀ e ∈ pmk159, decode cX11_strikes e.1 = .ok (e.2.1, pm_len e.2.1 e.2.2) := pm_walk 0 (by decide +kernel)
theorem pm_ok159 : pm_okm pmm159 := ⟨pm_d159, by decide +kernel, rfl, fun h => absurd h (by decide), fun _ => pm_wsin (pm_t6 (List.mem_of_getElem? (i := 71) rfl)) rfl⟩
theorem pm_d160 : ∀ e ∈ pmk160, decode cX11_findRules e.1 = .ok (e.2.1, pm_len e.2.1 e.2.2) := pm_walk 0 (by decide +kernel)
theorem pm_ok160 : pm_okm pmm160 := ⟨pm_d160, by decide +kernel, rfl, fun h => absurd h (by decide), fun _ => pm_wsin (pm_t6 (List.mem_of_getElem? (i := 67) rfl)) rfl⟩
theorem pm_d161 : ∀ e ∈ pmk161, decode cX11_ruleOf e.1 = .ok (e.2.1, pm_len e.2.1 e.2.2) := pm_walk 0 (by decide +kernel)
theorem pm_ok161 : pm_okm pmm161 := ⟨pm_d161, by decide +kernel, rfl, fun h => absurd h (by decide), fun _ => pm_wsin (pm_t6 (List.mem_of_getElem? (i := 87) rfl)) rfl⟩
theorem pm_d162 : ∀ e ∈ pmk162, decode cX11_holds e.1 = .ok (e.2.1, pm_len e.2.1 e.2.2) := pm_walk 0 (by decide +kernel)
theorem pm_ok162 : pm_okm pmm162 := ⟨pm_d162, by decide +kernel, rfl, fun h => absurd h (by decide), fun _ => pm_wsin (pm_t6 (List.mem_of_getElem? (i := 83) rfl)) rfl⟩
theorem pm_d163 : ∀ e ∈ pmk163, decode cX11_isBarred e.1 = .ok (e.2.1, pm_len e.2.1 e.2.2) := pm_walk 0 (by decide +kernel)
theorem pm_ok163 : pm_okm pmm163 := ⟨pm_d163, by decide +kernel, rfl, fun h => absurd h (by decide), fun _ => pm_wsin (pm_t6 (List.mem_of_getElem? (i := 91) rfl)) rfl⟩
theorem pm_d164 : ∀ e ∈ pmk164, decode cX11_isAllowed e.1 = .ok (e.2.1, pm_len e.2.1 e.2.2) := pm_walk 0 (by decide +kernel)
theorem pm_ok164 : pm_okm pmm164 := ⟨pm_d164, by decide +kernel, rfl, fun h => absurd h (by decide), fun _ => pm_wsin (pm_t6 (List.mem_of_getElem? (i := 79) rfl)) rfl⟩
theorem pm_d165 : ∀ e ∈ pmk165, decode cX11_whyWrong e.1 = .ok (e.2.1, pm_len e.2.1 e.2.2) := pm_walk 0 (by decide +kernel)
theorem pm_ok165 : pm_okm pmm165 := ⟨pm_d165, by decide +kernel, rfl, fun h => absurd h (by decide), fun _ => pm_wsin (pm_t6 (List.mem_of_getElem? (i := 75) rfl)) rfl⟩
theorem pm_d166 : ∀ e ∈ pmk166, decode cX11_findWrong e.1 = .ok (e.2.1, pm_len e.2.1 e.2.2) := pm_walk 0 (by decide +kernel)
theorem pm_ok166 : pm_okm pmm166 := ⟨pm_d166, by decide +kernel, rfl, fun h => absurd h (by decide), fun _ => pm_wsin (pm_t6 (List.mem_of_getElem? (i := 63) rfl)) rfl⟩
theorem pm_d167 : ∀ e ∈ pmk167, decode cX11_findMeant e.1 = .ok (e.2.1, pm_len e.2.1 e.2.2) := pm_walk 0 (by decide +kernel)
theorem pm_ok167 : pm_okm pmm167 := ⟨pm_d167, by decide +kernel, rfl, fun h => absurd h (by decide), fun _ => pm_wsin (pm_t6 (List.mem_of_getElem? (i := 95) rfl)) rfl⟩
theorem pm_d168 : ∀ e ∈ pmk168, decode cX11_find e.1 = .ok (e.2.1, pm_len e.2.1 e.2.2) := pm_walk 0 (by decide +kernel)
theorem pm_ok168 : pm_okm pmm168 := ⟨pm_d168, by decide +kernel, rfl, fun h => absurd h (by decide), fun _ => pm_wsin (pm_t6 (List.mem_of_getElem? (i := 59) rfl)) rfl⟩
theorem pm_d169 : ∀ e ∈ pmk169, decode cX11_shows e.1 = .ok (e.2.1, pm_len e.2.1 e.2.2) := pm_walk 0 (by decide +kernel)
theorem pm_ok169 : pm_okm pmm169 := ⟨pm_d169, by decide +kernel, rfl, fun h => absurd h (by decide), fun _ => pm_wsin (pm_t6 (List.mem_of_getElem? (i := 103) rfl)) rfl⟩
theorem pm_d170 : ∀ e ∈ pmk170, decode cX11_showing e.1 = .ok (e.2.1, pm_len e.2.1 e.2.2) := pm_walk 0 (by decide +kernel)
theorem pm_ok170 : pm_okm pmm170 := ⟨pm_d170, by decide +kernel, rfl, fun h => absurd h (by decide), fun _ => pm_wsin (pm_t6 (List.mem_of_getElem? (i := 55) rfl)) rfl⟩
theorem pm_d171 : ∀ e ∈ pmk171, decode cX11_lacks e.1 = .ok (e.2.1, pm_len e.2.1 e.2.2) := pm_walk 0 (by decide +kernel)
theorem pm_ok171 : pm_okm pmm171 := ⟨pm_d171, by decide +kernel, rfl, fun h => absurd h (by decide), fun _ => pm_wsin (pm_t6 (List.mem_of_getElem? (i := 147) rfl)) rfl⟩
theorem pm_d172 : ∀ e ∈ pmk172, decode cX11_means e.1 = .ok (e.2.1, pm_len e.2.1 e.2.2) := pm_walk 0 (by decide +kernel)
theorem pm_ok172 : pm_okm pmm172 := ⟨pm_d172, by decide +kernel, rfl, fun h => absurd h (by decide), fun _ => pm_wsin (pm_t6 (List.mem_of_getElem? (i := 142) rfl)) rfl⟩
theorem pm_d173 : ∀ e ∈ pmk173, decode cX11_led e.1 = .ok (e.2.1, pm_len e.2.1 e.2.2) := pm_walk 0 (by decide +kernel)
theorem pm_ok173 : pm_okm pmm173 := ⟨pm_d173, by decide +kernel, rfl, fun h => absurd h (by decide), fun _ => pm_wsin (pm_t6 (List.mem_of_getElem? (i := 151) rfl)) rfl⟩
theorem pm_d174 : ∀ e ∈ pmk174, decode cX11_count e.1 = .ok (e.2.1, pm_len e.2.1 e.2.2) := pm_walk 0 (by decide +kernel)
theorem pm_ok174 : pm_okm pmm174 := ⟨pm_d174, by decide +kernel, rfl, fun h => absurd h (by decide), fun _ => pm_wsin (pm_t6 (List.mem_of_getElem? (i := 155) rfl)) rfl⟩
theorem pm_d175 : ∀ e ∈ pmk175, decode cX11_feed e.1 = .ok (e.2.1, pm_len e.2.1 e.2.2) := pm_walk 0 (by decide +kernel)
theorem pm_ok175 : pm_okm pmm175 := ⟨pm_d175, by decide +kernel, rfl, fun h => absurd h (by decide), fun _ => pm_wsin (pm_t6 (List.mem_of_getElem? (i := 159) rfl)) rfl⟩
theorem pm_d176 : ∀ e ∈ pmk176, decode cX11_here e.1 = .ok (e.2.1, pm_len e.2.1 e.2.2) := pm_walk 0 (by decide +kernel)
theorem pm_ok176 : pm_okm pmm176 := ⟨pm_d176, by decide +kernel, rfl, fun h => absurd h (by decide), fun _ => pm_wsin (pm_t6 (List.mem_of_getElem? (i := 169) rfl)) rfl⟩
theorem pm_d177 : ∀ e ∈ pmk177, decode cX11_fails e.1 = .ok (e.2.1, pm_len e.2.1 e.2.2) := pm_walk 0 (by decide +kernel)
theorem pm_ok177 : pm_okm pmm177 := ⟨pm_d177, by decide +kernel, rfl, fun h => absurd h (by decide), fun _ => pm_wsin (pm_t6 (List.mem_of_getElem? (i := 194) rfl)) rfl⟩
theorem pm_d178 : ∀ e ∈ pmk178, decode cX11_readWord e.1 = .ok (e.2.1, pm_len e.2.1 e.2.2) := pm_walk 0 (by decide +kernel)
theorem pm_ok178 : pm_okm pmm178 := ⟨pm_d178, by decide +kernel, rfl, fun h => absurd h (by decide), fun _ => pm_wsin (pm_t6 (List.mem_of_getElem? (i := 177) rfl)) rfl⟩
theorem pm_d179 : ∀ e ∈ pmk179, decode cX11_code e.1 = .ok (e.2.1, pm_len e.2.1 e.2.2) := pm_walk 0 (by decide +kernel)
theorem pm_ok179 : pm_okm pmm179 := ⟨pm_d179, by decide +kernel, rfl, fun h => absurd h (by decide), fun _ => pm_wsin (pm_t6 (List.mem_of_getElem? (i := 190) rfl)) rfl⟩
theorem pm_d180 : ∀ e ∈ pmk180, decode cX11_readNumber e.1 = .ok (e.2.1, pm_len e.2.1 e.2.2) := pm_walk 0 (by decide +kernel)
theorem pm_ok180 : pm_okm pmm180 := ⟨pm_d180, by decide +kernel, rfl, fun h => absurd h (by decide), fun _ => pm_wsin (pm_t6 (List.mem_of_getElem? (i := 202) rfl)) rfl⟩
theorem pm_d181 : ∀ e ∈ pmk181, decode cX11_needs e.1 = .ok (e.2.1, pm_len e.2.1 e.2.2) := pm_walk 0 (by decide +kernel)
theorem pm_ok181 : pm_okm pmm181 := ⟨pm_d181, by decide +kernel, rfl, fun h => absurd h (by decide), fun _ => pm_wsin (pm_t6 (List.mem_of_getElem? (i := 217) rfl)) rfl⟩
theorem pm_d182 : ∀ e ∈ pmk182, decode cX11_senseOf e.1 = .ok (e.2.1, pm_len e.2.1 e.2.2) := pm_walk 0 (by decide +kernel)
theorem pm_ok182 : pm_okm pmm182 := ⟨pm_d182, by decide +kernel, rfl, fun h => absurd h (by decide), fun _ => pm_wsin (pm_t6 (List.mem_of_getElem? (i := 209) rfl)) rfl⟩
theorem pm_d183 : ∀ e ∈ pmk183, decode cX11_keyOf e.1 = .ok (e.2.1, pm_len e.2.1 e.2.2) := pm_walk 0 (by decide +kernel)
theorem pm_ok183 : pm_okm pmm183 := ⟨pm_d183, by decide +kernel, rfl, fun h => absurd h (by decide), fun _ => pm_wsin (pm_t6 (List.mem_of_getElem? (i := 187) rfl)) rfl⟩
theorem pm_d184 : ∀ e ∈ pmk184, decode cX11_readSense e.1 = .ok (e.2.1, pm_len e.2.1 e.2.2) := pm_walk 0 (by decide +kernel)
theorem pm_ok184 : pm_okm pmm184 := ⟨pm_d184, by decide +kernel, rfl, fun h => absurd h (by decide), fun _ => pm_wsin (pm_t6 (List.mem_of_getElem? (i := 198) rfl)) rfl⟩
theorem pm_d185 : ∀ e ∈ pmk185, decode cX11_readPair e.1 = .ok (e.2.1, pm_len e.2.1 e.2.2) := pm_walk 0 (by decide +kernel)
theorem pm_ok185 : pm_okm pmm185 := ⟨pm_d185, by decide +kernel, rfl, fun h => absurd h (by decide), fun _ => pm_wsin (pm_t6 (List.mem_of_getElem? (i := 213) rfl)) rfl⟩
theorem pm_d186 : ∀ e ∈ pmk186, decode cX11_readClause e.1 = .ok (e.2.1, pm_len e.2.1 e.2.2) := pm_walk 0 (by decide +kernel)
theorem pm_ok186 : pm_okm pmm186 := ⟨pm_d186, by decide +kernel, rfl, fun h => absurd h (by decide), fun _ => pm_wsin (pm_t6 (List.mem_of_getElem? (i := 173) rfl)) rfl⟩
theorem pm_d187 : ∀ e ∈ pmk187, decode cX11_rule e.1 = .ok (e.2.1, pm_len e.2.1 e.2.2) := pm_walk 0 (by decide +kernel)
theorem pm_ok187 : pm_okm pmm187 := ⟨pm_d187, by decide +kernel, rfl, fun h => absurd h (by decide), fun _ => pm_wsin (pm_t6 (List.mem_of_getElem? (i := 165) rfl)) rfl⟩
theorem pm_d188 : ∀ e ∈ pmk188, decode cX11_fault e.1 = .ok (e.2.1, pm_len e.2.1 e.2.2) := pm_walk 0 (by decide +kernel)
theorem pm_ok188 : pm_okm pmm188 := ⟨pm_d188, by decide +kernel, rfl, fun h => absurd h (by decide), fun _ => pm_wsin (pm_t6 (List.mem_of_getElem? (i := 221) rfl)) rfl⟩
theorem pm_d189 : ∀ e ∈ pmk189, decode cX11_force e.1 = .ok (e.2.1, pm_len e.2.1 e.2.2) := pm_walk 0 (by decide +kernel)
theorem pm_ok189 : pm_okm pmm189 := ⟨pm_d189, by decide +kernel, rfl, fun h => absurd h (by decide), fun _ => pm_wsin (pm_t6 (List.mem_of_getElem? (i := 225) rfl)) rfl⟩
theorem pm_d190 : ∀ e ∈ pmk190, decode cX11_isWord e.1 = .ok (e.2.1, pm_len e.2.1 e.2.2) := pm_walk 0 (by decide +kernel)
theorem pm_ok190 : pm_okm pmm190 := ⟨pm_d190, by decide +kernel, rfl, fun h => absurd h (by decide), fun _ => pm_wsin (pm_t6 (List.mem_of_getElem? (i := 232) rfl)) rfl⟩
theorem pm_d191 : ∀ e ∈ pmk191, decode cX11_leadsMany e.1 = .ok (e.2.1, pm_len e.2.1 e.2.2) := pm_walk 0 (by decide +kernel)
theorem pm_ok191 : pm_okm pmm191 := ⟨pm_d191, by decide +kernel, rfl, fun h => absurd h (by decide), fun _ => pm_wsin (pm_t6 (List.mem_of_getElem? (i := 238) rfl)) rfl⟩
theorem pm_d192 : ∀ e ∈ pmk192, decode cX11_word e.1 = .ok (e.2.1, pm_len e.2.1 e.2.2) := pm_walk 0 (by decide +kernel)
theorem pm_ok192 : pm_okm pmm192 := ⟨pm_d192, by decide +kernel, rfl, fun h => absurd h (by decide), fun _ => pm_wsin (pm_t6 (List.mem_of_getElem? (i := 229) rfl)) rfl⟩
theorem pm_d193 : ∀ e ∈ pmk193, decode cX11_leads e.1 = .ok (e.2.1, pm_len e.2.1 e.2.2) := pm_walk 0 (by decide +kernel)
theorem pm_ok193 : pm_okm pmm193 := ⟨pm_d193, by decide +kernel, rfl, fun h => absurd h (by decide), fun _ => pm_wsin (pm_t7 (List.mem_of_getElem? (i := 2) rfl)) rfl⟩
theorem pm_d194 : ∀ e ∈ pmk194, decode cX11_put e.1 = .ok (e.2.1, pm_len e.2.1 e.2.2) := pm_walk 0 (by decide +kernel)
theorem pm_ok194 : pm_okm pmm194 := ⟨pm_d194, by decide +kernel, rfl, fun h => absurd h (by decide), fun _ => pm_wsin (pm_t7 (List.mem_of_getElem? (i := 22) rfl)) rfl⟩
theorem pm_d195 : ∀ e ∈ pmk195, decode cX11_work e.1 = .ok (e.2.1, pm_len e.2.1 e.2.2) := pm_walk 0 (by decide +kernel)
theorem pm_ok195 : pm_okm pmm195 := ⟨pm_d195, by decide +kernel, rfl, fun h => absurd h (by decide), fun _ => pm_wsin (pm_t7 (List.mem_of_getElem? (i := 26) rfl)) rfl⟩
theorem pm_d196 : ∀ e ∈ pmk196, decode cX11_hold e.1 = .ok (e.2.1, pm_len e.2.1 e.2.2) := pm_walk 0 (by decide +kernel)
theorem pm_ok196 : pm_okm pmm196 := ⟨pm_d196, by decide +kernel, rfl, fun h => absurd h (by decide), fun _ => pm_wsin (pm_t7 (List.mem_of_getElem? (i := 14) rfl)) rfl⟩
theorem pm_d197 : ∀ e ∈ pmk197, decode cX11_readLeaf e.1 = .ok (e.2.1, pm_len e.2.1 e.2.2) := pm_walk 0 (by decide +kernel)
theorem pm_ok197 : pm_okm pmm197 := ⟨pm_d197, by decide +kernel, rfl, fun h => absurd h (by decide), fun _ => pm_wsin (pm_t7 (List.mem_of_getElem? (i := 18) rfl)) rfl⟩
theorem pm_d198 : ∀ e ∈ pmk198, decode cX11_readOne e.1 = .ok (e.2.1, pm_len e.2.1 e.2.2) := pm_walk 0 (by decide +kernel)
theorem pm_ok198 : pm_okm pmm198 := ⟨pm_d198, by decide +kernel, rfl, fun h => absurd h (by decide), fun _ => pm_wsin (pm_t7 (List.mem_of_getElem? (i := 10) rfl)) rfl⟩
theorem pm_d199 : ∀ e ∈ pmk199, decode cX11_readBehind e.1 = .ok (e.2.1, pm_len e.2.1 e.2.2) := pm_walk 0 (by decide +kernel)
theorem pm_ok199 : pm_okm pmm199 := ⟨pm_d199, by decide +kernel, rfl, fun h => absurd h (by decide), fun _ => pm_wsin (pm_t7 (List.mem_of_getElem? (i := 30) rfl)) rfl⟩
theorem pm_d200 : ∀ e ∈ pmk200, decode cX11_ask e.1 = .ok (e.2.1, pm_len e.2.1 e.2.2) := pm_walk 0 (by decide +kernel)
theorem pm_ok200 : pm_okm pmm200 := ⟨pm_d200, by decide +kernel, rfl, fun h => absurd h (by decide), fun _ => pm_wsin (pm_t7 (List.mem_of_getElem? (i := 6) rfl)) rfl⟩
theorem pm_d201 : ∀ e ∈ pmk201, decode cX11_hasHand e.1 = .ok (e.2.1, pm_len e.2.1 e.2.2) := pm_walk 0 (by decide +kernel)
theorem pm_ok201 : pm_okm pmm201 := ⟨pm_d201, by decide +kernel, rfl, fun h => absurd h (by decide), fun _ => pm_wsin (pm_t7 (List.mem_of_getElem? (i := 46) rfl)) rfl⟩
theorem pm_d202 : ∀ e ∈ pmk202, decode cX11_showsWord e.1 = .ok (e.2.1, pm_len e.2.1 e.2.2) := pm_walk 0 (by decide +kernel)
theorem pm_ok202 : pm_okm pmm202 := ⟨pm_d202, by decide +kernel, rfl, fun h => absurd h (by decide), fun _ => pm_wsin (pm_t7 (List.mem_of_getElem? (i := 42) rfl)) rfl⟩
theorem pm_d203 : ∀ e ∈ pmk203, decode cX11_isMet e.1 = .ok (e.2.1, pm_len e.2.1 e.2.2) := pm_walk 0 (by decide +kernel)
theorem pm_ok203 : pm_okm pmm203 := ⟨pm_d203, by decide +kernel, rfl, fun h => absurd h (by decide), fun _ => pm_wsin (pm_t7 (List.mem_of_getElem? (i := 38) rfl)) rfl⟩
theorem pm_d204 : ∀ e ∈ pmk204, decode cX11_met e.1 = .ok (e.2.1, pm_len e.2.1 e.2.2) := pm_walk 0 (by decide +kernel)
theorem pm_ok204 : pm_okm pmm204 := ⟨pm_d204, by decide +kernel, rfl, fun h => absurd h (by decide), fun _ => pm_wsin (pm_t7 (List.mem_of_getElem? (i := 34) rfl)) rfl⟩
theorem pm_d205 : ∀ e ∈ pmk205, decode cX11_saw e.1 = .ok (e.2.1, pm_len e.2.1 e.2.2) := pm_walk 0 (by decide +kernel)
theorem pm_ok205 : pm_okm pmm205 := ⟨pm_d205, by decide +kernel, rfl, fun h => absurd h (by decide), fun _ => pm_wsin (pm_t7 (List.mem_of_getElem? (i := 55) rfl)) rfl⟩
theorem pm_d206 : ∀ e ∈ pmk206, decode cX11_hands e.1 = .ok (e.2.1, pm_len e.2.1 e.2.2) := pm_walk 0 (by decide +kernel)
theorem pm_ok206 : pm_okm pmm206 := ⟨pm_d206, by decide +kernel, rfl, fun h => absurd h (by decide), fun _ => pm_wsin (pm_t7 (List.mem_of_getElem? (i := 50) rfl)) rfl⟩
theorem pm_d207 : ∀ e ∈ pmk207, decode cX11_isBeyond e.1 = .ok (e.2.1, pm_len e.2.1 e.2.2) := pm_walk 0 (by decide +kernel)
theorem pm_ok207 : pm_okm pmm207 := ⟨pm_d207, by decide +kernel, rfl, fun h => absurd h (by decide), fun _ => pm_wsin (pm_t7 (List.mem_of_getElem? (i := 63) rfl)) rfl⟩
theorem pm_d208 : ∀ e ∈ pmk208, decode cX11_together e.1 = .ok (e.2.1, pm_len e.2.1 e.2.2) := pm_walk 0 (by decide +kernel)
theorem pm_ok208 : pm_okm pmm208 := ⟨pm_d208, by decide +kernel, rfl, fun h => absurd h (by decide), fun _ => pm_wsin (pm_t7 (List.mem_of_getElem? (i := 59) rfl)) rfl⟩
theorem pm_d209 : ∀ e ∈ pmk209, decode cX11_areApart e.1 = .ok (e.2.1, pm_len e.2.1 e.2.2) := pm_walk 0 (by decide +kernel)
theorem pm_ok209 : pm_okm pmm209 := ⟨pm_d209, by decide +kernel, rfl, fun h => absurd h (by decide), fun _ => pm_wsin (pm_t7 (List.mem_of_getElem? (i := 75) rfl)) rfl⟩
theorem pm_d210 : ∀ e ∈ pmk210, decode cX11_goesAlong e.1 = .ok (e.2.1, pm_len e.2.1 e.2.2) := pm_walk 0 (by decide +kernel)
theorem pm_ok210 : pm_okm pmm210 := ⟨pm_d210, by decide +kernel, rfl, fun h => absurd h (by decide), fun _ => pm_wsin (pm_t7 (List.mem_of_getElem? (i := 71) rfl)) rfl⟩
theorem pm_d211 : ∀ e ∈ pmk211, decode cX11_along e.1 = .ok (e.2.1, pm_len e.2.1 e.2.2) := pm_walk 0 (by decide +kernel)
theorem pm_ok211 : pm_okm pmm211 := ⟨pm_d211, by decide +kernel, rfl, fun h => absurd h (by decide), fun _ => pm_wsin (pm_t7 (List.mem_of_getElem? (i := 67) rfl)) rfl⟩
theorem pm_d212 : ∀ e ∈ pmk212, decode cX11_likely e.1 = .ok (e.2.1, pm_len e.2.1 e.2.2) := pm_walk 0 (by decide +kernel)
theorem pm_ok212 : pm_okm pmm212 := ⟨pm_d212, by decide +kernel, rfl, fun h => absurd h (by decide), fun _ => pm_wsin (pm_t7 (List.mem_of_getElem? (i := 79) rfl)) rfl⟩
theorem pm_d213 : ∀ e ∈ pmk213, decode cX11_firstOf e.1 = .ok (e.2.1, pm_len e.2.1 e.2.2) := pm_walk 0 (by decide +kernel)
theorem pm_ok213 : pm_okm pmm213 := ⟨pm_d213, by decide +kernel, rfl, fun h => absurd h (by decide), fun _ => pm_wsin (pm_t7 (List.mem_of_getElem? (i := 89) rfl)) rfl⟩
theorem pm_d214 : ∀ e ∈ pmk214, decode cX11_lacking e.1 = .ok (e.2.1, pm_len e.2.1 e.2.2) := pm_walk 0 (by decide +kernel)
theorem pm_ok214 : pm_okm pmm214 := ⟨pm_d214, by decide +kernel, rfl, fun h => absurd h (by decide), fun _ => pm_wsin (pm_t7 (List.mem_of_getElem? (i := 83) rfl)) rfl⟩
theorem pm_d215 : ∀ e ∈ pmk215, decode cX11_story e.1 = .ok (e.2.1, pm_len e.2.1 e.2.2) := pm_walk 0 (by decide +kernel)
theorem pm_ok215 : pm_okm pmm215 := ⟨pm_d215, by decide +kernel, rfl, fun h => absurd h (by decide), fun _ => pm_wsin (pm_t7 (List.mem_of_getElem? (i := 93) rfl)) rfl⟩
theorem pm_d216 : ∀ e ∈ pmk216, decode cX11_moment e.1 = .ok (e.2.1, pm_len e.2.1 e.2.2) := pm_walk 0 (by decide +kernel)
theorem pm_ok216 : pm_okm pmm216 := ⟨pm_d216, by decide +kernel, rfl, fun h => absurd h (by decide), fun _ => pm_wsin (pm_t7 (List.mem_of_getElem? (i := 97) rfl)) rfl⟩
theorem pm_d217 : ∀ e ∈ pmk217, decode cX11_of e.1 = .ok (e.2.1, pm_len e.2.1 e.2.2) := pm_walk 0 (by decide +kernel)
theorem pm_ok217 : pm_okm pmm217 := ⟨pm_d217, by decide +kernel, rfl, fun h => absurd h (by decide), fun _ => pm_wsin (pm_t7 (List.mem_of_getElem? (i := 101) rfl)) rfl⟩
theorem pm_d218 : ∀ e ∈ pmk218, decode cX11_split e.1 = .ok (e.2.1, pm_len e.2.1 e.2.2) := pm_walk 0 (by decide +kernel)
theorem pm_ok218 : pm_okm pmm218 := ⟨pm_d218, by decide +kernel, rfl, fun h => absurd h (by decide), fun _ => pm_wsin (pm_t7 (List.mem_of_getElem? (i := 105) rfl)) rfl⟩
theorem pm_d219 : ∀ e ∈ pmk219, decode cJ13_bitCount_95d88 e.1 = .ok (e.2.1, pm_len e.2.1 e.2.2) := pm_walk 0 (by decide +kernel)
theorem pm_ok219 : pm_okm pmm219 := ⟨pm_d219, by decide +kernel, rfl, fun h => absurd h (by decide), fun _ => pm_wsin (pm_t3 (List.mem_of_getElem? (i := 89) rfl)) rfl⟩
theorem pm_d220 : ∀ e ∈ pmk220, decode cJ9_max_7cf53 e.1 = .ok (e.2.1, pm_len e.2.1 e.2.2) := pm_walk 0 (by decide +kernel)
theorem pm_ok220 : pm_okm pmm220 := ⟨pm_d220, by decide +kernel, rfl, fun h => absurd h (by decide), fun _ => pm_wsin (pm_t2 (List.mem_of_getElem? (i := 195) rfl)) rfl⟩
theorem pm_d221 : ∀ e ∈ pmk221, decode cJ9_min_7cf53 e.1 = .ok (e.2.1, pm_len e.2.1 e.2.2) := pm_walk 0 (by decide +kernel)
theorem pm_ok221 : pm_okm pmm221 := ⟨pm_d221, by decide +kernel, rfl, fun h => absurd h (by decide), fun _ => pm_wsin (pm_t4 (List.mem_of_getElem? (i := 106) rfl)) rfl⟩
theorem pm_d222 : ∀ e ∈ pmk222, decode cJ0_length_8abf5 e.1 = .ok (e.2.1, pm_len e.2.1 e.2.2) := pm_walk 0 (by decide +kernel)
theorem pm_ok222 : pm_okm pmm222 := ⟨pm_d222, by decide +kernel, rfl, fun h => absurd h (by decide), fun _ => pm_wsin (pm_t3 (List.mem_of_getElem? (i := 222) rfl)) rfl⟩
theorem pm_d223 : ∀ e ∈ pmk223, decode cJ0_charAt_5068e e.1 = .ok (e.2.1, pm_len e.2.1 e.2.2) := pm_walk 0 (by decide +kernel)
theorem pm_ok223 : pm_okm pmm223 := ⟨pm_d223, by decide +kernel, rfl, fun h => absurd h (by decide), fun _ => pm_wsin (pm_t3 (List.mem_of_getElem? (i := 232) rfl)) rfl⟩
theorem pm_d224 : ∀ e ∈ pmk224, decode cJ0_coder_7d493 e.1 = .ok (e.2.1, pm_len e.2.1 e.2.2) := pm_walk 0 (by decide +kernel)
theorem pm_ok224 : pm_okm pmm224 := ⟨pm_d224, by decide +kernel, rfl, fun h => absurd h (by decide), fun _ => pm_wsin (pm_t3 (List.mem_of_getElem? (i := 226) rfl)) rfl⟩
theorem pm_d225 : ∀ e ∈ pmk225, decode cJ0_isLatin1_aae02 e.1 = .ok (e.2.1, pm_len e.2.1 e.2.2) := pm_walk 0 (by decide +kernel)
theorem pm_ok225 : pm_okm pmm225 := ⟨pm_d225, by decide +kernel, rfl, fun h => absurd h (by decide), fun _ => pm_wsin (pm_t3 (List.mem_of_getElem? (i := 236) rfl)) rfl⟩
theorem pm_d226 : ∀ e ∈ pmk226, decode cJ0_checkIndex_df160 e.1 = .ok (e.2.1, pm_len e.2.1 e.2.2) := pm_walk 0 (by decide +kernel)
theorem pm_ok226 : pm_okm pmm226 := ⟨pm_d226, by decide +kernel, rfl, fun h => absurd h (by decide), fun _ => pm_wsin (pm_t4 (List.mem_of_getElem? (i := 2) rfl)) rfl⟩
theorem pm_d227 : ∀ e ∈ pmk227, decode cJ1_charAt_3b067 e.1 = .ok (e.2.1, pm_len e.2.1 e.2.2) := pm_walk 0 (by decide +kernel)
theorem pm_ok227 : pm_okm pmm227 := ⟨pm_d227, by decide +kernel, rfl, fun h => absurd h (by decide), fun _ => pm_wsin (pm_t3 (List.mem_of_getElem? (i := 239) rfl)) rfl⟩
theorem pm_d228 : ∀ e ∈ pmk228, decode cJ7_fill_d0a16 e.1 = .ok (e.2.1, pm_len e.2.1 e.2.2) := pm_walk 0 (by decide +kernel)
theorem pm_ok228 : pm_okm pmm228 := ⟨pm_d228, by decide +kernel, rfl, fun h => absurd h (by decide), fun _ => pm_wsin (pm_t3 (List.mem_of_getElem? (i := 18) rfl)) rfl⟩
theorem pm_d229 : ∀ e ∈ pmk229, decode cJ7_fill_53178 e.1 = .ok (e.2.1, pm_len e.2.1 e.2.2) := pm_walk 0 (by decide +kernel)
theorem pm_ok229 : pm_okm pmm229 := ⟨pm_d229, by decide +kernel, rfl, fun h => absurd h (by decide), fun _ => pm_wsin (pm_t1 (List.mem_of_getElem? (i := 38) rfl)) rfl⟩
theorem pm_d230 : ∀ e ∈ pmk230, decode cJ3_checkIndex_8e157 e.1 = .ok (e.2.1, pm_len e.2.1 e.2.2) := pm_walk 0 (by decide +kernel)
theorem pm_ok230 : pm_okm pmm230 := ⟨pm_d230, by decide +kernel, rfl, fun h => absurd h (by decide), fun _ => pm_wsin (pm_t4 (List.mem_of_getElem? (i := 7) rfl)) rfl⟩
theorem pm_d231_0 : ∀ e ∈ pmk231_0, decode cL_law e.1 = .ok (e.2.1, pm_len e.2.1 e.2.2) := pm_walk 0 (by decide +kernel)
theorem pm_d231_1 : ∀ e ∈ pmk231_1, decode cL_law e.1 = .ok (e.2.1, pm_len e.2.1 e.2.2) := pm_walk 244 (by decide +kernel)
theorem pm_d231_2 : ∀ e ∈ pmk231_2, decode cL_law e.1 = .ok (e.2.1, pm_len e.2.1 e.2.2) := pm_walk 338 (by decide +kernel)
theorem pm_d231_3 : ∀ e ∈ pmk231_3, decode cL_law e.1 = .ok (e.2.1, pm_len e.2.1 e.2.2) := pm_walk 430 (by decide +kernel)
theorem pm_d231_4 : ∀ e ∈ pmk231_4, decode cL_law e.1 = .ok (e.2.1, pm_len e.2.1 e.2.2) := pm_walk 526 (by decide +kernel)
theorem pm_d231_5 : ∀ e ∈ pmk231_5, decode cL_law e.1 = .ok (e.2.1, pm_len e.2.1 e.2.2) := pm_walk 620 (by decide +kernel)
theorem pm_d231_6 : ∀ e ∈ pmk231_6, decode cL_law e.1 = .ok (e.2.1, pm_len e.2.1 e.2.2) := pm_walk 728 (by decide +kernel)
theorem pm_d231_7 : ∀ e ∈ pmk231_7, decode cL_law e.1 = .ok (e.2.1, pm_len e.2.1 e.2.2) := pm_walk 822 (by decide +kernel)
theorem pm_d231_8 : ∀ e ∈ pmk231_8, decode cL_law e.1 = .ok (e.2.1, pm_len e.2.1 e.2.2) := pm_walk 920 (by decide +kernel)
theorem pm_d231_9 : ∀ e ∈ pmk231_9, decode cL_law e.1 = .ok (e.2.1, pm_len e.2.1 e.2.2) := pm_walk 1007 (by decide +kernel)
theorem pm_d231_10 : ∀ e ∈ pmk231_10, decode cL_law e.1 = .ok (e.2.1, pm_len e.2.1 e.2.2) := pm_walk 1100 (by decide +kernel)
theorem pm_d231_11 : ∀ e ∈ pmk231_11, decode cL_law e.1 = .ok (e.2.1, pm_len e.2.1 e.2.2) := pm_walk 1200 (by decide +kernel)
theorem pm_d231_12 : ∀ e ∈ pmk231_12, decode cL_law e.1 = .ok (e.2.1, pm_len e.2.1 e.2.2) := pm_walk 1290 (by decide +kernel)
theorem pm_d231 : ∀ e ∈ pmk231, decode cL_law e.1 = .ok (e.2.1, pm_len e.2.1 e.2.2) := List.forall_mem_append.mpr ⟨pm_d231_0, List.forall_mem_append.mpr ⟨pm_d231_1, List.forall_mem_append.mpr ⟨pm_d231_2, List.forall_mem_append.mpr ⟨pm_d231_3, List.forall_mem_append.mpr ⟨pm_d231_4, List.forall_mem_append.mpr ⟨pm_d231_5, List.forall_mem_append.mpr ⟨pm_d231_6, List.forall_mem_append.mpr ⟨pm_d231_7, List.forall_mem_append.mpr ⟨pm_d231_8, List.forall_mem_append.mpr ⟨pm_d231_9, List.forall_mem_append.mpr ⟨pm_d231_10, List.forall_mem_append.mpr ⟨pm_d231_11, pm_d231_12⟩⟩⟩⟩⟩⟩⟩⟩⟩⟩⟩⟩
theorem pm_ok231 : pm_okm pmm231 := ⟨pm_d231, by decide +kernel, rfl, fun h => absurd h (by decide), fun h => absurd rfl h⟩
theorem pm_okA : ∀ m, pm_okm (pm_m m) := fun m => by unfold pm_m; exact pm_iteP (pm_iteP (pm_iteP (pm_iteP (pm_iteP (pm_iteP (pm_iteP (pm_ok0) (pm_iteP (pm_ok1) (pm_ok2))) (pm_iteP (pm_iteP (pm_ok3) (pm_ok4)) (pm_iteP (pm_ok5) (pm_ok6)))) (pm_iteP (pm_iteP (pm_ok7) (pm_iteP (pm_ok8) (pm_ok9))) (pm_iteP (pm_iteP (pm_ok10) (pm_ok11)) (pm_iteP (pm_ok12) (pm_ok13))))) (pm_iteP (pm_iteP (pm_iteP (pm_ok14) (pm_iteP (pm_ok15) (pm_ok16))) (pm_iteP (pm_iteP (pm_ok17) (pm_ok18)) (pm_iteP (pm_ok19) (pm_ok20)))) (pm_iteP (pm_iteP (pm_iteP (pm_ok21) (pm_ok22)) (pm_iteP (pm_ok23) (pm_ok24))) (pm_iteP (pm_iteP (pm_ok25) (pm_ok26)) (pm_iteP (pm_ok27) (pm_ok28)))))) (pm_iteP (pm_iteP (pm_iteP (pm_iteP (pm_ok29) (pm_iteP (pm_ok30) (pm_ok31))) (pm_iteP (pm_iteP (pm_ok32) (pm_ok33)) (pm_iteP (pm_ok34) (pm_ok35)))) (pm_iteP (pm_iteP (pm_ok36) (pm_iteP (pm_ok37) (pm_ok38))) (pm_iteP (pm_iteP (pm_ok39) (pm_ok40)) (pm_iteP (pm_ok41) (pm_ok42))))) (pm_iteP (pm_iteP (pm_iteP (pm_ok43) (pm_iteP (pm_ok44) (pm_ok45))) (pm_iteP (pm_iteP (pm_ok46) (pm_ok47)) (pm_iteP (pm_ok48) (pm_ok49)))) (pm_iteP (pm_iteP (pm_iteP (pm_ok50) (pm_ok51)) (pm_iteP (pm_ok52) (pm_ok53))) (pm_iteP (pm_iteP (pm_ok54) (pm_ok55)) (pm_iteP (pm_ok56) (pm_ok57))))))) (pm_iteP (pm_iteP (pm_iteP (pm_iteP (pm_iteP (pm_ok58) (pm_iteP (pm_ok59) (pm_ok60))) (pm_iteP (pm_iteP (pm_ok61) (pm_ok62)) (pm_iteP (pm_ok63) (pm_ok64)))) (pm_iteP (pm_iteP (pm_ok65) (pm_iteP (pm_ok66) (pm_ok67))) (pm_iteP (pm_iteP (pm_ok68) (pm_ok69)) (pm_iteP (pm_ok70) (pm_ok71))))) (pm_iteP (pm_iteP (pm_iteP (pm_ok72) (pm_iteP (pm_ok73) (pm_ok74))) (pm_iteP (pm_iteP (pm_ok75) (pm_ok76)) (pm_iteP (pm_ok77) (pm_ok78)))) (pm_iteP (pm_iteP (pm_iteP (pm_ok79) (pm_ok80)) (pm_iteP (pm_ok81) (pm_ok82))) (pm_iteP (pm_iteP (pm_ok83) (pm_ok84)) (pm_iteP (pm_ok85) (pm_ok86)))))) (pm_iteP (pm_iteP (pm_iteP (pm_iteP (pm_ok87) (pm_iteP (pm_ok88) (pm_ok89))) (pm_iteP (pm_iteP (pm_ok90) (pm_ok91)) (pm_iteP (pm_ok92) (pm_ok93)))) (pm_iteP (pm_iteP (pm_ok94) (pm_iteP (pm_ok95) (pm_ok96))) (pm_iteP (pm_iteP (pm_ok97) (pm_ok98)) (pm_iteP (pm_ok99) (pm_ok100))))) (pm_iteP (pm_iteP (pm_iteP (pm_ok101) (pm_iteP (pm_ok102) (pm_ok103))) (pm_iteP (pm_iteP (pm_ok104) (pm_ok105)) (pm_iteP (pm_ok106) (pm_ok107)))) (pm_iteP (pm_iteP (pm_iteP (pm_ok108) (pm_ok109)) (pm_iteP (pm_ok110) (pm_ok111))) (pm_iteP (pm_iteP (pm_ok112) (pm_ok113)) (pm_iteP (pm_ok114) (pm_ok115)))))))) (pm_iteP (pm_iteP (pm_iteP (pm_iteP (pm_iteP (pm_iteP (pm_ok116) (pm_iteP (pm_ok117) (pm_ok118))) (pm_iteP (pm_iteP (pm_ok119) (pm_ok120)) (pm_iteP (pm_ok121) (pm_ok122)))) (pm_iteP (pm_iteP (pm_ok123) (pm_iteP (pm_ok124) (pm_ok125))) (pm_iteP (pm_iteP (pm_ok126) (pm_ok127)) (pm_iteP (pm_ok128) (pm_ok129))))) (pm_iteP (pm_iteP (pm_iteP (pm_ok130) (pm_iteP (pm_ok131) (pm_ok132))) (pm_iteP (pm_iteP (pm_ok133) (pm_ok134)) (pm_iteP (pm_ok135) (pm_ok136)))) (pm_iteP (pm_iteP (pm_iteP (pm_ok137) (pm_ok138)) (pm_iteP (pm_ok139) (pm_ok140))) (pm_iteP (pm_iteP (pm_ok141) (pm_ok142)) (pm_iteP (pm_ok143) (pm_ok144)))))) (pm_iteP (pm_iteP (pm_iteP (pm_iteP (pm_ok145) (pm_iteP (pm_ok146) (pm_ok147))) (pm_iteP (pm_iteP (pm_ok148) (pm_ok149)) (pm_iteP (pm_ok150) (pm_ok151)))) (pm_iteP (pm_iteP (pm_ok152) (pm_iteP (pm_ok153) (pm_ok154))) (pm_iteP (pm_iteP (pm_ok155) (pm_ok156)) (pm_iteP (pm_ok157) (pm_ok158))))) (pm_iteP (pm_iteP (pm_iteP (pm_ok159) (pm_iteP (pm_ok160) (pm_ok161))) (pm_iteP (pm_iteP (pm_ok162) (pm_ok163)) (pm_iteP (pm_ok164) (pm_ok165)))) (pm_iteP (pm_iteP (pm_iteP (pm_ok166) (pm_ok167)) (pm_iteP (pm_ok168) (pm_ok169))) (pm_iteP (pm_iteP (pm_ok170) (pm_ok171)) (pm_iteP (pm_ok172) (pm_ok173))))))) (pm_iteP (pm_iteP (pm_iteP (pm_iteP (pm_iteP (pm_ok174) (pm_iteP (pm_ok175) (pm_ok176))) (pm_iteP (pm_iteP (pm_ok177) (pm_ok178)) (pm_iteP (pm_ok179) (pm_ok180)))) (pm_iteP (pm_iteP (pm_ok181) (pm_iteP (pm_ok182) (pm_ok183))) (pm_iteP (pm_iteP (pm_ok184) (pm_ok185)) (pm_iteP (pm_ok186) (pm_ok187))))) (pm_iteP (pm_iteP (pm_iteP (pm_ok188) (pm_iteP (pm_ok189) (pm_ok190))) (pm_iteP (pm_iteP (pm_ok191) (pm_ok192)) (pm_iteP (pm_ok193) (pm_ok194)))) (pm_iteP (pm_iteP (pm_iteP (pm_ok195) (pm_ok196)) (pm_iteP (pm_ok197) (pm_ok198))) (pm_iteP (pm_iteP (pm_ok199) (pm_ok200)) (pm_iteP (pm_ok201) (pm_ok202)))))) (pm_iteP (pm_iteP (pm_iteP (pm_iteP (pm_ok203) (pm_iteP (pm_ok204) (pm_ok205))) (pm_iteP (pm_iteP (pm_ok206) (pm_ok207)) (pm_iteP (pm_ok208) (pm_ok209)))) (pm_iteP (pm_iteP (pm_ok210) (pm_iteP (pm_ok211) (pm_ok212))) (pm_iteP (pm_iteP (pm_ok213) (pm_ok214)) (pm_iteP (pm_ok215) (pm_ok216))))) (pm_iteP (pm_iteP (pm_iteP (pm_ok217) (pm_iteP (pm_ok218) (pm_ok219))) (pm_iteP (pm_iteP (pm_ok220) (pm_ok221)) (pm_iteP (pm_ok222) (pm_ok223)))) (pm_iteP (pm_iteP (pm_iteP (pm_ok224) (pm_ok225)) (pm_iteP (pm_ok226) (pm_ok227))) (pm_iteP (pm_iteP (pm_ok228) (pm_ok229)) (pm_iteP (pm_ok230) (pm_ok231))))))))
