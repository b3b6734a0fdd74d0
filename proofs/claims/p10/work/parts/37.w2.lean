theorem C_X11_code_c109_c97_c114_c107_c0_c0 (s0 : xS) (hG0 : GI s0) (a : Int) (b_a : 109 ≤ a ∧ a ≤ 109) (b : Int) (b_b : 97 ≤ b ∧ b ≤ 97) (d : Int) (b_d : 114 ≤ d ∧ d ≤ 114) (e : Int) (b_e : 107 ≤ e ∧ e ≤ 107) (g : Int) (b_g : 0 ≤ g ∧ g ≤ 0) (h : Int) (b_h : 0 ≤ h ∧ h ≤ 0) : xe none 179 0 (lv_args 0 [vi a, vi b, vi d, vi e, vi g, vi h]) [] s0 0 0 (fun s' v => GI s' ∧ FL [] s0 s' ∧ ∃ z, v = some (vj z) ∧ in64 z ∧ (z = 257105)) := by
  have f0 : FL [] s0 s0 := FL.rf
  show xe none 179 0 [(0, vi a), (1, vi b), (2, vi d), (3, vi e), (4, vi g), (5, vi h)] [] s0 0 0 _
  refine x_ldc2 k179_0 (z := 27) rfl (by decide +kernel) ?_
  refine x_A k179_3 (fun _ => rfl) ?_
  refine x_i2l k179_4 (by first | exact x_rb b_a rfl rfl | exact ⟨by omega, by omega⟩) ?_
  refine x_ldc2 k179_5 (z := 96) rfl (by decide +kernel) ?_
  refine x_lsub k179_8 ?_
  refine x_topL (fun z1 e_z1 => ?_)
  refine x_lmul k179_9 ?_
  refine x_topL (fun z2 e_z2 => ?_)
  refine x_A k179_10 (fun _ => rfl) ?_
  refine x_i2l k179_11 (by first | exact x_rb b_b rfl rfl | exact ⟨by omega, by omega⟩) ?_
  refine x_ladd k179_12 ?_
  refine x_topL (fun z3 e_z3 => ?_)
  refine x_ldc2 k179_13 (z := 96) rfl (by decide +kernel) ?_
  refine x_lsub k179_16 ?_
  refine x_topL (fun z4 e_z4 => ?_)
  refine x_lstore k179_17 (ls' := [(6, vj z4), (0, vi a), (1, vi b), (2, vi d), (3, vi e), (4, vi g), (5, vi h)]) (by decide) rfl ?_
  refine x_A k179_19 (fun _ => rfl) ?_
  refine x_if_ne k179_20 (t := 28) rfl (by first | exact x_rb b_d rfl rfl | exact ⟨by omega, by omega⟩) (fun c5 => ?_) (fun c5 => by exfalso; omega)
  refine x_ldc2 k179_28 (z := 27) rfl (by decide +kernel) ?_
  refine x_A k179_31 (fun _ => rfl) ?_
  refine x_lmul k179_33 ?_
  refine x_topL (fun z6 e_z6 => ?_)
  refine x_A k179_34 (fun _ => rfl) ?_
  refine x_i2l k179_35 (by first | exact x_rb b_d rfl rfl | exact ⟨by omega, by omega⟩) ?_
  refine x_ladd k179_36 ?_
  refine x_topL (fun z7 e_z7 => ?_)
  refine x_ldc2 k179_37 (z := 96) rfl (by decide +kernel) ?_
  refine x_lsub k179_40 ?_
  refine x_topL (fun z8 e_z8 => ?_)
  refine x_lstore k179_41 (ls' := [(6, vj z8), (0, vi a), (1, vi b), (2, vi d), (3, vi e), (4, vi g), (5, vi h)]) (by decide) rfl ?_
  refine x_A k179_43 (fun _ => rfl) ?_
  refine x_if_ne k179_44 (t := 52) rfl (by first | exact x_rb b_e rfl rfl | exact ⟨by omega, by omega⟩) (fun c9 => ?_) (fun c9 => by exfalso; omega)
  refine x_ldc2 k179_52 (z := 27) rfl (by decide +kernel) ?_
  refine x_A k179_55 (fun _ => rfl) ?_
  refine x_lmul k179_57 ?_
  refine x_topL (fun z10 e_z10 => ?_)
  refine x_A k179_58 (fun _ => rfl) ?_
  refine x_i2l k179_59 (by first | exact x_rb b_e rfl rfl | exact ⟨by omega, by omega⟩) ?_
  refine x_ladd k179_60 ?_
  refine x_topL (fun z11 e_z11 => ?_)
  refine x_ldc2 k179_61 (z := 96) rfl (by decide +kernel) ?_
  refine x_lsub k179_64 ?_
  refine x_topL (fun z12 e_z12 => ?_)
  refine x_lstore k179_65 (ls' := [(6, vj z12), (0, vi a), (1, vi b), (2, vi d), (3, vi e), (4, vi g), (5, vi h)]) (by decide) rfl ?_
  refine x_A k179_67 (fun _ => rfl) ?_
  refine x_if_ne k179_69 (t := 77) rfl (by first | exact x_rb b_g rfl rfl | exact ⟨by omega, by omega⟩) (fun c13 => by exfalso; omega) (fun c13 => ?_)
  refine x_A k179_72 (fun _ => rfl) ?_
  refine x_goto k179_74 (t := 91) rfl ?_
  refine x_lstore k179_91 (ls' := [(6, vj z12), (0, vi a), (1, vi b), (2, vi d), (3, vi e), (4, vi g), (5, vi h)]) (by decide) rfl ?_
  refine x_A k179_93 (fun _ => rfl) ?_
  refine x_if_ne k179_95 (t := 103) rfl (by first | exact x_rb b_h rfl rfl | exact ⟨by omega, by omega⟩) (fun c14 => by exfalso; omega) (fun c14 => ?_)
  refine x_A k179_98 (fun _ => rfl) ?_
  refine x_goto k179_100 (t := 117) rfl ?_
  exact x_lret k179_117 rfl ⟨hG0, f0, z12, rfl, ⟨by omega, by omega⟩, by omega⟩
theorem C_X11_code_c119_c111_c114_c100_c0_c0 (s0 : xS) (hG0 : GI s0) (a : Int) (b_a : 119 ≤ a ∧ a ≤ 119) (b : Int) (b_b : 111 ≤ b ∧ b ≤ 111) (d : Int) (b_d : 114 ≤ d ∧ d ≤ 114) (e : Int) (b_e : 100 ≤ e ∧ e ≤ 100) (g : Int) (b_g : 0 ≤ g ∧ g ≤ 0) (h : Int) (b_h : 0 ≤ h ∧ h ≤ 0) : xe none 179 0 (lv_args 0 [vi a, vi b, vi d, vi e, vi g, vi h]) [] s0 0 0 (fun s' v => GI s' ∧ FL [] s0 s' ∧ ∃ z, v = some (vj z) ∧ in64 z ∧ (z = 464134)) := by
  have f0 : FL [] s0 s0 := FL.rf
  show xe none 179 0 [(0, vi a), (1, vi b), (2, vi d), (3, vi e), (4, vi g), (5, vi h)] [] s0 0 0 _
  refine x_ldc2 k179_0 (z := 27) rfl (by decide +kernel) ?_
  refine x_A k179_3 (fun _ => rfl) ?_
  refine x_i2l k179_4 (by first | exact x_rb b_a rfl rfl | exact ⟨by omega, by omega⟩) ?_
  refine x_ldc2 k179_5 (z := 96) rfl (by decide +kernel) ?_
  refine x_lsub k179_8 ?_
  refine x_topL (fun z1 e_z1 => ?_)
  refine x_lmul k179_9 ?_
  refine x_topL (fun z2 e_z2 => ?_)
  refine x_A k179_10 (fun _ => rfl) ?_
  refine x_i2l k179_11 (by first | exact x_rb b_b rfl rfl | exact ⟨by omega, by omega⟩) ?_
  refine x_ladd k179_12 ?_
  refine x_topL (fun z3 e_z3 => ?_)
  refine x_ldc2 k179_13 (z := 96) rfl (by decide +kernel) ?_
  refine x_lsub k179_16 ?_
  refine x_topL (fun z4 e_z4 => ?_)
  refine x_lstore k179_17 (ls' := [(6, vj z4), (0, vi a), (1, vi b), (2, vi d), (3, vi e), (4, vi g), (5, vi h)]) (by decide) rfl ?_
  refine x_A k179_19 (fun _ => rfl) ?_
  refine x_if_ne k179_20 (t := 28) rfl (by first | exact x_rb b_d rfl rfl | exact ⟨by omega, by omega⟩) (fun c5 => ?_) (fun c5 => by exfalso; omega)
  refine x_ldc2 k179_28 (z := 27) rfl (by decide +kernel) ?_
  refine x_A k179_31 (fun _ => rfl) ?_
  refine x_lmul k179_33 ?_
  refine x_topL (fun z6 e_z6 => ?_)
  refine x_A k179_34 (fun _ => rfl) ?_
  refine x_i2l k179_35 (by first | exact x_rb b_d rfl rfl | exact ⟨by omega, by omega⟩) ?_
  refine x_ladd k179_36 ?_
  refine x_topL (fun z7 e_z7 => ?_)
  refine x_ldc2 k179_37 (z := 96) rfl (by decide +kernel) ?_
  refine x_lsub k179_40 ?_
  refine x_topL (fun z8 e_z8 => ?_)
  refine x_lstore k179_41 (ls' := [(6, vj z8), (0, vi a), (1, vi b), (2, vi d), (3, vi e), (4, vi g), (5, vi h)]) (by decide) rfl ?_
  refine x_A k179_43 (fun _ => rfl) ?_
  refine x_if_ne k179_44 (t := 52) rfl (by first | exact x_rb b_e rfl rfl | exact ⟨by omega, by omega⟩) (fun c9 => ?_) (fun c9 => by exfalso; omega)
  refine x_ldc2 k179_52 (z := 27) rfl (by decide +kernel) ?_
  refine x_A k179_55 (fun _ => rfl) ?_
  refine x_lmul k179_57 ?_
  refine x_topL (fun z10 e_z10 => ?_)
  refine x_A k179_58 (fun _ => rfl) ?_
  refine x_i2l k179_59 (by first | exact x_rb b_e rfl rfl | exact ⟨by omega, by omega⟩) ?_
  refine x_ladd k179_60 ?_
  refine x_topL (fun z11 e_z11 => ?_)
  refine x_ldc2 k179_61 (z := 96) rfl (by decide +kernel) ?_
  refine x_lsub k179_64 ?_
  refine x_topL (fun z12 e_z12 => ?_)
  refine x_lstore k179_65 (ls' := [(6, vj z12), (0, vi a), (1, vi b), (2, vi d), (3, vi e), (4, vi g), (5, vi h)]) (by decide) rfl ?_
  refine x_A k179_67 (fun _ => rfl) ?_
  refine x_if_ne k179_69 (t := 77) rfl (by first | exact x_rb b_g rfl rfl | exact ⟨by omega, by omega⟩) (fun c13 => by exfalso; omega) (fun c13 => ?_)
  refine x_A k179_72 (fun _ => rfl) ?_
  refine x_goto k179_74 (t := 91) rfl ?_
  refine x_lstore k179_91 (ls' := [(6, vj z12), (0, vi a), (1, vi b), (2, vi d), (3, vi e), (4, vi g), (5, vi h)]) (by decide) rfl ?_
  refine x_A k179_93 (fun _ => rfl) ?_
  refine x_if_ne k179_95 (t := 103) rfl (by first | exact x_rb b_h rfl rfl | exact ⟨by omega, by omega⟩) (fun c14 => by exfalso; omega) (fun c14 => ?_)
  refine x_A k179_98 (fun _ => rfl) ?_
  refine x_goto k179_100 (t := 117) rfl ?_
  exact x_lret k179_117 rfl ⟨hG0, f0, z12, rfl, ⟨by omega, by omega⟩, by omega⟩
theorem C_X11_code_c104_c97_c110_c100_c0_c0 (s0 : xS) (hG0 : GI s0) (a : Int) (b_a : 104 ≤ a ∧ a ≤ 104) (b : Int) (b_b : 97 ≤ b ∧ b ≤ 97) (d : Int) (b_d : 110 ≤ d ∧ d ≤ 110) (e : Int) (b_e : 100 ≤ e ∧ e ≤ 100) (g : Int) (b_g : 0 ≤ g ∧ g ≤ 0) (h : Int) (b_h : 0 ≤ h ∧ h ≤ 0) : xe none 179 0 (lv_args 0 [vi a, vi b, vi d, vi e, vi g, vi h]) [] s0 0 0 (fun s' v => GI s' ∧ FL [] s0 s' ∧ ∃ z, v = some (vj z) ∧ in64 z ∧ (z = 158575)) := by
  have f0 : FL [] s0 s0 := FL.rf
  show xe none 179 0 [(0, vi a), (1, vi b), (2, vi d), (3, vi e), (4, vi g), (5, vi h)] [] s0 0 0 _
  refine x_ldc2 k179_0 (z := 27) rfl (by decide +kernel) ?_
  refine x_A k179_3 (fun _ => rfl) ?_
  refine x_i2l k179_4 (by first | exact x_rb b_a rfl rfl | exact ⟨by omega, by omega⟩) ?_
  refine x_ldc2 k179_5 (z := 96) rfl (by decide +kernel) ?_
  refine x_lsub k179_8 ?_
  refine x_topL (fun z1 e_z1 => ?_)
  refine x_lmul k179_9 ?_
  refine x_topL (fun z2 e_z2 => ?_)
  refine x_A k179_10 (fun _ => rfl) ?_
  refine x_i2l k179_11 (by first | exact x_rb b_b rfl rfl | exact ⟨by omega, by omega⟩) ?_
  refine x_ladd k179_12 ?_
  refine x_topL (fun z3 e_z3 => ?_)
  refine x_ldc2 k179_13 (z := 96) rfl (by decide +kernel) ?_
  refine x_lsub k179_16 ?_
  refine x_topL (fun z4 e_z4 => ?_)
  refine x_lstore k179_17 (ls' := [(6, vj z4), (0, vi a), (1, vi b), (2, vi d), (3, vi e), (4, vi g), (5, vi h)]) (by decide) rfl ?_
  refine x_A k179_19 (fun _ => rfl) ?_
  refine x_if_ne k179_20 (t := 28) rfl (by first | exact x_rb b_d rfl rfl | exact ⟨by omega, by omega⟩) (fun c5 => ?_) (fun c5 => by exfalso; omega)
  refine x_ldc2 k179_28 (z := 27) rfl (by decide +kernel) ?_
  refine x_A k179_31 (fun _ => rfl) ?_
  refine x_lmul k179_33 ?_
  refine x_topL (fun z6 e_z6 => ?_)
  refine x_A k179_34 (fun _ => rfl) ?_
  refine x_i2l k179_35 (by first | exact x_rb b_d rfl rfl | exact ⟨by omega, by omega⟩) ?_
  refine x_ladd k179_36 ?_
  refine x_topL (fun z7 e_z7 => ?_)
  refine x_ldc2 k179_37 (z := 96) rfl (by decide +kernel) ?_
  refine x_lsub k179_40 ?_
  refine x_topL (fun z8 e_z8 => ?_)
  refine x_lstore k179_41 (ls' := [(6, vj z8), (0, vi a), (1, vi b), (2, vi d), (3, vi e), (4, vi g), (5, vi h)]) (by decide) rfl ?_
  refine x_A k179_43 (fun _ => rfl) ?_
  refine x_if_ne k179_44 (t := 52) rfl (by first | exact x_rb b_e rfl rfl | exact ⟨by omega, by omega⟩) (fun c9 => ?_) (fun c9 => by exfalso; omega)
  refine x_ldc2 k179_52 (z := 27) rfl (by decide +kernel) ?_
  refine x_A k179_55 (fun _ => rfl) ?_
  refine x_lmul k179_57 ?_
  refine x_topL (fun z10 e_z10 => ?_)
  refine x_A k179_58 (fun _ => rfl) ?_
  refine x_i2l k179_59 (by first | exact x_rb b_e rfl rfl | exact ⟨by omega, by omega⟩) ?_
  refine x_ladd k179_60 ?_
  refine x_topL (fun z11 e_z11 => ?_)
  refine x_ldc2 k179_61 (z := 96) rfl (by decide +kernel) ?_
  refine x_lsub k179_64 ?_
  refine x_topL (fun z12 e_z12 => ?_)
  refine x_lstore k179_65 (ls' := [(6, vj z12), (0, vi a), (1, vi b), (2, vi d), (3, vi e), (4, vi g), (5, vi h)]) (by decide) rfl ?_
  refine x_A k179_67 (fun _ => rfl) ?_
  refine x_if_ne k179_69 (t := 77) rfl (by first | exact x_rb b_g rfl rfl | exact ⟨by omega, by omega⟩) (fun c13 => by exfalso; omega) (fun c13 => ?_)
  refine x_A k179_72 (fun _ => rfl) ?_
  refine x_goto k179_74 (t := 91) rfl ?_
  refine x_lstore k179_91 (ls' := [(6, vj z12), (0, vi a), (1, vi b), (2, vi d), (3, vi e), (4, vi g), (5, vi h)]) (by decide) rfl ?_
  refine x_A k179_93 (fun _ => rfl) ?_
  refine x_if_ne k179_95 (t := 103) rfl (by first | exact x_rb b_h rfl rfl | exact ⟨by omega, by omega⟩) (fun c14 => by exfalso; omega) (fun c14 => ?_)
  refine x_A k179_98 (fun _ => rfl) ?_
  refine x_goto k179_100 (t := 117) rfl ?_
  exact x_lret k179_117 rfl ⟨hG0, f0, z12, rfl, ⟨by omega, by omega⟩, by omega⟩
theorem C_X11_code_c98_c101_c102_c111_c114_c101 (s0 : xS) (hG0 : GI s0) (a : Int) (b_a : 98 ≤ a ∧ a ≤ 98) (b : Int) (b_b : 101 ≤ b ∧ b ≤ 101) (d : Int) (b_d : 102 ≤ d ∧ d ≤ 102) (e : Int) (b_e : 111 ≤ e ∧ e ≤ 111) (g : Int) (b_g : 114 ≤ g ∧ g ≤ 114) (h : Int) (b_h : 101 ≤ h ∧ h ≤ 101) : xe none 179 0 (lv_args 0 [vi a, vi b, vi d, vi e, vi g, vi h]) [] s0 0 0 (fun s' v => GI s' ∧ FL [] s0 s' ∧ ∃ z, v = some (vj z) ∧ in64 z ∧ (z = 31484543)) := by
  have f0 : FL [] s0 s0 := FL.rf
  show xe none 179 0 [(0, vi a), (1, vi b), (2, vi d), (3, vi e), (4, vi g), (5, vi h)] [] s0 0 0 _
  refine x_ldc2 k179_0 (z := 27) rfl (by decide +kernel) ?_
  refine x_A k179_3 (fun _ => rfl) ?_
  refine x_i2l k179_4 (by first | exact x_rb b_a rfl rfl | exact ⟨by omega, by omega⟩) ?_
  refine x_ldc2 k179_5 (z := 96) rfl (by decide +kernel) ?_
  refine x_lsub k179_8 ?_
  refine x_topL (fun z1 e_z1 => ?_)
  refine x_lmul k179_9 ?_
  refine x_topL (fun z2 e_z2 => ?_)
  refine x_A k179_10 (fun _ => rfl) ?_
  refine x_i2l k179_11 (by first | exact x_rb b_b rfl rfl | exact ⟨by omega, by omega⟩) ?_
  refine x_ladd k179_12 ?_
  refine x_topL (fun z3 e_z3 => ?_)
  refine x_ldc2 k179_13 (z := 96) rfl (by decide +kernel) ?_
  refine x_lsub k179_16 ?_
  refine x_topL (fun z4 e_z4 => ?_)
  refine x_lstore k179_17 (ls' := [(6, vj z4), (0, vi a), (1, vi b), (2, vi d), (3, vi e), (4, vi g), (5, vi h)]) (by decide) rfl ?_
  refine x_A k179_19 (fun _ => rfl) ?_
  refine x_if_ne k179_20 (t := 28) rfl (by first | exact x_rb b_d rfl rfl | exact ⟨by omega, by omega⟩) (fun c5 => ?_) (fun c5 => by exfalso; omega)
  refine x_ldc2 k179_28 (z := 27) rfl (by decide +kernel) ?_
  refine x_A k179_31 (fun _ => rfl) ?_
  refine x_lmul k179_33 ?_
  refine x_topL (fun z6 e_z6 => ?_)
  refine x_A k179_34 (fun _ => rfl) ?_
  refine x_i2l k179_35 (by first | exact x_rb b_d rfl rfl | exact ⟨by omega, by omega⟩) ?_
  refine x_ladd k179_36 ?_
  refine x_topL (fun z7 e_z7 => ?_)
  refine x_ldc2 k179_37 (z := 96) rfl (by decide +kernel) ?_
  refine x_lsub k179_40 ?_
  refine x_topL (fun z8 e_z8 => ?_)
  refine x_lstore k179_41 (ls' := [(6, vj z8), (0, vi a), (1, vi b), (2, vi d), (3, vi e), (4, vi g), (5, vi h)]) (by decide) rfl ?_
  refine x_A k179_43 (fun _ => rfl) ?_
  refine x_if_ne k179_44 (t := 52) rfl (by first | exact x_rb b_e rfl rfl | exact ⟨by omega, by omega⟩) (fun c9 => ?_) (fun c9 => by exfalso; omega)
  refine x_ldc2 k179_52 (z := 27) rfl (by decide +kernel) ?_
  refine x_A k179_55 (fun _ => rfl) ?_
  refine x_lmul k179_57 ?_
  refine x_topL (fun z10 e_z10 => ?_)
  refine x_A k179_58 (fun _ => rfl) ?_
  refine x_i2l k179_59 (by first | exact x_rb b_e rfl rfl | exact ⟨by omega, by omega⟩) ?_
  refine x_ladd k179_60 ?_
  refine x_topL (fun z11 e_z11 => ?_)
  refine x_ldc2 k179_61 (z := 96) rfl (by decide +kernel) ?_
  refine x_lsub k179_64 ?_
  refine x_topL (fun z12 e_z12 => ?_)
  refine x_lstore k179_65 (ls' := [(6, vj z12), (0, vi a), (1, vi b), (2, vi d), (3, vi e), (4, vi g), (5, vi h)]) (by decide) rfl ?_
  refine x_A k179_67 (fun _ => rfl) ?_
  refine x_if_ne k179_69 (t := 77) rfl (by first | exact x_rb b_g rfl rfl | exact ⟨by omega, by omega⟩) (fun c13 => ?_) (fun c13 => by exfalso; omega)
  refine x_ldc2 k179_77 (z := 27) rfl (by decide +kernel) ?_
  refine x_A k179_80 (fun _ => rfl) ?_
  refine x_lmul k179_82 ?_
  refine x_topL (fun z14 e_z14 => ?_)
  refine x_A k179_83 (fun _ => rfl) ?_
  refine x_i2l k179_85 (by first | exact x_rb b_g rfl rfl | exact ⟨by omega, by omega⟩) ?_
  refine x_ladd k179_86 ?_
  refine x_topL (fun z15 e_z15 => ?_)
  refine x_ldc2 k179_87 (z := 96) rfl (by decide +kernel) ?_
  refine x_lsub k179_90 ?_
  refine x_topL (fun z16 e_z16 => ?_)
  refine x_lstore k179_91 (ls' := [(6, vj z16), (0, vi a), (1, vi b), (2, vi d), (3, vi e), (4, vi g), (5, vi h)]) (by decide) rfl ?_
  refine x_A k179_93 (fun _ => rfl) ?_
  refine x_if_ne k179_95 (t := 103) rfl (by first | exact x_rb b_h rfl rfl | exact ⟨by omega, by omega⟩) (fun c17 => ?_) (fun c17 => by exfalso; omega)
  refine x_ldc2 k179_103 (z := 27) rfl (by decide +kernel) ?_
  refine x_A k179_106 (fun _ => rfl) ?_
  refine x_lmul k179_108 ?_
  refine x_topL (fun z18 e_z18 => ?_)
  refine x_A k179_109 (fun _ => rfl) ?_
  refine x_i2l k179_111 (by first | exact x_rb b_h rfl rfl | exact ⟨by omega, by omega⟩) ?_
  refine x_ladd k179_112 ?_
  refine x_topL (fun z19 e_z19 => ?_)
  refine x_ldc2 k179_113 (z := 96) rfl (by decide +kernel) ?_
  refine x_lsub k179_116 ?_
  refine x_topL (fun z20 e_z20 => ?_)
  exact x_lret k179_117 rfl ⟨hG0, f0, z20, rfl, ⟨by omega, by omega⟩, by omega⟩
theorem C_X11_code_c97_c116_c0_c0_c0_c0 (s0 : xS) (hG0 : GI s0) (a : Int) (b_a : 97 ≤ a ∧ a ≤ 97) (b : Int) (b_b : 116 ≤ b ∧ b ≤ 116) (d : Int) (b_d : 0 ≤ d ∧ d ≤ 0) (e : Int) (b_e : 0 ≤ e ∧ e ≤ 0) (g : Int) (b_g : 0 ≤ g ∧ g ≤ 0) (h : Int) (b_h : 0 ≤ h ∧ h ≤ 0) : xe none 179 0 (lv_args 0 [vi a, vi b, vi d, vi e, vi g, vi h]) [] s0 0 0 (fun s' v => GI s' ∧ FL [] s0 s' ∧ ∃ z, v = some (vj z) ∧ in64 z ∧ (z = 47)) := by
  have f0 : FL [] s0 s0 := FL.rf
  show xe none 179 0 [(0, vi a), (1, vi b), (2, vi d), (3, vi e), (4, vi g), (5, vi h)] [] s0 0 0 _
  refine x_ldc2 k179_0 (z := 27) rfl (by decide +kernel) ?_
  refine x_A k179_3 (fun _ => rfl) ?_
  refine x_i2l k179_4 (by first | exact x_rb b_a rfl rfl | exact ⟨by omega, by omega⟩) ?_
  refine x_ldc2 k179_5 (z := 96) rfl (by decide +kernel) ?_
  refine x_lsub k179_8 ?_
  refine x_topL (fun z1 e_z1 => ?_)
  refine x_lmul k179_9 ?_
  refine x_topL (fun z2 e_z2 => ?_)
  refine x_A k179_10 (fun _ => rfl) ?_
  refine x_i2l k179_11 (by first | exact x_rb b_b rfl rfl | exact ⟨by omega, by omega⟩) ?_
  refine x_ladd k179_12 ?_
  refine x_topL (fun z3 e_z3 => ?_)
  refine x_ldc2 k179_13 (z := 96) rfl (by decide +kernel) ?_
  refine x_lsub k179_16 ?_
  refine x_topL (fun z4 e_z4 => ?_)
  refine x_lstore k179_17 (ls' := [(6, vj z4), (0, vi a), (1, vi b), (2, vi d), (3, vi e), (4, vi g), (5, vi h)]) (by decide) rfl ?_
  refine x_A k179_19 (fun _ => rfl) ?_
  refine x_if_ne k179_20 (t := 28) rfl (by first | exact x_rb b_d rfl rfl | exact ⟨by omega, by omega⟩) (fun c5 => by exfalso; omega) (fun c5 => ?_)
  refine x_A k179_23 (fun _ => rfl) ?_
  refine x_goto k179_25 (t := 41) rfl ?_
  refine x_lstore k179_41 (ls' := [(6, vj z4), (0, vi a), (1, vi b), (2, vi d), (3, vi e), (4, vi g), (5, vi h)]) (by decide) rfl ?_
  refine x_A k179_43 (fun _ => rfl) ?_
  refine x_if_ne k179_44 (t := 52) rfl (by first | exact x_rb b_e rfl rfl | exact ⟨by omega, by omega⟩) (fun c6 => by exfalso; omega) (fun c6 => ?_)
  refine x_A k179_47 (fun _ => rfl) ?_
  refine x_goto k179_49 (t := 65) rfl ?_
  refine x_lstore k179_65 (ls' := [(6, vj z4), (0, vi a), (1, vi b), (2, vi d), (3, vi e), (4, vi g), (5, vi h)]) (by decide) rfl ?_
  refine x_A k179_67 (fun _ => rfl) ?_
  refine x_if_ne k179_69 (t := 77) rfl (by first | exact x_rb b_g rfl rfl | exact ⟨by omega, by omega⟩) (fun c7 => by exfalso; omega) (fun c7 => ?_)
  refine x_A k179_72 (fun _ => rfl) ?_
  refine x_goto k179_74 (t := 91) rfl ?_
  refine x_lstore k179_91 (ls' := [(6, vj z4), (0, vi a), (1, vi b), (2, vi d), (3, vi e), (4, vi g), (5, vi h)]) (by decide) rfl ?_
  refine x_A k179_93 (fun _ => rfl) ?_
  refine x_if_ne k179_95 (t := 103) rfl (by first | exact x_rb b_h rfl rfl | exact ⟨by omega, by omega⟩) (fun c8 => by exfalso; omega) (fun c8 => ?_)
  refine x_A k179_98 (fun _ => rfl) ?_
  refine x_goto k179_100 (t := 117) rfl ?_
  exact x_lret k179_117 rfl ⟨hG0, f0, z4, rfl, ⟨by omega, by omega⟩, by omega⟩
theorem C_X11_code_c110_c111_c116_c0_c0_c0 (s0 : xS) (hG0 : GI s0) (a : Int) (b_a : 110 ≤ a ∧ a ≤ 110) (b : Int) (b_b : 111 ≤ b ∧ b ≤ 111) (d : Int) (b_d : 116 ≤ d ∧ d ≤ 116) (e : Int) (b_e : 0 ≤ e ∧ e ≤ 0) (g : Int) (b_g : 0 ≤ g ∧ g ≤ 0) (h : Int) (b_h : 0 ≤ h ∧ h ≤ 0) : xe none 179 0 (lv_args 0 [vi a, vi b, vi d, vi e, vi g, vi h]) [] s0 0 0 (fun s' v => GI s' ∧ FL [] s0 s' ∧ ∃ z, v = some (vj z) ∧ in64 z ∧ (z = 10631)) := by
  have f0 : FL [] s0 s0 := FL.rf
  show xe none 179 0 [(0, vi a), (1, vi b), (2, vi d), (3, vi e), (4, vi g), (5, vi h)] [] s0 0 0 _
  refine x_ldc2 k179_0 (z := 27) rfl (by decide +kernel) ?_
  refine x_A k179_3 (fun _ => rfl) ?_
  refine x_i2l k179_4 (by first | exact x_rb b_a rfl rfl | exact ⟨by omega, by omega⟩) ?_
  refine x_ldc2 k179_5 (z := 96) rfl (by decide +kernel) ?_
  refine x_lsub k179_8 ?_
  refine x_topL (fun z1 e_z1 => ?_)
  refine x_lmul k179_9 ?_
  refine x_topL (fun z2 e_z2 => ?_)
  refine x_A k179_10 (fun _ => rfl) ?_
  refine x_i2l k179_11 (by first | exact x_rb b_b rfl rfl | exact ⟨by omega, by omega⟩) ?_
  refine x_ladd k179_12 ?_
  refine x_topL (fun z3 e_z3 => ?_)
  refine x_ldc2 k179_13 (z := 96) rfl (by decide +kernel) ?_
  refine x_lsub k179_16 ?_
  refine x_topL (fun z4 e_z4 => ?_)
  refine x_lstore k179_17 (ls' := [(6, vj z4), (0, vi a), (1, vi b), (2, vi d), (3, vi e), (4, vi g), (5, vi h)]) (by decide) rfl ?_
  refine x_A k179_19 (fun _ => rfl) ?_
  refine x_if_ne k179_20 (t := 28) rfl (by first | exact x_rb b_d rfl rfl | exact ⟨by omega, by omega⟩) (fun c5 => ?_) (fun c5 => by exfalso; omega)
  refine x_ldc2 k179_28 (z := 27) rfl (by decide +kernel) ?_
  refine x_A k179_31 (fun _ => rfl) ?_
  refine x_lmul k179_33 ?_
  refine x_topL (fun z6 e_z6 => ?_)
  refine x_A k179_34 (fun _ => rfl) ?_
  refine x_i2l k179_35 (by first | exact x_rb b_d rfl rfl | exact ⟨by omega, by omega⟩) ?_
  refine x_ladd k179_36 ?_
  refine x_topL (fun z7 e_z7 => ?_)
  refine x_ldc2 k179_37 (z := 96) rfl (by decide +kernel) ?_
  refine x_lsub k179_40 ?_
  refine x_topL (fun z8 e_z8 => ?_)
  refine x_lstore k179_41 (ls' := [(6, vj z8), (0, vi a), (1, vi b), (2, vi d), (3, vi e), (4, vi g), (5, vi h)]) (by decide) rfl ?_
  refine x_A k179_43 (fun _ => rfl) ?_
  refine x_if_ne k179_44 (t := 52) rfl (by first | exact x_rb b_e rfl rfl | exact ⟨by omega, by omega⟩) (fun c9 => by exfalso; omega) (fun c9 => ?_)
  refine x_A k179_47 (fun _ => rfl) ?_
  refine x_goto k179_49 (t := 65) rfl ?_
  refine x_lstore k179_65 (ls' := [(6, vj z8), (0, vi a), (1, vi b), (2, vi d), (3, vi e), (4, vi g), (5, vi h)]) (by decide) rfl ?_
  refine x_A k179_67 (fun _ => rfl) ?_
  refine x_if_ne k179_69 (t := 77) rfl (by first | exact x_rb b_g rfl rfl | exact ⟨by omega, by omega⟩) (fun c10 => by exfalso; omega) (fun c10 => ?_)
  refine x_A k179_72 (fun _ => rfl) ?_
  refine x_goto k179_74 (t := 91) rfl ?_
  refine x_lstore k179_91 (ls' := [(6, vj z8), (0, vi a), (1, vi b), (2, vi d), (3, vi e), (4, vi g), (5, vi h)]) (by decide) rfl ?_
  refine x_A k179_93 (fun _ => rfl) ?_
  refine x_if_ne k179_95 (t := 103) rfl (by first | exact x_rb b_h rfl rfl | exact ⟨by omega, by omega⟩) (fun c11 => by exfalso; omega) (fun c11 => ?_)
  refine x_A k179_98 (fun _ => rfl) ?_
  refine x_goto k179_100 (t := 117) rfl ?_
  exact x_lret k179_117 rfl ⟨hG0, f0, z8, rfl, ⟨by omega, by omega⟩, by omega⟩
theorem C_X11_code_c97_c110_c100_c0_c0_c0 (s0 : xS) (hG0 : GI s0) (a : Int) (b_a : 97 ≤ a ∧ a ≤ 97) (b : Int) (b_b : 110 ≤ b ∧ b ≤ 110) (d : Int) (b_d : 100 ≤ d ∧ d ≤ 100) (e : Int) (b_e : 0 ≤ e ∧ e ≤ 0) (g : Int) (b_g : 0 ≤ g ∧ g ≤ 0) (h : Int) (b_h : 0 ≤ h ∧ h ≤ 0) : xe none 179 0 (lv_args 0 [vi a, vi b, vi d, vi e, vi g, vi h]) [] s0 0 0 (fun s' v => GI s' ∧ FL [] s0 s' ∧ ∃ z, v = some (vj z) ∧ in64 z ∧ (z = 1111)) := by
  have f0 : FL [] s0 s0 := FL.rf
  show xe none 179 0 [(0, vi a), (1, vi b), (2, vi d), (3, vi e), (4, vi g), (5, vi h)] [] s0 0 0 _
  refine x_ldc2 k179_0 (z := 27) rfl (by decide +kernel) ?_
  refine x_A k179_3 (fun _ => rfl) ?_
  refine x_i2l k179_4 (by first | exact x_rb b_a rfl rfl | exact ⟨by omega, by omega⟩) ?_
  refine x_ldc2 k179_5 (z := 96) rfl (by decide +kernel) ?_
  refine x_lsub k179_8 ?_
  refine x_topL (fun z1 e_z1 => ?_)
  refine x_lmul k179_9 ?_
  refine x_topL (fun z2 e_z2 => ?_)
  refine x_A k179_10 (fun _ => rfl) ?_
  refine x_i2l k179_11 (by first | exact x_rb b_b rfl rfl | exact ⟨by omega, by omega⟩) ?_
  refine x_ladd k179_12 ?_
  refine x_topL (fun z3 e_z3 => ?_)
  refine x_ldc2 k179_13 (z := 96) rfl (by decide +kernel) ?_
  refine x_lsub k179_16 ?_
  refine x_topL (fun z4 e_z4 => ?_)
  refine x_lstore k179_17 (ls' := [(6, vj z4), (0, vi a), (1, vi b), (2, vi d), (3, vi e), (4, vi g), (5, vi h)]) (by decide) rfl ?_
  refine x_A k179_19 (fun _ => rfl) ?_
  refine x_if_ne k179_20 (t := 28) rfl (by first | exact x_rb b_d rfl rfl | exact ⟨by omega, by omega⟩) (fun c5 => ?_) (fun c5 => by exfalso; omega)
  refine x_ldc2 k179_28 (z := 27) rfl (by decide +kernel) ?_
  refine x_A k179_31 (fun _ => rfl) ?_
  refine x_lmul k179_33 ?_
  refine x_topL (fun z6 e_z6 => ?_)
  refine x_A k179_34 (fun _ => rfl) ?_
  refine x_i2l k179_35 (by first | exact x_rb b_d rfl rfl | exact ⟨by omega, by omega⟩) ?_
  refine x_ladd k179_36 ?_
  refine x_topL (fun z7 e_z7 => ?_)
  refine x_ldc2 k179_37 (z := 96) rfl (by decide +kernel) ?_
  refine x_lsub k179_40 ?_
  refine x_topL (fun z8 e_z8 => ?_)
  refine x_lstore k179_41 (ls' := [(6, vj z8), (0, vi a), (1, vi b), (2, vi d), (3, vi e), (4, vi g), (5, vi h)]) (by decide) rfl ?_
  refine x_A k179_43 (fun _ => rfl) ?_
  refine x_if_ne k179_44 (t := 52) rfl (by first | exact x_rb b_e rfl rfl | exact ⟨by omega, by omega⟩) (fun c9 => by exfalso; omega) (fun c9 => ?_)
  refine x_A k179_47 (fun _ => rfl) ?_
  refine x_goto k179_49 (t := 65) rfl ?_
  refine x_lstore k179_65 (ls' := [(6, vj z8), (0, vi a), (1, vi b), (2, vi d), (3, vi e), (4, vi g), (5, vi h)]) (by decide) rfl ?_
  refine x_A k179_67 (fun _ => rfl) ?_
  refine x_if_ne k179_69 (t := 77) rfl (by first | exact x_rb b_g rfl rfl | exact ⟨by omega, by omega⟩) (fun c10 => by exfalso; omega) (fun c10 => ?_)
  refine x_A k179_72 (fun _ => rfl) ?_
  refine x_goto k179_74 (t := 91) rfl ?_
  refine x_lstore k179_91 (ls' := [(6, vj z8), (0, vi a), (1, vi b), (2, vi d), (3, vi e), (4, vi g), (5, vi h)]) (by decide) rfl ?_
  refine x_A k179_93 (fun _ => rfl) ?_
  refine x_if_ne k179_95 (t := 103) rfl (by first | exact x_rb b_h rfl rfl | exact ⟨by omega, by omega⟩) (fun c11 => by exfalso; omega) (fun c11 => ?_)
  refine x_A k179_98 (fun _ => rfl) ?_
  refine x_goto k179_100 (t := 117) rfl ?_
  exact x_lret k179_117 rfl ⟨hG0, f0, z8, rfl, ⟨by omega, by omega⟩, by omega⟩
theorem C_X11_code_c111_c114_c0_c0_c0_c0 (s0 : xS) (hG0 : GI s0) (a : Int) (b_a : 111 ≤ a ∧ a ≤ 111) (b : Int) (b_b : 114 ≤ b ∧ b ≤ 114) (d : Int) (b_d : 0 ≤ d ∧ d ≤ 0) (e : Int) (b_e : 0 ≤ e ∧ e ≤ 0) (g : Int) (b_g : 0 ≤ g ∧ g ≤ 0) (h : Int) (b_h : 0 ≤ h ∧ h ≤ 0) : xe none 179 0 (lv_args 0 [vi a, vi b, vi d, vi e, vi g, vi h]) [] s0 0 0 (fun s' v => GI s' ∧ FL [] s0 s' ∧ ∃ z, v = some (vj z) ∧ in64 z ∧ (z = 423)) := by
  have f0 : FL [] s0 s0 := FL.rf
  show xe none 179 0 [(0, vi a), (1, vi b), (2, vi d), (3, vi e), (4, vi g), (5, vi h)] [] s0 0 0 _
  refine x_ldc2 k179_0 (z := 27) rfl (by decide +kernel) ?_
  refine x_A k179_3 (fun _ => rfl) ?_
  refine x_i2l k179_4 (by first | exact x_rb b_a rfl rfl | exact ⟨by omega, by omega⟩) ?_
  refine x_ldc2 k179_5 (z := 96) rfl (by decide +kernel) ?_
  refine x_lsub k179_8 ?_
  refine x_topL (fun z1 e_z1 => ?_)
  refine x_lmul k179_9 ?_
  refine x_topL (fun z2 e_z2 => ?_)
  refine x_A k179_10 (fun _ => rfl) ?_
  refine x_i2l k179_11 (by first | exact x_rb b_b rfl rfl | exact ⟨by omega, by omega⟩) ?_
  refine x_ladd k179_12 ?_
  refine x_topL (fun z3 e_z3 => ?_)
  refine x_ldc2 k179_13 (z := 96) rfl (by decide +kernel) ?_
  refine x_lsub k179_16 ?_
  refine x_topL (fun z4 e_z4 => ?_)
  refine x_lstore k179_17 (ls' := [(6, vj z4), (0, vi a), (1, vi b), (2, vi d), (3, vi e), (4, vi g), (5, vi h)]) (by decide) rfl ?_
  refine x_A k179_19 (fun _ => rfl) ?_
  refine x_if_ne k179_20 (t := 28) rfl (by first | exact x_rb b_d rfl rfl | exact ⟨by omega, by omega⟩) (fun c5 => by exfalso; omega) (fun c5 => ?_)
  refine x_A k179_23 (fun _ => rfl) ?_
  refine x_goto k179_25 (t := 41) rfl ?_
  refine x_lstore k179_41 (ls' := [(6, vj z4), (0, vi a), (1, vi b), (2, vi d), (3, vi e), (4, vi g), (5, vi h)]) (by decide) rfl ?_
  refine x_A k179_43 (fun _ => rfl) ?_
  refine x_if_ne k179_44 (t := 52) rfl (by first | exact x_rb b_e rfl rfl | exact ⟨by omega, by omega⟩) (fun c6 => by exfalso; omega) (fun c6 => ?_)
  refine x_A k179_47 (fun _ => rfl) ?_
  refine x_goto k179_49 (t := 65) rfl ?_
  refine x_lstore k179_65 (ls' := [(6, vj z4), (0, vi a), (1, vi b), (2, vi d), (3, vi e), (4, vi g), (5, vi h)]) (by decide) rfl ?_
  refine x_A k179_67 (fun _ => rfl) ?_
  refine x_if_ne k179_69 (t := 77) rfl (by first | exact x_rb b_g rfl rfl | exact ⟨by omega, by omega⟩) (fun c7 => by exfalso; omega) (fun c7 => ?_)
  refine x_A k179_72 (fun _ => rfl) ?_
  refine x_goto k179_74 (t := 91) rfl ?_
  refine x_lstore k179_91 (ls' := [(6, vj z4), (0, vi a), (1, vi b), (2, vi d), (3, vi e), (4, vi g), (5, vi h)]) (by decide) rfl ?_
  refine x_A k179_93 (fun _ => rfl) ?_
  refine x_if_ne k179_95 (t := 103) rfl (by first | exact x_rb b_h rfl rfl | exact ⟨by omega, by omega⟩) (fun c8 => by exfalso; omega) (fun c8 => ?_)
  refine x_A k179_98 (fun _ => rfl) ?_
  refine x_goto k179_100 (t := 117) rfl ?_
  exact x_lret k179_117 rfl ⟨hG0, f0, z4, rfl, ⟨by omega, by omega⟩, by omega⟩
theorem C_X11_put_256 (s0 : xS) (hG0 : GI s0) (a : Int) (b_a : 0 ≤ a ∧ a ≤ 7) (b : Int) (b_b : 0 ≤ b ∧ b ≤ 999) (p_256_47 : 0 ≤ s0 256 47 ∧ s0 256 47 ≤ 109) (p_256_43 : 0 ≤ s0 256 43 ∧ s0 256 43 ≤ 7) (i0_J : J s0) : xe none 194 0 (lv_args 0 [.ref 256, vi a, vi b]) [] s0 0 0 (fun s' v => GI s' ∧ FL [6080, 6144, 4144] s0 s' ∧ v = none ∧ (s' 256 47 = s0 256 47 + 1 ∧ ∀ i, s' 287 i = if i = (110 * s0 256 43 + s0 256 47).toNat then a else s0 287 i) ∧ J s') := by
  have f0 : FL [6080, 6144, 4144] s0 s0 := FL.rf
  show xe none 194 0 [(0, .ref 256), (1, vi a), (2, vi b)] [] s0 0 0 _
  obtain ⟨z1, e_z1⟩ : ∃ z, z = s0 256 47 := ⟨_, rfl⟩
  have g_z1 : (0 : Int) ≤ s0 256 47 ∧ s0 256 47 ≤ 110 := hG0 256 47
  obtain ⟨z2, e_z2⟩ : ∃ z, z = s0 256 43 := ⟨_, rfl⟩
  have g_z2 : (0 : Int) ≤ s0 256 43 ∧ s0 256 43 ≤ 8 := hG0 256 43
  refine x_A k194_0 (fun _ => rfl) ?_
  refine x_getR k194_1 (f := 45) rfl (q := 256) (n := 62) (kd := 15) ⟨by decide, rfl⟩ (q2 := 287) (by decide) rfl ?_
  refine x_bipush k194_4 (by decide +kernel) ?_
  refine x_A k194_6 (fun _ => rfl) ?_
  refine x_getI k194_7 (f := 43) rfl (q := 256) (n := 62) (kd := 15) ⟨by decide, rfl⟩ (by decide) rfl ?_
  rw [e_z2.symm]
  refine x_imul k194_10 ?_
  refine x_top (fun z3 e_z3 => ?_)
  refine x_A k194_11 (fun _ => rfl) ?_
  refine x_getI k194_12 (f := 47) rfl (q := 256) (n := 62) (kd := 15) ⟨by decide, rfl⟩ (by decide) rfl ?_
  rw [e_z1.symm]
  refine x_iadd k194_15 ?_
  refine x_top (fun z4 e_z4 => ?_)
  refine x_A k194_16 (fun _ => rfl) ?_
  refine x_iast k194_17 (q := 287) (n := 880) ⟨by decide, rfl⟩ (by decide) (by first | exact x_rbel e_z4 g_z4 rfl rfl | exact x_rbl g_z4 rfl rfl | exact ⟨by omega, by omega⟩) ?_
  refine x_nh (fun s5 e_s5 => ?_)
  have hG_s5 : GI s5 := by rw [e_s5]; exact hG0.up (show 0 ≤ a ∧ a ≤ 7 from (by first | exact x_rb b_a rfl rfl | exact ⟨by omega, by omega⟩))
  have f_s5 : FL [6080, 6144, 4144] s0 s5 := by rw [e_s5]; exact f0.up (show 6080 ∈ [6080, 6144, 4144] from by decide +kernel)
  have q6 : s5 256 47 = z1 := by rw [e_s5, x_up_q (by decide)]; exact e_z1.symm
  have q7 : s5 256 43 = z2 := by rw [e_s5, x_up_q (by decide)]; exact e_z2.symm
  have q8 : s5 287 z4.toNat = a := by rw [e_s5]; exact x_up_same
  have J_s5 : J s5 := by rw [e_s5]; exact J.put i0_J hG0 (by omega)
  refine x_A k194_18 (fun _ => rfl) ?_
  refine x_getR k194_19 (f := 46) rfl (q := 256) (n := 62) (kd := 15) ⟨by decide, rfl⟩ (q2 := 288) (by decide) rfl ?_
  refine x_bipush k194_22 (by decide +kernel) ?_
  refine x_A k194_24 (fun _ => rfl) ?_
  refine x_getI k194_25 (f := 43) rfl (q := 256) (n := 62) (kd := 15) ⟨by decide, rfl⟩ (by decide) rfl ?_
  rw [q7]
  refine x_imul k194_28 ?_
  refine x_top (fun z9 e_z9 => ?_)
  refine x_A k194_29 (fun _ => rfl) ?_
  refine x_getI k194_30 (f := 47) rfl (q := 256) (n := 62) (kd := 15) ⟨by decide, rfl⟩ (by decide) rfl ?_
  rw [q6]
  refine x_iadd k194_33 ?_
  refine x_top (fun z10 e_z10 => ?_)
  refine x_A k194_34 (fun _ => rfl) ?_
  refine x_iast k194_35 (q := 288) (n := 880) ⟨by decide, rfl⟩ (by decide) (by first | exact x_rbel e_z10 g_z10 rfl rfl | exact x_rbl g_z10 rfl rfl | exact ⟨by omega, by omega⟩) ?_
  refine x_nh (fun s11 e_s11 => ?_)
  have hG_s11 : GI s11 := by rw [e_s11]; exact hG_s5.up (show 0 ≤ b ∧ b ≤ 999 from (by first | exact x_rb b_b rfl rfl | exact ⟨by omega, by omega⟩))
  have f_s11 : FL [6080, 6144, 4144] s0 s11 := by rw [e_s11]; exact f_s5.up (show 6144 ∈ [6080, 6144, 4144] from by decide +kernel)
  have q12 : s11 256 47 = z1 := by rw [e_s11, x_up_q (by decide)]; exact q6
  have q13 : s11 256 43 = z2 := by rw [e_s11, x_up_q (by decide)]; exact q7
  have q14 : s11 287 z4.toNat = a := by rw [e_s11, x_up_q (by first | decide | omega)]; exact q8
  have q15 : s11 288 z10.toNat = b := by rw [e_s11]; exact x_up_same
  have J_s11 : J s11 := by rw [e_s11]; exact J.up J_s5 (show 6144 ∉ LJ from by decide)
  refine x_A k194_36 (fun _ => rfl) ?_
  refine x_A k194_37 (fun _ => rfl) ?_
  refine x_getI k194_38 (f := 47) rfl (q := 256) (n := 62) (kd := 15) ⟨by decide, rfl⟩ (by decide) rfl ?_
  rw [q12]
  refine x_A k194_41 (fun _ => rfl) ?_
  refine x_iadd k194_42 ?_
  refine x_top (fun z16 e_z16 => ?_)
  refine x_putI k194_43 (f := 47) rfl (q := 256) (n := 62) (kd := 15) ⟨by decide, rfl⟩ rfl rfl rfl ?_
  refine x_nh (fun s17 e_s17 => ?_)
  have hG_s17 : GI s17 := by rw [e_s17]; exact hG_s11.up (show 0 ≤ z16 ∧ z16 ≤ 110 from (by first | exact x_rbe e_z16 g_z16 rfl rfl | exact x_rb g_z16 rfl rfl | exact ⟨by omega, by omega⟩))
  have f_s17 : FL [6080, 6144, 4144] s0 s17 := by rw [e_s17]; exact f_s11.up (show 4144 ∈ [6080, 6144, 4144] from by decide +kernel)
  have q18 : s17 256 43 = z2 := by rw [e_s17, x_up_i (by decide)]; exact q13
  have q19 : s17 256 47 = z16 := by rw [e_s17]; exact x_up_same
  have q20 : s17 287 z4.toNat = a := by rw [e_s17, x_up_q (by first | decide | omega)]; exact q14
  have q21 : s17 288 z10.toNat = b := by rw [e_s17, x_up_q (by first | decide | omega)]; exact q15
  have J_s17 : J s17 := by rw [e_s17]; exact J.up J_s11 (show 4144 ∉ LJ from by decide)
  exact x_vret k194_46 rfl ⟨hG_s17, f_s17, rfl, ⟨by omega, fun i => by rw [e_s17, x_up_q (by decide), e_s11, x_up_q (by decide), e_s5, x_up_at, show z4 = 110 * z2 + z1 by omega]⟩, J_s17⟩
theorem C_X11_hold_256 (s0 : xS) (hG0 : GI s0) (a : Int) (b_a : 0 ≤ a ∧ a ≤ 3) (p_256_48 : 0 ≤ s0 256 48 ∧ s0 256 48 ≤ 119) : xe none 196 0 (lv_args 0 [.ref 256, vi a]) [] s0 0 0 (fun s' v => GI s' ∧ FL [6208, 4145] s0 s' ∧ v = none ∧ (s' 256 48 = s0 256 48 + 1 ∧ ∀ i, s' 289 i = if i = (s0 256 48).toNat then a else s0 289 i)) := by
  have f0 : FL [6208, 4145] s0 s0 := FL.rf
  show xe none 196 0 [(0, .ref 256), (1, vi a)] [] s0 0 0 _
  obtain ⟨z1, e_z1⟩ : ∃ z, z = s0 256 48 := ⟨_, rfl⟩
  have g_z1 : (0 : Int) ≤ s0 256 48 ∧ s0 256 48 ≤ 120 := hG0 256 48
  refine x_A k196_0 (fun _ => rfl) ?_
  refine x_getR k196_1 (f := 49) rfl (q := 256) (n := 62) (kd := 15) ⟨by decide, rfl⟩ (q2 := 289) (by decide) rfl ?_
  refine x_A k196_4 (fun _ => rfl) ?_
  refine x_getI k196_5 (f := 48) rfl (q := 256) (n := 62) (kd := 15) ⟨by decide, rfl⟩ (by decide) rfl ?_
  rw [e_z1.symm]
  refine x_A k196_8 (fun _ => rfl) ?_
  refine x_iast k196_9 (q := 289) (n := 120) ⟨by decide, rfl⟩ (by decide) (by first | exact x_rbel e_z1 g_z1 rfl rfl | exact x_rbl g_z1 rfl rfl | exact ⟨by omega, by omega⟩) ?_
  refine x_nh (fun s2 e_s2 => ?_)
  have hG_s2 : GI s2 := by rw [e_s2]; exact hG0.up (show 0 ≤ a ∧ a ≤ 3 from (by first | exact x_rb b_a rfl rfl | exact ⟨by omega, by omega⟩))
  have f_s2 : FL [6208, 4145] s0 s2 := by rw [e_s2]; exact f0.up (show 6208 ∈ [6208, 4145] from by decide +kernel)
  have q3 : s2 256 48 = z1 := by rw [e_s2, x_up_q (by decide)]; exact e_z1.symm
  have q4 : s2 289 z1.toNat = a := by rw [e_s2]; exact x_up_same
  refine x_A k196_10 (fun _ => rfl) ?_
  refine x_A k196_11 (fun _ => rfl) ?_
  refine x_getI k196_12 (f := 48) rfl (q := 256) (n := 62) (kd := 15) ⟨by decide, rfl⟩ (by decide) rfl ?_
  rw [q3]
  refine x_A k196_15 (fun _ => rfl) ?_
  refine x_iadd k196_16 ?_
  refine x_top (fun z5 e_z5 => ?_)
  refine x_putI k196_17 (f := 48) rfl (q := 256) (n := 62) (kd := 15) ⟨by decide, rfl⟩ rfl rfl rfl ?_
  refine x_nh (fun s6 e_s6 => ?_)
  have hG_s6 : GI s6 := by rw [e_s6]; exact hG_s2.up (show 0 ≤ z5 ∧ z5 ≤ 120 from (by first | exact x_rbe e_z5 g_z5 rfl rfl | exact x_rb g_z5 rfl rfl | exact ⟨by omega, by omega⟩))
  have f_s6 : FL [6208, 4145] s0 s6 := by rw [e_s6]; exact f_s2.up (show 4145 ∈ [6208, 4145] from by decide +kernel)
  have q7 : s6 256 48 = z5 := by rw [e_s6]; exact x_up_same
  have q8 : s6 289 z1.toNat = a := by rw [e_s6, x_up_q (by first | decide | omega)]; exact q4
  exact x_vret k196_20 rfl ⟨hG_s6, f_s6, rfl, ⟨by omega, fun i => by rw [e_s6, x_up_q (by decide), e_s2, x_up_at, show z1 = s0 256 48 by omega]⟩⟩
theorem L_C_X11_work_256_0 (s0 : xS) (a : Int) (b_a : 0 ≤ a ∧ a ≤ 2) (pt : s0 256 47 + s0 256 48 ≤ 100) (pa : s0 256 43 ≤ 7)  : ∀ (n : Nat) (s : xS) (x1 : Int) (x1000 : Int) (x1001 : Int) (x1002 : Int) (hG : GI s) (f : FL [6080, 6144, 4144, 4145] s0 s) (b_x1 : 0 ≤ x1 ∧ x1 ≤ 2) (b_x1000 : 0 ≤ x1000 ∧ x1000 ≤ 120) (b_x1001 : 0 ≤ x1001 ∧ x1001 ≤ 110) (b_x1002 : 0 ≤ x1002 ∧ x1002 ≤ 8) (w_0 : x1 = a) (w_1 : x1000 + x1001 = s0 256 47 + s0 256 48) (w_2 : x1002 = s0 256 43) (e_x1000 : x1000 = s 256 48) (e_x1001 : x1001 = s 256 47) (e_x1002 : x1002 = s 256 43) (i_J : J s) (i_AW1 : AW s 1 (cn3 (s0 289) (s0 256 48).toNat) (s0 256 47 + s0 256 48))  (hm : x1000 < (n : Int)), xe none 195 0 [(0, .ref 256), (1, vi x1)] [] s 0 0 (fun s' v => GI s' ∧ FL [6080, 6144, 4144, 4145] s0 s' ∧ v = none ∧ (s' 256 48 = 0 ∨ s' 289 (s' 256 48 - 1).toNat = 3 ∨ s' 289 (s' 256 48 - 1).toNat < a) ∧ J s' ∧ AW s' 1 (cn3 (s0 289) (s0 256 48).toNat) (s0 256 47 + s0 256 48)) := by
  intro n
  induction n with
  | zero => intro s x1 x1000 x1001 x1002 hG f b_x1 b_x1000 b_x1001 b_x1002 w_0 w_1 w_2 e_x1000 e_x1001 e_x1002 i_J i_AW1  hm; exfalso; omega
  | succ n ih =>
    intro s x1 x1000 x1001 x1002 hG f b_x1 b_x1000 b_x1001 b_x1002 w_0 w_1 w_2 e_x1000 e_x1001 e_x1002 i_J i_AW1  hm
    refine x_A k195_0 (fun _ => rfl) ?_
    refine x_getI k195_1 (f := 48) rfl (q := 256) (n := 62) (kd := 15) ⟨by decide, rfl⟩ (by decide) rfl ?_
    rw [e_x1000.symm]
    refine x_if_le k195_4 (t := 64) rfl (by first | exact x_rb b_x1000 rfl rfl | exact ⟨by omega, by omega⟩) (fun c76 => ?_) (fun c76 => ?_)
    · skip
      exact x_vret k195_64 rfl ⟨hG, f, rfl, Or.inl (by omega), i_J, i_AW1⟩
    · skip
      refine x_A k195_7 (fun _ => rfl) ?_
      refine x_getR k195_8 (f := 49) rfl (q := 256) (n := 62) (kd := 15) ⟨by decide, rfl⟩ (q2 := 289) (by decide) rfl ?_
      refine x_A k195_11 (fun _ => rfl) ?_
      refine x_getI k195_12 (f := 48) rfl (q := 256) (n := 62) (kd := 15) ⟨by decide, rfl⟩ (by decide) rfl ?_
      rw [e_x1000.symm]
      refine x_A k195_15 (fun _ => rfl) ?_
      refine x_isub k195_16 ?_
      refine x_top (fun z77 e_z77 => ?_)
      refine x_iald k195_17 (q := 289) (n := 120) ⟨by decide, rfl⟩ (by decide) (by first | exact x_rbel e_z77 g_z77 rfl rfl | exact x_rbl g_z77 rfl rfl | exact ⟨by omega, by omega⟩) ?_
      refine x_top (fun z78 e_z78 => ?_)
      have g_z78 : (0 : Int) ≤ s 289 z77.toNat ∧ s 289 z77.toNat ≤ 3 := hG 289 z77.toNat
      refine x_A k195_18 (fun _ => rfl) ?_
      refine x_ic_eq k195_19 (t := 64) rfl (by first | exact x_rbe e_z78 g_z78 rfl rfl | exact x_rb g_z78 rfl rfl | exact ⟨by omega, by omega⟩) ⟨by decide, by decide⟩ (fun c79 => ?_) (fun c79 => ?_)
      · skip
        exact x_vret k195_64 rfl ⟨hG, f, rfl, Or.inr (by rw [← e_x1000, show x1000 - 1 = z77 by omega, e_z78.symm]; omega), i_J, i_AW1⟩
      · skip
        refine x_A k195_22 (fun _ => rfl) ?_
        refine x_getR k195_23 (f := 49) rfl (q := 256) (n := 62) (kd := 15) ⟨by decide, rfl⟩ (q2 := 289) (by decide) rfl ?_
        refine x_A k195_26 (fun _ => rfl) ?_
        refine x_getI k195_27 (f := 48) rfl (q := 256) (n := 62) (kd := 15) ⟨by decide, rfl⟩ (by decide) rfl ?_
        rw [e_x1000.symm]
        refine x_A k195_30 (fun _ => rfl) ?_
        refine x_isub k195_31 ?_
        refine x_top (fun z80 e_z80 => ?_)
        refine x_iald k195_32 (q := 289) (n := 120) ⟨by decide, rfl⟩ (by decide) (by first | exact x_rbel e_z80 g_z80 rfl rfl | exact x_rbl g_z80 rfl rfl | exact ⟨by omega, by omega⟩) ?_
        refine x_top (fun z81 e_z81 => ?_)
        have g_z81 : (0 : Int) ≤ s 289 z80.toNat ∧ s 289 z80.toNat ≤ 3 := hG 289 z80.toNat
        refine x_A k195_33 (fun _ => rfl) ?_
        refine x_ic_lt k195_34 (t := 64) rfl (by first | exact x_rbe e_z81 g_z81 rfl rfl | exact x_rb g_z81 rfl rfl | exact ⟨by omega, by omega⟩) (by first | exact x_rb b_x1 rfl rfl | exact ⟨by omega, by omega⟩) (fun c82 => ?_) (fun c82 => ?_)
        · skip
          exact x_vret k195_64 rfl ⟨hG, f, rfl, Or.inr (by rw [← e_x1000, show x1000 - 1 = z80 by omega, e_z81.symm]; omega), i_J, i_AW1⟩
        · skip
          refine x_A k195_37 (fun _ => rfl) ?_
          refine x_A k195_38 (fun _ => rfl) ?_
          refine x_getI k195_39 (f := 48) rfl (q := 256) (n := 62) (kd := 15) ⟨by decide, rfl⟩ (by decide) rfl ?_
          rw [e_x1000.symm]
          refine x_A k195_42 (fun _ => rfl) ?_
          refine x_isub k195_43 ?_
          refine x_top (fun z83 e_z83 => ?_)
          refine x_putI k195_44 (f := 48) rfl (q := 256) (n := 62) (kd := 15) ⟨by decide, rfl⟩ rfl rfl rfl ?_
          refine x_nh (fun s84 e_s84 => ?_)
          have hG_s84 : GI s84 := by rw [e_s84]; exact hG.up (show 0 ≤ z83 ∧ z83 ≤ 120 from (by first | exact x_rbe e_z83 g_z83 rfl rfl | exact x_rb g_z83 rfl rfl | exact ⟨by omega, by omega⟩))
          have f_s84 : FL [6080, 6144, 4144, 4145] s0 s84 := by rw [e_s84]; exact f.up (show 4145 ∈ [6080, 6144, 4144, 4145] from by decide +kernel)
          have q85 : s84 256 47 = x1001 := by rw [e_s84, x_up_i (by decide)]; exact e_x1001.symm
          have q86 : s84 256 43 = x1002 := by rw [e_s84, x_up_i (by decide)]; exact e_x1002.symm
          have q87 : s84 256 48 = z83 := by rw [e_s84]; exact x_up_same
          have q88 : s84 289 z77.toNat = z78 := by rw [e_s84, x_up_q (by first | decide | omega)]; exact e_z78.symm
          have q89 : s84 289 z80.toNat = z81 := by rw [e_s84, x_up_q (by first | decide | omega)]; exact e_z81.symm
          have J_s84 : J s84 := by rw [e_s84]; exact J.up i_J (show 4145 ∉ LJ from by decide)
          refine x_A k195_47 (fun _ => rfl) ?_
          refine x_A k195_48 (fun _ => rfl) ?_
          refine x_getR k195_49 (f := 49) rfl (q := 256) (n := 62) (kd := 15) ⟨by decide, rfl⟩ (q2 := 289) (by decide) rfl ?_
          refine x_A k195_52 (fun _ => rfl) ?_
          refine x_getI k195_53 (f := 48) rfl (q := 256) (n := 62) (kd := 15) ⟨by decide, rfl⟩ (by decide) rfl ?_
          rw [q87]
          refine x_iald k195_56 (q := 289) (n := 120) ⟨by decide, rfl⟩ (by decide) (by first | exact x_rbel e_z83 g_z83 rfl rfl | exact x_rbl g_z83 rfl rfl | exact ⟨by omega, by omega⟩) ?_
          refine x_top (fun z90 e_z90 => ?_)
          have g_z90 : (0 : Int) ≤ s84 289 z83.toNat ∧ s84 289 z83.toNat ≤ 3 := hG_s84 289 z83.toNat
          have eq_w : z90 = z78 := by rw [← e_z90.symm, ← q88, show z83 = z77 by omega]
          refine x_A k195_57 (fun _ => rfl) ?_
          refine x_callV k195_58 (y := 194) (n := 2) (w0 := 0) (w1 := 2) (as := [vi z90, vi 0]) (rest := []) (by decide +kernel) (q := 256) (nq := 62) (kq := 15) ⟨by decide, rfl⟩ rfl rfl rfl rfl (xe_mono (C_X11_put_256 s84 hG_s84 z90 (by first | exact x_rbe e_z90 g_z90 rfl rfl | exact x_rb g_z90 rfl rfl | exact ⟨by omega, by omega⟩) 0 ⟨by decide, by decide⟩ ⟨by omega, by omega⟩ ⟨by omega, by omega⟩ J_s84) ?_)
          rintro s92 v ⟨hG_s92, t_s92, rfl, xp_z91, J_s92⟩
          have f_s92 : FL [6080, 6144, 4144, 4145] s0 s92 := f_s84.tr t_s92 (by decide +kernel)
          have q93 : s92 256 43 = x1002 := (t_s92 256 43 (show 4140 ∉ [6080, 6144, 4144] from by decide +kernel)).trans q86
          have q94 : s92 256 48 = z83 := (t_s92 256 48 (show 4145 ∉ [6080, 6144, 4144] from by decide +kernel)).trans q87
          have q95 : s92 289 z77.toNat = z78 := (t_s92 289 z77.toNat (show 6208 ∉ [6080, 6144, 4144] from by decide +kernel)).trans q88
          have q96 : s92 289 z80.toNat = z81 := (t_s92 289 z80.toNat (show 6208 ∉ [6080, 6144, 4144] from by decide +kernel)).trans q89
          have q97 : s92 289 z83.toNat = z90 := (t_s92 289 z83.toNat (show 6208 ∉ [6080, 6144, 4144] from by decide +kernel)).trans e_z90.symm
          show xe none 195 61 [(0, .ref 256), (1, vi x1)] [] s92 0 0 _
          have AW1_n : AW s92 1 (cn3 (s0 289) (s0 256 48).toNat) (s0 256 47 + s0 256 48) := AW.pop i_AW1 (k := z90) (by omega) (by omega) (by omega) (by rw [← e_x1000, show x1000 - 1 = z77 by omega, eq_w]; exact e_z78.symm) (by omega) (by omega) (by omega) (by omega) (by omega) (funext fun i => (t_s92 289 i (show 6208 ∉ _ from by decide)).trans (by rw [e_s84, x_up_q (by decide)])) (fun i => by rw [xp_z91.2 i, show s84 256 43 = s 256 43 by omega, show s84 256 47 = s 256 47 by omega, e_s84, x_up_q (by decide)])
          refine x_goto k195_61 (t := 0) rfl ?_
          obtain ⟨z98, e_z98⟩ : ∃ z, z = s92 256 47 := ⟨_, rfl⟩
          have g_z98 : (0 : Int) ≤ s92 256 47 ∧ s92 256 47 ≤ 110 := hG_s92 256 47
          refine x_ls (l := [(0, .ref 256), (1, vi x1)]) (show ([0, 1] : List Nat).Nodup from by decide +kernel) ⟨rfl, rfl, trivial⟩ ?_
          exact ih s92 x1 z83 z98 x1002 hG_s92 f_s92 (by first | exact x_rb b_x1 rfl rfl | exact ⟨by omega, by omega⟩) (by first | exact x_rbe e_z83 g_z83 rfl rfl | exact x_rb g_z83 rfl rfl | exact ⟨by omega, by omega⟩) (by first | exact x_rbe e_z98 g_z98 rfl rfl | exact x_rb g_z98 rfl rfl | exact ⟨by omega, by omega⟩) (by first | exact x_rb b_x1002 rfl rfl | exact ⟨by omega, by omega⟩) (by omega) (by omega) (by omega) (q94).symm (e_z98.symm).symm (q93).symm J_s92 AW1_n  (by omega)
theorem C_X11_work_256 (s0 : xS) (hG0 : GI s0) (a : Int) (b_a : 0 ≤ a ∧ a ≤ 2) (p_256_48 : 0 ≤ s0 256 48 ∧ s0 256 48 ≤ 120) (p_256_47 : 0 ≤ s0 256 47 ∧ s0 256 47 ≤ 110) (p_256_43 : 0 ≤ s0 256 43 ∧ s0 256 43 ≤ 8) (pt : s0 256 47 + s0 256 48 ≤ 100) (pa : s0 256 43 ≤ 7) (i0_J : J s0) (i0_AW1 : AW s0 1 (cn3 (s0 289) (s0 256 48).toNat) (s0 256 47 + s0 256 48)) : xe none 195 0 (lv_args 0 [.ref 256, vi a]) [] s0 0 0 (fun s' v => GI s' ∧ FL [6080, 6144, 4144, 4145] s0 s' ∧ v = none ∧ (s' 256 48 = 0 ∨ s' 289 (s' 256 48 - 1).toNat = 3 ∨ s' 289 (s' 256 48 - 1).toNat < a) ∧ J s' ∧ AW s' 1 (cn3 (s0 289) (s0 256 48).toNat) (s0 256 47 + s0 256 48)) := by
  have f0 : FL [6080, 6144, 4144, 4145] s0 s0 := FL.rf
  show xe none 195 0 [(0, .ref 256), (1, vi a)] [] s0 0 0 _
  obtain ⟨z99, e_z99⟩ : ∃ z, z = s0 256 48 := ⟨_, rfl⟩
  have g_z99 : (0 : Int) ≤ s0 256 48 ∧ s0 256 48 ≤ 120 := hG0 256 48
  obtain ⟨z100, e_z100⟩ : ∃ z, z = s0 256 47 := ⟨_, rfl⟩
  have g_z100 : (0 : Int) ≤ s0 256 47 ∧ s0 256 47 ≤ 110 := hG0 256 47
  obtain ⟨z101, e_z101⟩ : ∃ z, z = s0 256 43 := ⟨_, rfl⟩
  have g_z101 : (0 : Int) ≤ s0 256 43 ∧ s0 256 43 ≤ 8 := hG0 256 43
  refine x_ls (l := [(0, .ref 256), (1, vi a)]) (show ([0, 1] : List Nat).Nodup from by decide +kernel) ⟨rfl, rfl, trivial⟩ ?_
  exact L_C_X11_work_256_0 s0 a b_a pt pa  ((z99 + 1 : Int)).toNat s0 a z99 z100 z101 hG0 f0 (by first | exact x_rb b_a rfl rfl | exact ⟨by omega, by omega⟩) (by first | exact x_rbe e_z99 g_z99 rfl rfl | exact x_rb g_z99 rfl rfl | exact ⟨by omega, by omega⟩) (by first | exact x_rbe e_z100 g_z100 rfl rfl | exact x_rb g_z100 rfl rfl | exact ⟨by omega, by omega⟩) (by first | exact x_rbe e_z101 g_z101 rfl rfl | exact x_rb g_z101 rfl rfl | exact ⟨by omega, by omega⟩) (by omega) (by omega) (by omega) (e_z99.symm).symm (e_z100.symm).symm (e_z101.symm).symm i0_J i0_AW1  (by omega)
theorem C_X11_readLeaf_256 (s0 : xS) (hG0 : GI s0) (p_256_47 : 0 ≤ s0 256 47 ∧ s0 256 47 ≤ 110) (p_256_48 : 0 ≤ s0 256 48 ∧ s0 256 48 ≤ 120) (p_256_36 : 0 ≤ s0 256 36 ∧ s0 256 36 ≤ 160) (p_256_34 : 0 ≤ s0 256 34 ∧ s0 256 34 ≤ 160) (p_256_43 : 0 ≤ s0 256 43 ∧ s0 256 43 ≤ 8) (p_256_38 : 0 ≤ s0 256 38 ∧ s0 256 38 ≤ 160) (p_256_50 : 0 ≤ s0 256 50 ∧ s0 256 50 ≤ 5) (pb : s0 256 47 + s0 256 48 ≤ s0 256 36 ∧ s0 256 36 ≤ s0 256 34 ∧ s0 256 34 ≤ 100 ∧ s0 256 43 ≤ 7) (pc : (s0 256 37 ≠ 0 → s0 256 47 + s0 256 48 < s0 256 38) ∧ s0 256 38 ≤ s0 256 34) (i0_J : J s0) (i0_A0 : AW s0 0 (s0 256 50) (s0 256 47 + s0 256 48)) : xe none 197 0 (lv_args 0 [.ref 256]) [] s0 0 0 (fun s' v => GI s' ∧ FL [4133, 4136, 4132, 6080, 6144, 4144, 4145, 4148] s0 s' ∧ ∃ z, v = some (vi z) ∧ (0 ≤ z ∧ z ≤ 5) ∧ ((z = 0 → s0 256 37 ≠ 0 ∧ s0 256 38 ≤ s' 256 36 ∧ s' 256 36 ≤ s' 256 34 ∧ s' 256 47 + s' 256 48 ≤ s' 256 36 ∧ s' 256 47 + s' 256 48 = s0 256 47 + s0 256 48 + 1 ∧ s' 256 51 = 0) ∧ (z = 0 → AW s' 1 (s0 256 50) (s0 256 47 + s0 256 48 + 1))) ∧ J s') := by
  have f0 : FL [4133, 4136, 4132, 6080, 6144, 4144, 4145, 4148] s0 s0 := FL.rf
  show xe none 197 0 [(0, .ref 256)] [] s0 0 0 _
  obtain ⟨z1, e_z1⟩ : ∃ z, z = s0 256 47 := ⟨_, rfl⟩
  have g_z1 : (0 : Int) ≤ s0 256 47 ∧ s0 256 47 ≤ 110 := hG0 256 47
  obtain ⟨z2, e_z2⟩ : ∃ z, z = s0 256 48 := ⟨_, rfl⟩
  have g_z2 : (0 : Int) ≤ s0 256 48 ∧ s0 256 48 ≤ 120 := hG0 256 48
  obtain ⟨z3, e_z3⟩ : ∃ z, z = s0 256 36 := ⟨_, rfl⟩
  have g_z3 : (0 : Int) ≤ s0 256 36 ∧ s0 256 36 ≤ 160 := hG0 256 36
  obtain ⟨z4, e_z4⟩ : ∃ z, z = s0 256 34 := ⟨_, rfl⟩
  have g_z4 : (0 : Int) ≤ s0 256 34 ∧ s0 256 34 ≤ 160 := hG0 256 34
  obtain ⟨z5, e_z5⟩ : ∃ z, z = s0 256 43 := ⟨_, rfl⟩
  have g_z5 : (0 : Int) ≤ s0 256 43 ∧ s0 256 43 ≤ 8 := hG0 256 43
  obtain ⟨z6, e_z6⟩ : ∃ z, z = s0 256 38 := ⟨_, rfl⟩
  have g_z6 : (0 : Int) ≤ s0 256 38 ∧ s0 256 38 ≤ 160 := hG0 256 38
  obtain ⟨z7, e_z7⟩ : ∃ z, z = s0 256 50 := ⟨_, rfl⟩
  have g_z7 : (0 : Int) ≤ s0 256 50 ∧ s0 256 50 ≤ 5 := hG0 256 50
  refine x_A k197_0 (fun _ => rfl) ?_
  refine x_getJ k197_1 (f := 37) rfl (q := 256) (n := 62) (kd := 15) ⟨by decide, rfl⟩ (by decide) rfl ?_
  refine x_topL (fun z8 e_z8 => ?_)
  have b_z8 : in64 z8 := by rw [e_z8]; exact hG0 256 37
  refine x_bipush k197_4 (by decide +kernel) ?_
  refine x_bipush k197_6 (by decide +kernel) ?_
  refine x_bipush k197_8 (by decide +kernel) ?_
  refine x_bipush k197_10 (by decide +kernel) ?_
  refine x_A k197_12 (fun _ => rfl) ?_
  refine x_A k197_13 (fun _ => rfl) ?_
  refine x_callS k197_14 (y := 179) (n := 6) (w0 := 2) (w1 := 6) (as := [vi 109, vi 97, vi 114, vi 107, vi 0, vi 0]) (rest := [vj z8]) (by decide +kernel) rfl rfl rfl rfl (xe_mono (C_X11_code_c109_c97_c114_c107_c0_c0 s0 hG0 109 ⟨by decide, by decide⟩ 97 ⟨by decide, by decide⟩ 114 ⟨by decide, by decide⟩ 107 ⟨by decide, by decide⟩ 0 ⟨by decide, by decide⟩ 0 ⟨by decide, by decide⟩) ?_)
  rintro s10 v ⟨-, t_s10, z9, rfl, b_z9, xp_z9⟩
  rw [t_s10.nil]
  try rw [t_s10.nil] at xp_z9
  show xe none 197 17 [(0, .ref 256)] [vj z9, vj z8] s0 0 0 _
  refine x_lc_ne k197_17 k197_18 (t := 25) rfl b_z8 b_z9 (fun c11 => ?_) (fun c11 => ?_)
  · skip
    refine x_A k197_25 (fun _ => rfl) ?_
    refine x_getJ k197_26 (f := 37) rfl (q := 256) (n := 62) (kd := 15) ⟨by decide, rfl⟩ (by decide) rfl ?_
    refine x_topL (fun z12 e_z12 => ?_)
    have b_z12 : in64 z12 := by rw [e_z12]; exact hG0 256 37
    refine x_bipush k197_29 (by decide +kernel) ?_
    refine x_bipush k197_31 (by decide +kernel) ?_
    refine x_bipush k197_33 (by decide +kernel) ?_
    refine x_bipush k197_35 (by decide +kernel) ?_
    refine x_A k197_37 (fun _ => rfl) ?_
    refine x_A k197_38 (fun _ => rfl) ?_
    refine x_callS k197_39 (y := 179) (n := 6) (w0 := 2) (w1 := 6) (as := [vi 119, vi 111, vi 114, vi 100, vi 0, vi 0]) (rest := [vj z12]) (by decide +kernel) rfl rfl rfl rfl (xe_mono (C_X11_code_c119_c111_c114_c100_c0_c0 s0 hG0 119 ⟨by decide, by decide⟩ 111 ⟨by decide, by decide⟩ 114 ⟨by decide, by decide⟩ 100 ⟨by decide, by decide⟩ 0 ⟨by decide, by decide⟩ 0 ⟨by decide, by decide⟩) ?_)
    rintro s14 v ⟨-, t_s14, z13, rfl, b_z13, xp_z13⟩
    rw [t_s14.nil]
    try rw [t_s14.nil] at xp_z13
    show xe none 197 42 [(0, .ref 256)] [vj z13, vj z12] s0 0 0 _
    refine x_lc_ne k197_42 k197_43 (t := 50) rfl b_z12 b_z13 (fun c15 => ?_) (fun c15 => ?_)
    · skip
      refine x_A k197_50 (fun _ => rfl) ?_
      refine x_getJ k197_51 (f := 37) rfl (q := 256) (n := 62) (kd := 15) ⟨by decide, rfl⟩ (by decide) rfl ?_
      refine x_topL (fun z16 e_z16 => ?_)
      have b_z16 : in64 z16 := by rw [e_z16]; exact hG0 256 37
      refine x_bipush k197_54 (by decide +kernel) ?_
      refine x_bipush k197_56 (by decide +kernel) ?_
      refine x_bipush k197_58 (by decide +kernel) ?_
      refine x_bipush k197_60 (by decide +kernel) ?_
      refine x_A k197_62 (fun _ => rfl) ?_
      refine x_A k197_63 (fun _ => rfl) ?_
      refine x_callS k197_64 (y := 179) (n := 6) (w0 := 2) (w1 := 6) (as := [vi 104, vi 97, vi 110, vi 100, vi 0, vi 0]) (rest := [vj z16]) (by decide +kernel) rfl rfl rfl rfl (xe_mono (C_X11_code_c104_c97_c110_c100_c0_c0 s0 hG0 104 ⟨by decide, by decide⟩ 97 ⟨by decide, by decide⟩ 110 ⟨by decide, by decide⟩ 100 ⟨by decide, by decide⟩ 0 ⟨by decide, by decide⟩ 0 ⟨by decide, by decide⟩) ?_)
      rintro s18 v ⟨-, t_s18, z17, rfl, b_z17, xp_z17⟩
      rw [t_s18.nil]
      try rw [t_s18.nil] at xp_z17
      show xe none 197 67 [(0, .ref 256)] [vj z17, vj z16] s0 0 0 _
      refine x_lc_ne k197_67 k197_68 (t := 75) rfl b_z16 b_z17 (fun c19 => ?_) (fun c19 => ?_)
      · skip
        refine x_A k197_75 (fun _ => rfl) ?_
        refine x_getJ k197_76 (f := 37) rfl (q := 256) (n := 62) (kd := 15) ⟨by decide, rfl⟩ (by decide) rfl ?_
        refine x_topL (fun z20 e_z20 => ?_)
        have b_z20 : in64 z20 := by rw [e_z20]; exact hG0 256 37
        refine x_bipush k197_79 (by decide +kernel) ?_
        refine x_bipush k197_81 (by decide +kernel) ?_
        refine x_bipush k197_83 (by decide +kernel) ?_
        refine x_bipush k197_85 (by decide +kernel) ?_
        refine x_bipush k197_87 (by decide +kernel) ?_
        refine x_bipush k197_89 (by decide +kernel) ?_
        refine x_callS k197_91 (y := 179) (n := 6) (w0 := 2) (w1 := 6) (as := [vi 98, vi 101, vi 102, vi 111, vi 114, vi 101]) (rest := [vj z20]) (by decide +kernel) rfl rfl rfl rfl (xe_mono (C_X11_code_c98_c101_c102_c111_c114_c101 s0 hG0 98 ⟨by decide, by decide⟩ 101 ⟨by decide, by decide⟩ 102 ⟨by decide, by decide⟩ 111 ⟨by decide, by decide⟩ 114 ⟨by decide, by decide⟩ 101 ⟨by decide, by decide⟩) ?_)
        rintro s22 v ⟨-, t_s22, z21, rfl, b_z21, xp_z21⟩
        rw [t_s22.nil]
        try rw [t_s22.nil] at xp_z21
        show xe none 197 94 [(0, .ref 256)] [vj z21, vj z20] s0 0 0 _
        refine x_lc_ne k197_94 k197_95 (t := 103) rfl b_z20 b_z21 (fun c23 => ?_) (fun c23 => ?_)
        · skip
          refine x_A k197_103 (fun _ => rfl) ?_
          refine x_getJ k197_104 (f := 37) rfl (q := 256) (n := 62) (kd := 15) ⟨by decide, rfl⟩ (by decide) rfl ?_
          refine x_topL (fun z24 e_z24 => ?_)
          have b_z24 : in64 z24 := by rw [e_z24]; exact hG0 256 37
          refine x_bipush k197_107 (by decide +kernel) ?_
          refine x_bipush k197_109 (by decide +kernel) ?_
          refine x_A k197_111 (fun _ => rfl) ?_
          refine x_A k197_112 (fun _ => rfl) ?_
          refine x_A k197_113 (fun _ => rfl) ?_
          refine x_A k197_114 (fun _ => rfl) ?_
          refine x_callS k197_115 (y := 179) (n := 6) (w0 := 2) (w1 := 6) (as := [vi 97, vi 116, vi 0, vi 0, vi 0, vi 0]) (rest := [vj z24]) (by decide +kernel) rfl rfl rfl rfl (xe_mono (C_X11_code_c97_c116_c0_c0_c0_c0 s0 hG0 97 ⟨by decide, by decide⟩ 116 ⟨by decide, by decide⟩ 0 ⟨by decide, by decide⟩ 0 ⟨by decide, by decide⟩ 0 ⟨by decide, by decide⟩ 0 ⟨by decide, by decide⟩) ?_)
          rintro s26 v ⟨-, t_s26, z25, rfl, b_z25, xp_z25⟩
          rw [t_s26.nil]
          try rw [t_s26.nil] at xp_z25
          show xe none 197 118 [(0, .ref 256)] [vj z25, vj z24] s0 0 0 _
          refine x_lc_ne k197_118 k197_119 (t := 127) rfl b_z24 b_z25 (fun c27 => ?_) (fun c27 => ?_)
          · skip
            refine x_A k197_127 (fun _ => rfl) ?_
            refine x_istore_n k197_128 (ls' := [(1, vi (-1)), (0, .ref 256)]) (by decide) rfl ?_
            refine x_A k197_129 (fun _ => rfl) ?_
            refine x_if_ge k197_130 (t := 143) rfl ⟨by decide, by decide⟩ (fun c28 => by exfalso; omega) (fun c28 => ?_)
            refine x_A k197_133 (fun _ => rfl) ?_
            refine x_A k197_134 (fun _ => rfl) ?_
            refine x_A k197_135 (fun _ => rfl) ?_
            refine x_getI k197_136 (f := 36) rfl (q := 256) (n := 62) (kd := 15) ⟨by decide, rfl⟩ (by decide) rfl ?_
            rw [e_z3.symm]
            refine x_callV k197_139 (y := 177) (n := 2) (w0 := 0) (w1 := 2) (as := [vi 1, vi z3]) (rest := []) (by decide +kernel) (q := 256) (nq := 62) (kq := 15) ⟨by decide, rfl⟩ rfl rfl rfl rfl (xe_mono (C_X11_fails_256 s0 hG0 1 ⟨by decide, by decide⟩ z3 (by first | exact x_rbe e_z3 g_z3 rfl rfl | exact x_rb g_z3 rfl rfl | exact ⟨by omega, by omega⟩)) ?_)
            rintro s30 v ⟨hG_s30, t_s30, z29, rfl, g_z29, xp_z29⟩
            have f_s30 : FL [4133, 4136, 4132, 6080, 6144, 4144, 4145, 4148] s0 s30 := f0.tr t_s30 (by decide +kernel)
            have q31 : s30 256 47 = z1 := (t_s30 256 47 (show 4144 ∉ [4132] from by decide +kernel)).trans e_z1.symm
            have q32 : s30 256 48 = z2 := (t_s30 256 48 (show 4145 ∉ [4132] from by decide +kernel)).trans e_z2.symm
            have q33 : s30 256 36 = z3 := (t_s30 256 36 (show 4133 ∉ [4132] from by decide +kernel)).trans e_z3.symm
            have q34 : s30 256 34 = z4 := (t_s30 256 34 (show 4131 ∉ [4132] from by decide +kernel)).trans e_z4.symm
            have q35 : s30 256 43 = z5 := (t_s30 256 43 (show 4140 ∉ [4132] from by decide +kernel)).trans e_z5.symm
            have q36 : s30 256 38 = z6 := (t_s30 256 38 (show 4135 ∉ [4132] from by decide +kernel)).trans e_z6.symm
            have q37 : s30 256 50 = z7 := (t_s30 256 50 (show 4147 ∉ [4132] from by decide +kernel)).trans e_z7.symm
            have J_s30 : J s30 := J.fl i0_J t_s30 (by decide +kernel)
            have A0_s30 : AW s30 0 (s0 256 50) (s0 256 47 + s0 256 48) := AW.fl i0_A0 t_s30 (by decide +kernel)
            show xe none 197 142 [(1, vi (-1)), (0, .ref 256)] [vi z29] s30 0 0 _
            obtain ⟨z38, e_z38⟩ : ∃ z, z = s30 256 51 := ⟨_, rfl⟩
            have g_z38 : (0 : Int) ≤ s30 256 51 ∧ s30 256 51 ≤ 1 := hG_s30 256 51
            exact x_iret k197_142 rfl ⟨hG_s30, f_s30, z29, rfl, (by first | exact x_rbe e_z29 g_z29 rfl rfl | exact x_rb g_z29 rfl rfl | exact ⟨by omega, by omega⟩), ⟨fun hz => by exfalso; omega, fun hz => by exfalso; omega⟩, J_s30⟩
          · skip
            refine x_bipush k197_122 (by decide +kernel) ?_
            refine x_goto k197_124 (t := 128) rfl ?_
            refine x_istore_n k197_128 (ls' := [(1, vi 7), (0, .ref 256)]) (by decide) rfl ?_
            refine x_A k197_129 (fun _ => rfl) ?_
            refine x_if_ge k197_130 (t := 143) rfl ⟨by decide, by decide⟩ (fun c39 => ?_) (fun c39 => by exfalso; omega)
            refine x_A k197_143 (fun _ => rfl) ?_
            refine x_A k197_144 (fun _ => rfl) ?_
            refine x_getI k197_145 (f := 38) rfl (q := 256) (n := 62) (kd := 15) ⟨by decide, rfl⟩ (by decide) rfl ?_
            rw [e_z6.symm]
            refine x_putI k197_148 (f := 36) rfl (q := 256) (n := 62) (kd := 15) ⟨by decide, rfl⟩ rfl rfl rfl ?_
            refine x_nh (fun s40 e_s40 => ?_)
            have hG_s40 : GI s40 := by rw [e_s40]; exact hG0.up (show 0 ≤ z6 ∧ z6 ≤ 160 from (by first | exact x_rbe e_z6 g_z6 rfl rfl | exact x_rb g_z6 rfl rfl | exact ⟨by omega, by omega⟩))
            have f_s40 : FL [4133, 4136, 4132, 6080, 6144, 4144, 4145, 4148] s0 s40 := by rw [e_s40]; exact f0.up (show 4133 ∈ [4133, 4136, 4132, 6080, 6144, 4144, 4145, 4148] from by decide +kernel)
            have q41 : s40 256 47 = z1 := by rw [e_s40, x_up_i (by decide)]; exact e_z1.symm
            have q42 : s40 256 48 = z2 := by rw [e_s40, x_up_i (by decide)]; exact e_z2.symm
            have q43 : s40 256 34 = z4 := by rw [e_s40, x_up_i (by decide)]; exact e_z4.symm
            have q44 : s40 256 43 = z5 := by rw [e_s40, x_up_i (by decide)]; exact e_z5.symm
            have q45 : s40 256 38 = z6 := by rw [e_s40, x_up_i (by decide)]; exact e_z6.symm
            have q46 : s40 256 50 = z7 := by rw [e_s40, x_up_i (by decide)]; exact e_z7.symm
            have q47 : s40 256 36 = z6 := by rw [e_s40]; exact x_up_same
            have J_s40 : J s40 := by rw [e_s40]; exact J.up i0_J (show 4133 ∉ LJ from by decide)
            have A0_s40 : AW s40 0 (s0 256 50) (s0 256 47 + s0 256 48) := by rw [e_s40]; exact AW.up i0_A0 (show 4133 ∉ [6080, 4140, 4144, 4145, 6208] from by decide +kernel)
            refine x_A k197_151 (fun _ => rfl) ?_
            refine x_A k197_152 (fun _ => rfl) ?_
            refine x_A k197_153 (fun _ => rfl) ?_
            refine x_A k197_154 (fun _ => rfl) ?_
            refine x_ic_ne k197_155 (t := 163) rfl ⟨by decide, by decide⟩ ⟨by decide, by decide⟩ (fun c48 => ?_) (fun c48 => by exfalso; omega)
            refine x_A k197_163 (fun _ => rfl) ?_
            refine x_A k197_164 (fun _ => rfl) ?_
            refine x_ic_ne k197_165 (t := 172) rfl ⟨by decide, by decide⟩ ⟨by decide, by decide⟩ (fun c49 => ?_) (fun c49 => by exfalso; omega)
            refine x_A k197_172 (fun _ => rfl) ?_
            refine x_A k197_173 (fun _ => rfl) ?_
            refine x_ic_ne k197_174 (t := 182) rfl ⟨by decide, by decide⟩ ⟨by decide, by decide⟩ (fun c50 => ?_) (fun c50 => by exfalso; omega)
            refine x_A k197_182 (fun _ => rfl) ?_
            refine x_bipush k197_183 (by decide +kernel) ?_
            refine x_ic_ne k197_185 (t := 194) rfl ⟨by decide, by decide⟩ ⟨by decide, by decide⟩ (fun c51 => ?_) (fun c51 => by exfalso; omega)
            refine x_bipush k197_194 (by decide +kernel) ?_
            refine x_A k197_196 (fun _ => rfl) ?_
            refine x_A k197_197 (fun _ => rfl) ?_
            refine x_callV k197_198 (y := 180) (n := 4) (w0 := 0) (w1 := 4) (as := [vi 0, vi 9, vi 3, vi 2]) (rest := []) (by decide +kernel) (q := 256) (nq := 62) (kq := 15) ⟨by decide, rfl⟩ rfl rfl rfl rfl (xe_mono (C_X11_readNumber_256 s40 hG_s40 0 ⟨by decide, by decide⟩ 9 ⟨by decide, by decide⟩ 3 ⟨by decide, by decide⟩ 2 ⟨by decide, by decide⟩) ?_)
            rintro s53 v ⟨hG_s53, t_s53, z52, rfl, g_z52, xp_z52⟩
            have f_s53 : FL [4133, 4136, 4132, 6080, 6144, 4144, 4145, 4148] s0 s53 := f_s40.tr t_s53 (by decide +kernel)
            have q54 : s53 256 47 = z1 := (t_s53 256 47 (show 4144 ∉ [4133, 4136, 4132] from by decide +kernel)).trans q41
            have q55 : s53 256 48 = z2 := (t_s53 256 48 (show 4145 ∉ [4133, 4136, 4132] from by decide +kernel)).trans q42
            have q56 : s53 256 34 = z4 := (t_s53 256 34 (show 4131 ∉ [4133, 4136, 4132] from by decide +kernel)).trans q43
            have q57 : s53 256 43 = z5 := (t_s53 256 43 (show 4140 ∉ [4133, 4136, 4132] from by decide +kernel)).trans q44
            have q58 : s53 256 38 = z6 := (t_s53 256 38 (show 4135 ∉ [4133, 4136, 4132] from by decide +kernel)).trans q45
            have q59 : s53 256 50 = z7 := (t_s53 256 50 (show 4147 ∉ [4133, 4136, 4132] from by decide +kernel)).trans q46
            have J_s53 : J s53 := J.fl J_s40 t_s53 (by decide +kernel)
            have A0_s53 : AW s53 0 (s0 256 50) (s0 256 47 + s0 256 48) := AW.fl A0_s40 t_s53 (by decide +kernel)
            obtain ⟨z60, e_z60⟩ : ∃ z, z = s53 256 36 := ⟨_, rfl⟩
            have g_z60 : (0 : Int) ≤ s53 256 36 ∧ s53 256 36 ≤ 160 := hG_s53 256 36
            obtain ⟨z61, e_z61⟩ : ∃ z, z = s53 256 39 := ⟨_, rfl⟩
            have g_z61 : (0 : Int) ≤ s53 256 39 ∧ s53 256 39 ≤ 1100000 := hG_s53 256 39
            show xe none 197 201 [(1, vi 7), (0, .ref 256)] [vi z52] s53 0 0 _
            refine x_istore_n k197_201 (ls' := [(2, vi z52), (1, vi 7), (0, .ref 256)]) (by decide) rfl ?_
            refine x_A k197_202 (fun _ => rfl) ?_
            refine x_getI k197_203 (f := 39) rfl (q := 256) (n := 62) (kd := 15) ⟨by decide, rfl⟩ (by decide) rfl ?_
            rw [e_z61.symm]
            refine x_istore_n k197_206 (ls' := [(3, vi z61), (2, vi z52), (1, vi 7), (0, .ref 256)]) (by decide) rfl ?_
            refine x_A k197_207 (fun _ => rfl) ?_
            refine x_A k197_208 (fun _ => rfl) ?_
            refine x_ic_ne k197_209 (t := 236) rfl ⟨by decide, by decide⟩ ⟨by decide, by decide⟩ (fun c62 => ?_) (fun c62 => by exfalso; omega)
            refine x_A k197_236 (fun _ => rfl) ?_
            refine x_if_ne k197_237 (t := 256) rfl (by first | exact x_rbe e_z52 g_z52 rfl rfl | exact x_rb g_z52 rfl rfl | exact ⟨by omega, by omega⟩) (fun c63 => ?_) (fun c63 => ?_)
            · skip
              refine x_A k197_256 (fun _ => rfl) ?_
              obtain ⟨z64, e_z64⟩ : ∃ z, z = s53 256 51 := ⟨_, rfl⟩
              have g_z64 : (0 : Int) ≤ s53 256 51 ∧ s53 256 51 ≤ 1 := hG_s53 256 51
              exact x_iret k197_257 rfl ⟨hG_s53, f_s53, z52, rfl, (by first | exact x_rbe e_z52 g_z52 rfl rfl | exact x_rb g_z52 rfl rfl | exact ⟨by omega, by omega⟩), ⟨fun hz => by exfalso; omega, fun hz => by exfalso; omega⟩, J_s53⟩
            · skip
              refine x_A k197_240 (fun _ => rfl) ?_
              refine x_A k197_241 (fun _ => rfl) ?_
              refine x_A k197_242 (fun _ => rfl) ?_
              refine x_callV k197_243 (y := 194) (n := 2) (w0 := 0) (w1 := 2) (as := [vi 7, vi z61]) (rest := []) (by decide +kernel) (q := 256) (nq := 62) (kq := 15) ⟨by decide, rfl⟩ rfl rfl rfl rfl (xe_mono (C_X11_put_256 s53 hG_s53 7 ⟨by decide, by decide⟩ z61 (by first | exact x_rbe e_z61 g_z61 rfl rfl | exact x_rb g_z61 rfl rfl | exact ⟨by omega, by omega⟩) ⟨by omega, by omega⟩ ⟨by omega, by omega⟩ J_s53) ?_)
              rintro s66 v ⟨hG_s66, t_s66, rfl, xp_z65, J_s66⟩
              have f_s66 : FL [4133, 4136, 4132, 6080, 6144, 4144, 4145, 4148] s0 s66 := f_s53.tr t_s66 (by decide +kernel)
              have q67 : s66 256 48 = z2 := (t_s66 256 48 (show 4145 ∉ [6080, 6144, 4144] from by decide +kernel)).trans q55
              have q68 : s66 256 34 = z4 := (t_s66 256 34 (show 4131 ∉ [6080, 6144, 4144] from by decide +kernel)).trans q56
              have q69 : s66 256 43 = z5 := (t_s66 256 43 (show 4140 ∉ [6080, 6144, 4144] from by decide +kernel)).trans q57
              have q70 : s66 256 38 = z6 := (t_s66 256 38 (show 4135 ∉ [6080, 6144, 4144] from by decide +kernel)).trans q58
              have q71 : s66 256 50 = z7 := (t_s66 256 50 (show 4147 ∉ [6080, 6144, 4144] from by decide +kernel)).trans q59
              have q72 : s66 256 36 = z60 := (t_s66 256 36 (show 4133 ∉ [6080, 6144, 4144] from by decide +kernel)).trans e_z60.symm
              have q73 : s66 256 39 = z61 := (t_s66 256 39 (show 4136 ∉ [6080, 6144, 4144] from by decide +kernel)).trans e_z61.symm
              show xe none 197 246 [(3, vi z61), (2, vi z52), (1, vi 7), (0, .ref 256)] [] s66 0 0 _
              obtain ⟨z74, e_z74⟩ : ∃ z, z = s66 256 47 := ⟨_, rfl⟩
              have g_z74 : (0 : Int) ≤ s66 256 47 ∧ s66 256 47 ≤ 110 := hG_s66 256 47
              have A1_l : AW s66 1 (s0 256 50) (s0 256 47 + s0 256 48 + 1) := AW.leaf A0_s53 (by omega) (by omega) (by omega) (by omega) (by omega) (by omega) (funext fun i => t_s66 289 i (show 6208 ∉ _ from by decide)) xp_z65.2
              have s_l := A1_l.2.2.2
              have AW1_l := AW.rf A1_l
              refine x_A k197_246 (fun _ => rfl) ?_
              refine x_A k197_247 (fun _ => rfl) ?_
              refine x_callV k197_248 (y := 195) (n := 1) (w0 := 0) (w1 := 1) (as := [vi 2]) (rest := []) (by decide +kernel) (q := 256) (nq := 62) (kq := 15) ⟨by decide, rfl⟩ rfl rfl rfl rfl (xe_mono (C_X11_work_256 s66 hG_s66 2 ⟨by decide, by decide⟩ ⟨by omega, by omega⟩ ⟨by omega, by omega⟩ ⟨by omega, by omega⟩ (by omega) (by omega) J_s66 AW1_l) ?_)
              rintro s76 v ⟨hG_s76, t_s76, rfl, xp_z75, J_s76, AW1_s76⟩
              have f_s76 : FL [4133, 4136, 4132, 6080, 6144, 4144, 4145, 4148] s0 s76 := f_s66.tr t_s76 (by decide +kernel)
              have q77 : s76 256 34 = z4 := (t_s76 256 34 (show 4131 ∉ [6080, 6144, 4144, 4145] from by decide +kernel)).trans q68
              have q78 : s76 256 43 = z5 := (t_s76 256 43 (show 4140 ∉ [6080, 6144, 4144, 4145] from by decide +kernel)).trans q69
              have q79 : s76 256 38 = z6 := (t_s76 256 38 (show 4135 ∉ [6080, 6144, 4144, 4145] from by decide +kernel)).trans q70
              have q80 : s76 256 50 = z7 := (t_s76 256 50 (show 4147 ∉ [6080, 6144, 4144, 4145] from by decide +kernel)).trans q71
              have q81 : s76 256 36 = z60 := (t_s76 256 36 (show 4133 ∉ [6080, 6144, 4144, 4145] from by decide +kernel)).trans q72
              have q82 : s76 256 39 = z61 := (t_s76 256 39 (show 4136 ∉ [6080, 6144, 4144, 4145] from by decide +kernel)).trans q73
              show xe none 197 251 [(3, vi z61), (2, vi z52), (1, vi 7), (0, .ref 256)] [] s76 0 0 _
              have A1_w : AW s76 1 (s0 256 50) (s0 256 47 + s0 256 48 + 1) := AW.tr A1_l AW1_s76
              have s_A1_w := A1_w.2.2.2
              obtain ⟨z83, e_z83⟩ : ∃ z, z = s76 256 47 := ⟨_, rfl⟩
              have g_z83 : (0 : Int) ≤ s76 256 47 ∧ s76 256 47 ≤ 110 := hG_s76 256 47
              obtain ⟨z84, e_z84⟩ : ∃ z, z = s76 256 48 := ⟨_, rfl⟩
              have g_z84 : (0 : Int) ≤ s76 256 48 ∧ s76 256 48 ≤ 120 := hG_s76 256 48
              refine x_A k197_251 (fun _ => rfl) ?_
              refine x_A k197_252 (fun _ => rfl) ?_
              refine x_putZ k197_253 (f := 51) rfl (q := 256) (n := 62) (kd := 15) ⟨by decide, rfl⟩ rfl rfl rfl ⟨by omega, by omega⟩ ?_
              refine x_nh (fun s85 e_s85 => ?_)
              have hG_s85 : GI s85 := by rw [e_s85]; exact hG_s76.up (show 0 ≤ 0 ∧ 0 ≤ 1 from ⟨by decide, by decide⟩)
              have f_s85 : FL [4133, 4136, 4132, 6080, 6144, 4144, 4145, 4148] s0 s85 := by rw [e_s85]; exact f_s76.up (show 4148 ∈ [4133, 4136, 4132, 6080, 6144, 4144, 4145, 4148] from by decide +kernel)
              have q86 : s85 256 34 = z4 := by rw [e_s85, x_up_i (by decide)]; exact q77
              have q87 : s85 256 43 = z5 := by rw [e_s85, x_up_i (by decide)]; exact q78
              have q88 : s85 256 38 = z6 := by rw [e_s85, x_up_i (by decide)]; exact q79
              have q89 : s85 256 50 = z7 := by rw [e_s85, x_up_i (by decide)]; exact q80
              have q90 : s85 256 36 = z60 := by rw [e_s85, x_up_i (by decide)]; exact q81
              have q91 : s85 256 39 = z61 := by rw [e_s85, x_up_i (by decide)]; exact q82
              have q92 : s85 256 47 = z83 := by rw [e_s85, x_up_i (by decide)]; exact e_z83.symm
              have q93 : s85 256 48 = z84 := by rw [e_s85, x_up_i (by decide)]; exact e_z84.symm
              have q94 : s85 256 51 = 0 := by rw [e_s85]; exact x_up_same
              have J_s85 : J s85 := by rw [e_s85]; exact J.up J_s76 (show 4148 ∉ LJ from by decide)
              have A1_s85 : AW s85 1 (s0 256 50) (s0 256 47 + s0 256 48 + 1) := by rw [e_s85]; exact AW.up A1_w (show 4148 ∉ [6080, 4140, 4144, 4145, 6208] from by decide +kernel)
              refine x_A k197_256 (fun _ => rfl) ?_
              exact x_iret k197_257 rfl ⟨hG_s85, f_s85, z52, rfl, (by first | exact x_rbe e_z52 g_z52 rfl rfl | exact x_rb g_z52 rfl rfl | exact ⟨by omega, by omega⟩), ⟨fun hz => by omega, fun hz => A1_s85⟩, J_s85⟩
        · skip
          refine x_bipush k197_98 (by decide +kernel) ?_
          refine x_goto k197_100 (t := 128) rfl ?_
          refine x_istore_n k197_128 (ls' := [(1, vi 6), (0, .ref 256)]) (by decide) rfl ?_
          refine x_A k197_129 (fun _ => rfl) ?_
          refine x_if_ge k197_130 (t := 143) rfl ⟨by decide, by decide⟩ (fun c95 => ?_) (fun c95 => by exfalso; omega)
          refine x_A k197_143 (fun _ => rfl) ?_
          refine x_A k197_144 (fun _ => rfl) ?_
          refine x_getI k197_145 (f := 38) rfl (q := 256) (n := 62) (kd := 15) ⟨by decide, rfl⟩ (by decide) rfl ?_
          rw [e_z6.symm]
          refine x_putI k197_148 (f := 36) rfl (q := 256) (n := 62) (kd := 15) ⟨by decide, rfl⟩ rfl rfl rfl ?_
          refine x_nh (fun s96 e_s96 => ?_)
          have hG_s96 : GI s96 := by rw [e_s96]; exact hG0.up (show 0 ≤ z6 ∧ z6 ≤ 160 from (by first | exact x_rbe e_z6 g_z6 rfl rfl | exact x_rb g_z6 rfl rfl | exact ⟨by omega, by omega⟩))
          have f_s96 : FL [4133, 4136, 4132, 6080, 6144, 4144, 4145, 4148] s0 s96 := by rw [e_s96]; exact f0.up (show 4133 ∈ [4133, 4136, 4132, 6080, 6144, 4144, 4145, 4148] from by decide +kernel)
          have q97 : s96 256 47 = z1 := by rw [e_s96, x_up_i (by decide)]; exact e_z1.symm
          have q98 : s96 256 48 = z2 := by rw [e_s96, x_up_i (by decide)]; exact e_z2.symm
          have q99 : s96 256 34 = z4 := by rw [e_s96, x_up_i (by decide)]; exact e_z4.symm
          have q100 : s96 256 43 = z5 := by rw [e_s96, x_up_i (by decide)]; exact e_z5.symm
          have q101 : s96 256 38 = z6 := by rw [e_s96, x_up_i (by decide)]; exact e_z6.symm
          have q102 : s96 256 50 = z7 := by rw [e_s96, x_up_i (by decide)]; exact e_z7.symm
          have q103 : s96 256 36 = z6 := by rw [e_s96]; exact x_up_same
          have J_s96 : J s96 := by rw [e_s96]; exact J.up i0_J (show 4133 ∉ LJ from by decide)
          have A0_s96 : AW s96 0 (s0 256 50) (s0 256 47 + s0 256 48) := by rw [e_s96]; exact AW.up i0_A0 (show 4133 ∉ [6080, 4140, 4144, 4145, 6208] from by decide +kernel)
          refine x_A k197_151 (fun _ => rfl) ?_
          refine x_A k197_152 (fun _ => rfl) ?_
          refine x_A k197_153 (fun _ => rfl) ?_
          refine x_A k197_154 (fun _ => rfl) ?_
          refine x_ic_ne k197_155 (t := 163) rfl ⟨by decide, by decide⟩ ⟨by decide, by decide⟩ (fun c104 => ?_) (fun c104 => by exfalso; omega)
          refine x_A k197_163 (fun _ => rfl) ?_
          refine x_A k197_164 (fun _ => rfl) ?_
          refine x_ic_ne k197_165 (t := 172) rfl ⟨by decide, by decide⟩ ⟨by decide, by decide⟩ (fun c105 => ?_) (fun c105 => by exfalso; omega)
          refine x_A k197_172 (fun _ => rfl) ?_
          refine x_A k197_173 (fun _ => rfl) ?_
          refine x_ic_ne k197_174 (t := 182) rfl ⟨by decide, by decide⟩ ⟨by decide, by decide⟩ (fun c106 => ?_) (fun c106 => by exfalso; omega)
          refine x_A k197_182 (fun _ => rfl) ?_
          refine x_bipush k197_183 (by decide +kernel) ?_
          refine x_ic_ne k197_185 (t := 194) rfl ⟨by decide, by decide⟩ ⟨by decide, by decide⟩ (fun c107 => by exfalso; omega) (fun c107 => ?_)
          refine x_sipush k197_188 (by decide +kernel) ?_
          refine x_goto k197_191 (t := 196) rfl ?_
          refine x_A k197_196 (fun _ => rfl) ?_
          refine x_A k197_197 (fun _ => rfl) ?_
          refine x_callV k197_198 (y := 180) (n := 4) (w0 := 0) (w1 := 4) (as := [vi 0, vi 999, vi 3, vi 2]) (rest := []) (by decide +kernel) (q := 256) (nq := 62) (kq := 15) ⟨by decide, rfl⟩ rfl rfl rfl rfl (xe_mono (C_X11_readNumber_256 s96 hG_s96 0 ⟨by decide, by decide⟩ 999 ⟨by decide, by decide⟩ 3 ⟨by decide, by decide⟩ 2 ⟨by decide, by decide⟩) ?_)
          rintro s109 v ⟨hG_s109, t_s109, z108, rfl, g_z108, xp_z108⟩
          have f_s109 : FL [4133, 4136, 4132, 6080, 6144, 4144, 4145, 4148] s0 s109 := f_s96.tr t_s109 (by decide +kernel)
          have q110 : s109 256 47 = z1 := (t_s109 256 47 (show 4144 ∉ [4133, 4136, 4132] from by decide +kernel)).trans q97
          have q111 : s109 256 48 = z2 := (t_s109 256 48 (show 4145 ∉ [4133, 4136, 4132] from by decide +kernel)).trans q98
          have q112 : s109 256 34 = z4 := (t_s109 256 34 (show 4131 ∉ [4133, 4136, 4132] from by decide +kernel)).trans q99
          have q113 : s109 256 43 = z5 := (t_s109 256 43 (show 4140 ∉ [4133, 4136, 4132] from by decide +kernel)).trans q100
          have q114 : s109 256 38 = z6 := (t_s109 256 38 (show 4135 ∉ [4133, 4136, 4132] from by decide +kernel)).trans q101
          have q115 : s109 256 50 = z7 := (t_s109 256 50 (show 4147 ∉ [4133, 4136, 4132] from by decide +kernel)).trans q102
          have J_s109 : J s109 := J.fl J_s96 t_s109 (by decide +kernel)
          have A0_s109 : AW s109 0 (s0 256 50) (s0 256 47 + s0 256 48) := AW.fl A0_s96 t_s109 (by decide +kernel)
          obtain ⟨z116, e_z116⟩ : ∃ z, z = s109 256 36 := ⟨_, rfl⟩
          have g_z116 : (0 : Int) ≤ s109 256 36 ∧ s109 256 36 ≤ 160 := hG_s109 256 36
          obtain ⟨z117, e_z117⟩ : ∃ z, z = s109 256 39 := ⟨_, rfl⟩
          have g_z117 : (0 : Int) ≤ s109 256 39 ∧ s109 256 39 ≤ 1100000 := hG_s109 256 39
          show xe none 197 201 [(1, vi 6), (0, .ref 256)] [vi z108] s109 0 0 _
          refine x_istore_n k197_201 (ls' := [(2, vi z108), (1, vi 6), (0, .ref 256)]) (by decide) rfl ?_
          refine x_A k197_202 (fun _ => rfl) ?_
          refine x_getI k197_203 (f := 39) rfl (q := 256) (n := 62) (kd := 15) ⟨by decide, rfl⟩ (by decide) rfl ?_
          rw [e_z117.symm]
          refine x_istore_n k197_206 (ls' := [(3, vi z117), (2, vi z108), (1, vi 6), (0, .ref 256)]) (by decide) rfl ?_
          refine x_A k197_207 (fun _ => rfl) ?_
          refine x_A k197_208 (fun _ => rfl) ?_
          refine x_ic_ne k197_209 (t := 236) rfl ⟨by decide, by decide⟩ ⟨by decide, by decide⟩ (fun c118 => ?_) (fun c118 => by exfalso; omega)
          refine x_A k197_236 (fun _ => rfl) ?_
          refine x_if_ne k197_237 (t := 256) rfl (by first | exact x_rbe e_z108 g_z108 rfl rfl | exact x_rb g_z108 rfl rfl | exact ⟨by omega, by omega⟩) (fun c119 => ?_) (fun c119 => ?_)
          · skip
            refine x_A k197_256 (fun _ => rfl) ?_
            obtain ⟨z120, e_z120⟩ : ∃ z, z = s109 256 51 := ⟨_, rfl⟩
            have g_z120 : (0 : Int) ≤ s109 256 51 ∧ s109 256 51 ≤ 1 := hG_s109 256 51
            exact x_iret k197_257 rfl ⟨hG_s109, f_s109, z108, rfl, (by first | exact x_rbe e_z108 g_z108 rfl rfl | exact x_rb g_z108 rfl rfl | exact ⟨by omega, by omega⟩), ⟨fun hz => by exfalso; omega, fun hz => by exfalso; omega⟩, J_s109⟩
          · skip
            refine x_A k197_240 (fun _ => rfl) ?_
            refine x_A k197_241 (fun _ => rfl) ?_
            refine x_A k197_242 (fun _ => rfl) ?_
            refine x_callV k197_243 (y := 194) (n := 2) (w0 := 0) (w1 := 2) (as := [vi 6, vi z117]) (rest := []) (by decide +kernel) (q := 256) (nq := 62) (kq := 15) ⟨by decide, rfl⟩ rfl rfl rfl rfl (xe_mono (C_X11_put_256 s109 hG_s109 6 ⟨by decide, by decide⟩ z117 (by first | exact x_rbe e_z117 g_z117 rfl rfl | exact x_rb g_z117 rfl rfl | exact ⟨by omega, by omega⟩) ⟨by omega, by omega⟩ ⟨by omega, by omega⟩ J_s109) ?_)
            rintro s122 v ⟨hG_s122, t_s122, rfl, xp_z121, J_s122⟩
            have f_s122 : FL [4133, 4136, 4132, 6080, 6144, 4144, 4145, 4148] s0 s122 := f_s109.tr t_s122 (by decide +kernel)
            have q123 : s122 256 48 = z2 := (t_s122 256 48 (show 4145 ∉ [6080, 6144, 4144] from by decide +kernel)).trans q111
            have q124 : s122 256 34 = z4 := (t_s122 256 34 (show 4131 ∉ [6080, 6144, 4144] from by decide +kernel)).trans q112
            have q125 : s122 256 43 = z5 := (t_s122 256 43 (show 4140 ∉ [6080, 6144, 4144] from by decide +kernel)).trans q113
            have q126 : s122 256 38 = z6 := (t_s122 256 38 (show 4135 ∉ [6080, 6144, 4144] from by decide +kernel)).trans q114
            have q127 : s122 256 50 = z7 := (t_s122 256 50 (show 4147 ∉ [6080, 6144, 4144] from by decide +kernel)).trans q115
            have q128 : s122 256 36 = z116 := (t_s122 256 36 (show 4133 ∉ [6080, 6144, 4144] from by decide +kernel)).trans e_z116.symm
            have q129 : s122 256 39 = z117 := (t_s122 256 39 (show 4136 ∉ [6080, 6144, 4144] from by decide +kernel)).trans e_z117.symm
            show xe none 197 246 [(3, vi z117), (2, vi z108), (1, vi 6), (0, .ref 256)] [] s122 0 0 _
            obtain ⟨z130, e_z130⟩ : ∃ z, z = s122 256 47 := ⟨_, rfl⟩
            have g_z130 : (0 : Int) ≤ s122 256 47 ∧ s122 256 47 ≤ 110 := hG_s122 256 47
            have A1_l : AW s122 1 (s0 256 50) (s0 256 47 + s0 256 48 + 1) := AW.leaf A0_s109 (by omega) (by omega) (by omega) (by omega) (by omega) (by omega) (funext fun i => t_s122 289 i (show 6208 ∉ _ from by decide)) xp_z121.2
            have s_l := A1_l.2.2.2
            have AW1_l := AW.rf A1_l
            refine x_A k197_246 (fun _ => rfl) ?_
            refine x_A k197_247 (fun _ => rfl) ?_
            refine x_callV k197_248 (y := 195) (n := 1) (w0 := 0) (w1 := 1) (as := [vi 2]) (rest := []) (by decide +kernel) (q := 256) (nq := 62) (kq := 15) ⟨by decide, rfl⟩ rfl rfl rfl rfl (xe_mono (C_X11_work_256 s122 hG_s122 2 ⟨by decide, by decide⟩ ⟨by omega, by omega⟩ ⟨by omega, by omega⟩ ⟨by omega, by omega⟩ (by omega) (by omega) J_s122 AW1_l) ?_)
            rintro s132 v ⟨hG_s132, t_s132, rfl, xp_z131, J_s132, AW1_s132⟩
            have f_s132 : FL [4133, 4136, 4132, 6080, 6144, 4144, 4145, 4148] s0 s132 := f_s122.tr t_s132 (by decide +kernel)
            have q133 : s132 256 34 = z4 := (t_s132 256 34 (show 4131 ∉ [6080, 6144, 4144, 4145] from by decide +kernel)).trans q124
            have q134 : s132 256 43 = z5 := (t_s132 256 43 (show 4140 ∉ [6080, 6144, 4144, 4145] from by decide +kernel)).trans q125
            have q135 : s132 256 38 = z6 := (t_s132 256 38 (show 4135 ∉ [6080, 6144, 4144, 4145] from by decide +kernel)).trans q126
            have q136 : s132 256 50 = z7 := (t_s132 256 50 (show 4147 ∉ [6080, 6144, 4144, 4145] from by decide +kernel)).trans q127
            have q137 : s132 256 36 = z116 := (t_s132 256 36 (show 4133 ∉ [6080, 6144, 4144, 4145] from by decide +kernel)).trans q128
            have q138 : s132 256 39 = z117 := (t_s132 256 39 (show 4136 ∉ [6080, 6144, 4144, 4145] from by decide +kernel)).trans q129
            show xe none 197 251 [(3, vi z117), (2, vi z108), (1, vi 6), (0, .ref 256)] [] s132 0 0 _
            have A1_w : AW s132 1 (s0 256 50) (s0 256 47 + s0 256 48 + 1) := AW.tr A1_l AW1_s132
            have s_A1_w := A1_w.2.2.2
            obtain ⟨z139, e_z139⟩ : ∃ z, z = s132 256 47 := ⟨_, rfl⟩
            have g_z139 : (0 : Int) ≤ s132 256 47 ∧ s132 256 47 ≤ 110 := hG_s132 256 47
            obtain ⟨z140, e_z140⟩ : ∃ z, z = s132 256 48 := ⟨_, rfl⟩
            have g_z140 : (0 : Int) ≤ s132 256 48 ∧ s132 256 48 ≤ 120 := hG_s132 256 48
            refine x_A k197_251 (fun _ => rfl) ?_
            refine x_A k197_252 (fun _ => rfl) ?_
            refine x_putZ k197_253 (f := 51) rfl (q := 256) (n := 62) (kd := 15) ⟨by decide, rfl⟩ rfl rfl rfl ⟨by omega, by omega⟩ ?_
            refine x_nh (fun s141 e_s141 => ?_)
            have hG_s141 : GI s141 := by rw [e_s141]; exact hG_s132.up (show 0 ≤ 0 ∧ 0 ≤ 1 from ⟨by decide, by decide⟩)
            have f_s141 : FL [4133, 4136, 4132, 6080, 6144, 4144, 4145, 4148] s0 s141 := by rw [e_s141]; exact f_s132.up (show 4148 ∈ [4133, 4136, 4132, 6080, 6144, 4144, 4145, 4148] from by decide +kernel)
            have q142 : s141 256 34 = z4 := by rw [e_s141, x_up_i (by decide)]; exact q133
            have q143 : s141 256 43 = z5 := by rw [e_s141, x_up_i (by decide)]; exact q134
            have q144 : s141 256 38 = z6 := by rw [e_s141, x_up_i (by decide)]; exact q135
            have q145 : s141 256 50 = z7 := by rw [e_s141, x_up_i (by decide)]; exact q136
            have q146 : s141 256 36 = z116 := by rw [e_s141, x_up_i (by decide)]; exact q137
            have q147 : s141 256 39 = z117 := by rw [e_s141, x_up_i (by decide)]; exact q138
            have q148 : s141 256 47 = z139 := by rw [e_s141, x_up_i (by decide)]; exact e_z139.symm
            have q149 : s141 256 48 = z140 := by rw [e_s141, x_up_i (by decide)]; exact e_z140.symm
            have q150 : s141 256 51 = 0 := by rw [e_s141]; exact x_up_same
            have J_s141 : J s141 := by rw [e_s141]; exact J.up J_s132 (show 4148 ∉ LJ from by decide)
            have A1_s141 : AW s141 1 (s0 256 50) (s0 256 47 + s0 256 48 + 1) := by rw [e_s141]; exact AW.up A1_w (show 4148 ∉ [6080, 4140, 4144, 4145, 6208] from by decide +kernel)
            refine x_A k197_256 (fun _ => rfl) ?_
            exact x_iret k197_257 rfl ⟨hG_s141, f_s141, z108, rfl, (by first | exact x_rbe e_z108 g_z108 rfl rfl | exact x_rb g_z108 rfl rfl | exact ⟨by omega, by omega⟩), ⟨fun hz => by omega, fun hz => A1_s141⟩, J_s141⟩
      · skip
        refine x_A k197_71 (fun _ => rfl) ?_
        refine x_goto k197_72 (t := 128) rfl ?_
        refine x_istore_n k197_128 (ls' := [(1, vi 5), (0, .ref 256)]) (by decide) rfl ?_
        refine x_A k197_129 (fun _ => rfl) ?_
        refine x_if_ge k197_130 (t := 143) rfl ⟨by decide, by decide⟩ (fun c151 => ?_) (fun c151 => by exfalso; omega)
        refine x_A k197_143 (fun _ => rfl) ?_
        refine x_A k197_144 (fun _ => rfl) ?_
        refine x_getI k197_145 (f := 38) rfl (q := 256) (n := 62) (kd := 15) ⟨by decide, rfl⟩ (by decide) rfl ?_
        rw [e_z6.symm]
        refine x_putI k197_148 (f := 36) rfl (q := 256) (n := 62) (kd := 15) ⟨by decide, rfl⟩ rfl rfl rfl ?_
        refine x_nh (fun s152 e_s152 => ?_)
        have hG_s152 : GI s152 := by rw [e_s152]; exact hG0.up (show 0 ≤ z6 ∧ z6 ≤ 160 from (by first | exact x_rbe e_z6 g_z6 rfl rfl | exact x_rb g_z6 rfl rfl | exact ⟨by omega, by omega⟩))
        have f_s152 : FL [4133, 4136, 4132, 6080, 6144, 4144, 4145, 4148] s0 s152 := by rw [e_s152]; exact f0.up (show 4133 ∈ [4133, 4136, 4132, 6080, 6144, 4144, 4145, 4148] from by decide +kernel)
        have q153 : s152 256 47 = z1 := by rw [e_s152, x_up_i (by decide)]; exact e_z1.symm
        have q154 : s152 256 48 = z2 := by rw [e_s152, x_up_i (by decide)]; exact e_z2.symm
        have q155 : s152 256 34 = z4 := by rw [e_s152, x_up_i (by decide)]; exact e_z4.symm
        have q156 : s152 256 43 = z5 := by rw [e_s152, x_up_i (by decide)]; exact e_z5.symm
        have q157 : s152 256 38 = z6 := by rw [e_s152, x_up_i (by decide)]; exact e_z6.symm
        have q158 : s152 256 50 = z7 := by rw [e_s152, x_up_i (by decide)]; exact e_z7.symm
        have q159 : s152 256 36 = z6 := by rw [e_s152]; exact x_up_same
        have J_s152 : J s152 := by rw [e_s152]; exact J.up i0_J (show 4133 ∉ LJ from by decide)
        have A0_s152 : AW s152 0 (s0 256 50) (s0 256 47 + s0 256 48) := by rw [e_s152]; exact AW.up i0_A0 (show 4133 ∉ [6080, 4140, 4144, 4145, 6208] from by decide +kernel)
        refine x_A k197_151 (fun _ => rfl) ?_
        refine x_A k197_152 (fun _ => rfl) ?_
        refine x_A k197_153 (fun _ => rfl) ?_
        refine x_A k197_154 (fun _ => rfl) ?_
        refine x_ic_ne k197_155 (t := 163) rfl ⟨by decide, by decide⟩ ⟨by decide, by decide⟩ (fun c160 => ?_) (fun c160 => by exfalso; omega)
        refine x_A k197_163 (fun _ => rfl) ?_
        refine x_A k197_164 (fun _ => rfl) ?_
        refine x_ic_ne k197_165 (t := 172) rfl ⟨by decide, by decide⟩ ⟨by decide, by decide⟩ (fun c161 => ?_) (fun c161 => by exfalso; omega)
        refine x_A k197_172 (fun _ => rfl) ?_
        refine x_A k197_173 (fun _ => rfl) ?_
        refine x_ic_ne k197_174 (t := 182) rfl ⟨by decide, by decide⟩ ⟨by decide, by decide⟩ (fun c162 => by exfalso; omega) (fun c162 => ?_)
        refine x_bipush k197_177 (by decide +kernel) ?_
        refine x_goto k197_179 (t := 196) rfl ?_
        refine x_A k197_196 (fun _ => rfl) ?_
        refine x_A k197_197 (fun _ => rfl) ?_
        refine x_callV k197_198 (y := 180) (n := 4) (w0 := 0) (w1 := 4) (as := [vi 0, vi 7, vi 3, vi 2]) (rest := []) (by decide +kernel) (q := 256) (nq := 62) (kq := 15) ⟨by decide, rfl⟩ rfl rfl rfl rfl (xe_mono (C_X11_readNumber_256 s152 hG_s152 0 ⟨by decide, by decide⟩ 7 ⟨by decide, by decide⟩ 3 ⟨by decide, by decide⟩ 2 ⟨by decide, by decide⟩) ?_)
        rintro s164 v ⟨hG_s164, t_s164, z163, rfl, g_z163, xp_z163⟩
        have f_s164 : FL [4133, 4136, 4132, 6080, 6144, 4144, 4145, 4148] s0 s164 := f_s152.tr t_s164 (by decide +kernel)
        have q165 : s164 256 47 = z1 := (t_s164 256 47 (show 4144 ∉ [4133, 4136, 4132] from by decide +kernel)).trans q153
        have q166 : s164 256 48 = z2 := (t_s164 256 48 (show 4145 ∉ [4133, 4136, 4132] from by decide +kernel)).trans q154
        have q167 : s164 256 34 = z4 := (t_s164 256 34 (show 4131 ∉ [4133, 4136, 4132] from by decide +kernel)).trans q155
        have q168 : s164 256 43 = z5 := (t_s164 256 43 (show 4140 ∉ [4133, 4136, 4132] from by decide +kernel)).trans q156
        have q169 : s164 256 38 = z6 := (t_s164 256 38 (show 4135 ∉ [4133, 4136, 4132] from by decide +kernel)).trans q157
        have q170 : s164 256 50 = z7 := (t_s164 256 50 (show 4147 ∉ [4133, 4136, 4132] from by decide +kernel)).trans q158
        have J_s164 : J s164 := J.fl J_s152 t_s164 (by decide +kernel)
        have A0_s164 : AW s164 0 (s0 256 50) (s0 256 47 + s0 256 48) := AW.fl A0_s152 t_s164 (by decide +kernel)
        obtain ⟨z171, e_z171⟩ : ∃ z, z = s164 256 36 := ⟨_, rfl⟩
        have g_z171 : (0 : Int) ≤ s164 256 36 ∧ s164 256 36 ≤ 160 := hG_s164 256 36
        obtain ⟨z172, e_z172⟩ : ∃ z, z = s164 256 39 := ⟨_, rfl⟩
        have g_z172 : (0 : Int) ≤ s164 256 39 ∧ s164 256 39 ≤ 1100000 := hG_s164 256 39
        show xe none 197 201 [(1, vi 5), (0, .ref 256)] [vi z163] s164 0 0 _
        refine x_istore_n k197_201 (ls' := [(2, vi z163), (1, vi 5), (0, .ref 256)]) (by decide) rfl ?_
        refine x_A k197_202 (fun _ => rfl) ?_
        refine x_getI k197_203 (f := 39) rfl (q := 256) (n := 62) (kd := 15) ⟨by decide, rfl⟩ (by decide) rfl ?_
        rw [e_z172.symm]
        refine x_istore_n k197_206 (ls' := [(3, vi z172), (2, vi z163), (1, vi 5), (0, .ref 256)]) (by decide) rfl ?_
        refine x_A k197_207 (fun _ => rfl) ?_
        refine x_A k197_208 (fun _ => rfl) ?_
        refine x_ic_ne k197_209 (t := 236) rfl ⟨by decide, by decide⟩ ⟨by decide, by decide⟩ (fun c173 => ?_) (fun c173 => by exfalso; omega)
        refine x_A k197_236 (fun _ => rfl) ?_
        refine x_if_ne k197_237 (t := 256) rfl (by first | exact x_rbe e_z163 g_z163 rfl rfl | exact x_rb g_z163 rfl rfl | exact ⟨by omega, by omega⟩) (fun c174 => ?_) (fun c174 => ?_)
        · skip
          refine x_A k197_256 (fun _ => rfl) ?_
          obtain ⟨z175, e_z175⟩ : ∃ z, z = s164 256 51 := ⟨_, rfl⟩
          have g_z175 : (0 : Int) ≤ s164 256 51 ∧ s164 256 51 ≤ 1 := hG_s164 256 51
          exact x_iret k197_257 rfl ⟨hG_s164, f_s164, z163, rfl, (by first | exact x_rbe e_z163 g_z163 rfl rfl | exact x_rb g_z163 rfl rfl | exact ⟨by omega, by omega⟩), ⟨fun hz => by exfalso; omega, fun hz => by exfalso; omega⟩, J_s164⟩
        · skip
          refine x_A k197_240 (fun _ => rfl) ?_
          refine x_A k197_241 (fun _ => rfl) ?_
          refine x_A k197_242 (fun _ => rfl) ?_
          refine x_callV k197_243 (y := 194) (n := 2) (w0 := 0) (w1 := 2) (as := [vi 5, vi z172]) (rest := []) (by decide +kernel) (q := 256) (nq := 62) (kq := 15) ⟨by decide, rfl⟩ rfl rfl rfl rfl (xe_mono (C_X11_put_256 s164 hG_s164 5 ⟨by decide, by decide⟩ z172 (by first | exact x_rbe e_z172 g_z172 rfl rfl | exact x_rb g_z172 rfl rfl | exact ⟨by omega, by omega⟩) ⟨by omega, by omega⟩ ⟨by omega, by omega⟩ J_s164) ?_)
          rintro s177 v ⟨hG_s177, t_s177, rfl, xp_z176, J_s177⟩
          have f_s177 : FL [4133, 4136, 4132, 6080, 6144, 4144, 4145, 4148] s0 s177 := f_s164.tr t_s177 (by decide +kernel)
          have q178 : s177 256 48 = z2 := (t_s177 256 48 (show 4145 ∉ [6080, 6144, 4144] from by decide +kernel)).trans q166
          have q179 : s177 256 34 = z4 := (t_s177 256 34 (show 4131 ∉ [6080, 6144, 4144] from by decide +kernel)).trans q167
          have q180 : s177 256 43 = z5 := (t_s177 256 43 (show 4140 ∉ [6080, 6144, 4144] from by decide +kernel)).trans q168
          have q181 : s177 256 38 = z6 := (t_s177 256 38 (show 4135 ∉ [6080, 6144, 4144] from by decide +kernel)).trans q169
          have q182 : s177 256 50 = z7 := (t_s177 256 50 (show 4147 ∉ [6080, 6144, 4144] from by decide +kernel)).trans q170
          have q183 : s177 256 36 = z171 := (t_s177 256 36 (show 4133 ∉ [6080, 6144, 4144] from by decide +kernel)).trans e_z171.symm
          have q184 : s177 256 39 = z172 := (t_s177 256 39 (show 4136 ∉ [6080, 6144, 4144] from by decide +kernel)).trans e_z172.symm
          show xe none 197 246 [(3, vi z172), (2, vi z163), (1, vi 5), (0, .ref 256)] [] s177 0 0 _
          obtain ⟨z185, e_z185⟩ : ∃ z, z = s177 256 47 := ⟨_, rfl⟩
          have g_z185 : (0 : Int) ≤ s177 256 47 ∧ s177 256 47 ≤ 110 := hG_s177 256 47
          have A1_l : AW s177 1 (s0 256 50) (s0 256 47 + s0 256 48 + 1) := AW.leaf A0_s164 (by omega) (by omega) (by omega) (by omega) (by omega) (by omega) (funext fun i => t_s177 289 i (show 6208 ∉ _ from by decide)) xp_z176.2
          have s_l := A1_l.2.2.2
          have AW1_l := AW.rf A1_l
          refine x_A k197_246 (fun _ => rfl) ?_
          refine x_A k197_247 (fun _ => rfl) ?_
          refine x_callV k197_248 (y := 195) (n := 1) (w0 := 0) (w1 := 1) (as := [vi 2]) (rest := []) (by decide +kernel) (q := 256) (nq := 62) (kq := 15) ⟨by decide, rfl⟩ rfl rfl rfl rfl (xe_mono (C_X11_work_256 s177 hG_s177 2 ⟨by decide, by decide⟩ ⟨by omega, by omega⟩ ⟨by omega, by omega⟩ ⟨by omega, by omega⟩ (by omega) (by omega) J_s177 AW1_l) ?_)
          rintro s187 v ⟨hG_s187, t_s187, rfl, xp_z186, J_s187, AW1_s187⟩
          have f_s187 : FL [4133, 4136, 4132, 6080, 6144, 4144, 4145, 4148] s0 s187 := f_s177.tr t_s187 (by decide +kernel)
          have q188 : s187 256 34 = z4 := (t_s187 256 34 (show 4131 ∉ [6080, 6144, 4144, 4145] from by decide +kernel)).trans q179
          have q189 : s187 256 43 = z5 := (t_s187 256 43 (show 4140 ∉ [6080, 6144, 4144, 4145] from by decide +kernel)).trans q180
          have q190 : s187 256 38 = z6 := (t_s187 256 38 (show 4135 ∉ [6080, 6144, 4144, 4145] from by decide +kernel)).trans q181
          have q191 : s187 256 50 = z7 := (t_s187 256 50 (show 4147 ∉ [6080, 6144, 4144, 4145] from by decide +kernel)).trans q182
          have q192 : s187 256 36 = z171 := (t_s187 256 36 (show 4133 ∉ [6080, 6144, 4144, 4145] from by decide +kernel)).trans q183
          have q193 : s187 256 39 = z172 := (t_s187 256 39 (show 4136 ∉ [6080, 6144, 4144, 4145] from by decide +kernel)).trans q184
          show xe none 197 251 [(3, vi z172), (2, vi z163), (1, vi 5), (0, .ref 256)] [] s187 0 0 _
          have A1_w : AW s187 1 (s0 256 50) (s0 256 47 + s0 256 48 + 1) := AW.tr A1_l AW1_s187
          have s_A1_w := A1_w.2.2.2
          obtain ⟨z194, e_z194⟩ : ∃ z, z = s187 256 47 := ⟨_, rfl⟩
          have g_z194 : (0 : Int) ≤ s187 256 47 ∧ s187 256 47 ≤ 110 := hG_s187 256 47
          obtain ⟨z195, e_z195⟩ : ∃ z, z = s187 256 48 := ⟨_, rfl⟩
          have g_z195 : (0 : Int) ≤ s187 256 48 ∧ s187 256 48 ≤ 120 := hG_s187 256 48
          refine x_A k197_251 (fun _ => rfl) ?_
          refine x_A k197_252 (fun _ => rfl) ?_
          refine x_putZ k197_253 (f := 51) rfl (q := 256) (n := 62) (kd := 15) ⟨by decide, rfl⟩ rfl rfl rfl ⟨by omega, by omega⟩ ?_
          refine x_nh (fun s196 e_s196 => ?_)
          have hG_s196 : GI s196 := by rw [e_s196]; exact hG_s187.up (show 0 ≤ 0 ∧ 0 ≤ 1 from ⟨by decide, by decide⟩)
          have f_s196 : FL [4133, 4136, 4132, 6080, 6144, 4144, 4145, 4148] s0 s196 := by rw [e_s196]; exact f_s187.up (show 4148 ∈ [4133, 4136, 4132, 6080, 6144, 4144, 4145, 4148] from by decide +kernel)
          have q197 : s196 256 34 = z4 := by rw [e_s196, x_up_i (by decide)]; exact q188
          have q198 : s196 256 43 = z5 := by rw [e_s196, x_up_i (by decide)]; exact q189
          have q199 : s196 256 38 = z6 := by rw [e_s196, x_up_i (by decide)]; exact q190
          have q200 : s196 256 50 = z7 := by rw [e_s196, x_up_i (by decide)]; exact q191
          have q201 : s196 256 36 = z171 := by rw [e_s196, x_up_i (by decide)]; exact q192
          have q202 : s196 256 39 = z172 := by rw [e_s196, x_up_i (by decide)]; exact q193
          have q203 : s196 256 47 = z194 := by rw [e_s196, x_up_i (by decide)]; exact e_z194.symm
          have q204 : s196 256 48 = z195 := by rw [e_s196, x_up_i (by decide)]; exact e_z195.symm
          have q205 : s196 256 51 = 0 := by rw [e_s196]; exact x_up_same
          have J_s196 : J s196 := by rw [e_s196]; exact J.up J_s187 (show 4148 ∉ LJ from by decide)
          have A1_s196 : AW s196 1 (s0 256 50) (s0 256 47 + s0 256 48 + 1) := by rw [e_s196]; exact AW.up A1_w (show 4148 ∉ [6080, 4140, 4144, 4145, 6208] from by decide +kernel)
          refine x_A k197_256 (fun _ => rfl) ?_
          exact x_iret k197_257 rfl ⟨hG_s196, f_s196, z163, rfl, (by first | exact x_rbe e_z163 g_z163 rfl rfl | exact x_rb g_z163 rfl rfl | exact ⟨by omega, by omega⟩), ⟨fun hz => by omega, fun hz => A1_s196⟩, J_s196⟩
    · skip
      refine x_A k197_46 (fun _ => rfl) ?_
      refine x_goto k197_47 (t := 128) rfl ?_
      refine x_istore_n k197_128 (ls' := [(1, vi 4), (0, .ref 256)]) (by decide) rfl ?_
      refine x_A k197_129 (fun _ => rfl) ?_
      refine x_if_ge k197_130 (t := 143) rfl ⟨by decide, by decide⟩ (fun c206 => ?_) (fun c206 => by exfalso; omega)
      refine x_A k197_143 (fun _ => rfl) ?_
      refine x_A k197_144 (fun _ => rfl) ?_
      refine x_getI k197_145 (f := 38) rfl (q := 256) (n := 62) (kd := 15) ⟨by decide, rfl⟩ (by decide) rfl ?_
      rw [e_z6.symm]
      refine x_putI k197_148 (f := 36) rfl (q := 256) (n := 62) (kd := 15) ⟨by decide, rfl⟩ rfl rfl rfl ?_
      refine x_nh (fun s207 e_s207 => ?_)
      have hG_s207 : GI s207 := by rw [e_s207]; exact hG0.up (show 0 ≤ z6 ∧ z6 ≤ 160 from (by first | exact x_rbe e_z6 g_z6 rfl rfl | exact x_rb g_z6 rfl rfl | exact ⟨by omega, by omega⟩))
      have f_s207 : FL [4133, 4136, 4132, 6080, 6144, 4144, 4145, 4148] s0 s207 := by rw [e_s207]; exact f0.up (show 4133 ∈ [4133, 4136, 4132, 6080, 6144, 4144, 4145, 4148] from by decide +kernel)
      have q208 : s207 256 47 = z1 := by rw [e_s207, x_up_i (by decide)]; exact e_z1.symm
      have q209 : s207 256 48 = z2 := by rw [e_s207, x_up_i (by decide)]; exact e_z2.symm
      have q210 : s207 256 34 = z4 := by rw [e_s207, x_up_i (by decide)]; exact e_z4.symm
      have q211 : s207 256 43 = z5 := by rw [e_s207, x_up_i (by decide)]; exact e_z5.symm
      have q212 : s207 256 38 = z6 := by rw [e_s207, x_up_i (by decide)]; exact e_z6.symm
      have q213 : s207 256 50 = z7 := by rw [e_s207, x_up_i (by decide)]; exact e_z7.symm
      have q214 : s207 256 36 = z6 := by rw [e_s207]; exact x_up_same
      have J_s207 : J s207 := by rw [e_s207]; exact J.up i0_J (show 4133 ∉ LJ from by decide)
      have A0_s207 : AW s207 0 (s0 256 50) (s0 256 47 + s0 256 48) := by rw [e_s207]; exact AW.up i0_A0 (show 4133 ∉ [6080, 4140, 4144, 4145, 6208] from by decide +kernel)
      refine x_A k197_151 (fun _ => rfl) ?_
      refine x_A k197_152 (fun _ => rfl) ?_
      refine x_A k197_153 (fun _ => rfl) ?_
      refine x_A k197_154 (fun _ => rfl) ?_
      refine x_ic_ne k197_155 (t := 163) rfl ⟨by decide, by decide⟩ ⟨by decide, by decide⟩ (fun c215 => ?_) (fun c215 => by exfalso; omega)
      refine x_A k197_163 (fun _ => rfl) ?_
      refine x_A k197_164 (fun _ => rfl) ?_
      refine x_ic_ne k197_165 (t := 172) rfl ⟨by decide, by decide⟩ ⟨by decide, by decide⟩ (fun c216 => by exfalso; omega) (fun c216 => ?_)
      refine x_A k197_168 (fun _ => rfl) ?_
      refine x_goto k197_169 (t := 196) rfl ?_
      refine x_A k197_196 (fun _ => rfl) ?_
      refine x_A k197_197 (fun _ => rfl) ?_
      refine x_callV k197_198 (y := 180) (n := 4) (w0 := 0) (w1 := 4) (as := [vi 0, vi 3, vi 3, vi 2]) (rest := []) (by decide +kernel) (q := 256) (nq := 62) (kq := 15) ⟨by decide, rfl⟩ rfl rfl rfl rfl (xe_mono (C_X11_readNumber_256 s207 hG_s207 0 ⟨by decide, by decide⟩ 3 ⟨by decide, by decide⟩ 3 ⟨by decide, by decide⟩ 2 ⟨by decide, by decide⟩) ?_)
      rintro s218 v ⟨hG_s218, t_s218, z217, rfl, g_z217, xp_z217⟩
      have f_s218 : FL [4133, 4136, 4132, 6080, 6144, 4144, 4145, 4148] s0 s218 := f_s207.tr t_s218 (by decide +kernel)
      have q219 : s218 256 47 = z1 := (t_s218 256 47 (show 4144 ∉ [4133, 4136, 4132] from by decide +kernel)).trans q208
      have q220 : s218 256 48 = z2 := (t_s218 256 48 (show 4145 ∉ [4133, 4136, 4132] from by decide +kernel)).trans q209
      have q221 : s218 256 34 = z4 := (t_s218 256 34 (show 4131 ∉ [4133, 4136, 4132] from by decide +kernel)).trans q210
      have q222 : s218 256 43 = z5 := (t_s218 256 43 (show 4140 ∉ [4133, 4136, 4132] from by decide +kernel)).trans q211
      have q223 : s218 256 38 = z6 := (t_s218 256 38 (show 4135 ∉ [4133, 4136, 4132] from by decide +kernel)).trans q212
      have q224 : s218 256 50 = z7 := (t_s218 256 50 (show 4147 ∉ [4133, 4136, 4132] from by decide +kernel)).trans q213
      have J_s218 : J s218 := J.fl J_s207 t_s218 (by decide +kernel)
      have A0_s218 : AW s218 0 (s0 256 50) (s0 256 47 + s0 256 48) := AW.fl A0_s207 t_s218 (by decide +kernel)
      obtain ⟨z225, e_z225⟩ : ∃ z, z = s218 256 36 := ⟨_, rfl⟩
      have g_z225 : (0 : Int) ≤ s218 256 36 ∧ s218 256 36 ≤ 160 := hG_s218 256 36
      obtain ⟨z226, e_z226⟩ : ∃ z, z = s218 256 39 := ⟨_, rfl⟩
      have g_z226 : (0 : Int) ≤ s218 256 39 ∧ s218 256 39 ≤ 1100000 := hG_s218 256 39
      show xe none 197 201 [(1, vi 4), (0, .ref 256)] [vi z217] s218 0 0 _
      refine x_istore_n k197_201 (ls' := [(2, vi z217), (1, vi 4), (0, .ref 256)]) (by decide) rfl ?_
      refine x_A k197_202 (fun _ => rfl) ?_
      refine x_getI k197_203 (f := 39) rfl (q := 256) (n := 62) (kd := 15) ⟨by decide, rfl⟩ (by decide) rfl ?_
      rw [e_z226.symm]
      refine x_istore_n k197_206 (ls' := [(3, vi z226), (2, vi z217), (1, vi 4), (0, .ref 256)]) (by decide) rfl ?_
      refine x_A k197_207 (fun _ => rfl) ?_
      refine x_A k197_208 (fun _ => rfl) ?_
      refine x_ic_ne k197_209 (t := 236) rfl ⟨by decide, by decide⟩ ⟨by decide, by decide⟩ (fun c227 => by exfalso; omega) (fun c227 => ?_)
      refine x_A k197_212 (fun _ => rfl) ?_
      refine x_if_ne k197_213 (t := 236) rfl (by first | exact x_rbe e_z217 g_z217 rfl rfl | exact x_rb g_z217 rfl rfl | exact ⟨by omega, by omega⟩) (fun c228 => ?_) (fun c228 => ?_)
      · skip
        refine x_A k197_236 (fun _ => rfl) ?_
        refine x_if_ne k197_237 (t := 256) rfl (by first | exact x_rbe e_z217 g_z217 rfl rfl | exact x_rb g_z217 rfl rfl | exact ⟨by omega, by omega⟩) (fun c229 => ?_) (fun c229 => by exfalso; omega)
        refine x_A k197_256 (fun _ => rfl) ?_
        obtain ⟨z230, e_z230⟩ : ∃ z, z = s218 256 51 := ⟨_, rfl⟩
        have g_z230 : (0 : Int) ≤ s218 256 51 ∧ s218 256 51 ≤ 1 := hG_s218 256 51
        exact x_iret k197_257 rfl ⟨hG_s218, f_s218, z217, rfl, (by first | exact x_rbe e_z217 g_z217 rfl rfl | exact x_rb g_z217 rfl rfl | exact ⟨by omega, by omega⟩), ⟨fun hz => by exfalso; omega, fun hz => by exfalso; omega⟩, J_s218⟩
      · skip
        refine x_A k197_216 (fun _ => rfl) ?_
        refine x_A k197_217 (fun _ => rfl) ?_
        refine x_bipush k197_218 (by decide +kernel) ?_
        refine x_A k197_220 (fun _ => rfl) ?_
        refine x_A k197_221 (fun _ => rfl) ?_
        refine x_callV k197_222 (y := 180) (n := 4) (w0 := 0) (w1 := 4) (as := [vi 0, vi 99, vi 3, vi 2]) (rest := []) (by decide +kernel) (q := 256) (nq := 62) (kq := 15) ⟨by decide, rfl⟩ rfl rfl rfl rfl (xe_mono (C_X11_readNumber_256 s218 hG_s218 0 ⟨by decide, by decide⟩ 99 ⟨by decide, by decide⟩ 3 ⟨by decide, by decide⟩ 2 ⟨by decide, by decide⟩) ?_)
        rintro s232 v ⟨hG_s232, t_s232, z231, rfl, g_z231, xp_z231⟩
        have f_s232 : FL [4133, 4136, 4132, 6080, 6144, 4144, 4145, 4148] s0 s232 := f_s218.tr t_s232 (by decide +kernel)
        have q233 : s232 256 47 = z1 := (t_s232 256 47 (show 4144 ∉ [4133, 4136, 4132] from by decide +kernel)).trans q219
        have q234 : s232 256 48 = z2 := (t_s232 256 48 (show 4145 ∉ [4133, 4136, 4132] from by decide +kernel)).trans q220
        have q235 : s232 256 34 = z4 := (t_s232 256 34 (show 4131 ∉ [4133, 4136, 4132] from by decide +kernel)).trans q221
        have q236 : s232 256 43 = z5 := (t_s232 256 43 (show 4140 ∉ [4133, 4136, 4132] from by decide +kernel)).trans q222
        have q237 : s232 256 38 = z6 := (t_s232 256 38 (show 4135 ∉ [4133, 4136, 4132] from by decide +kernel)).trans q223
        have q238 : s232 256 50 = z7 := (t_s232 256 50 (show 4147 ∉ [4133, 4136, 4132] from by decide +kernel)).trans q224
        have J_s232 : J s232 := J.fl J_s218 t_s232 (by decide +kernel)
        have A0_s232 : AW s232 0 (s0 256 50) (s0 256 47 + s0 256 48) := AW.fl A0_s218 t_s232 (by decide +kernel)
        obtain ⟨z239, e_z239⟩ : ∃ z, z = s232 256 36 := ⟨_, rfl⟩
        have g_z239 : (0 : Int) ≤ s232 256 36 ∧ s232 256 36 ≤ 160 := hG_s232 256 36
        obtain ⟨z240, e_z240⟩ : ∃ z, z = s232 256 39 := ⟨_, rfl⟩
        have g_z240 : (0 : Int) ≤ s232 256 39 ∧ s232 256 39 ≤ 1100000 := hG_s232 256 39
        show xe none 197 225 [(3, vi z226), (2, vi z217), (1, vi 4), (0, .ref 256)] [vi z231] s232 0 0 _
        refine x_istore_n k197_225 (ls' := [(2, vi z231), (3, vi z226), (1, vi 4), (0, .ref 256)]) (by decide) rfl ?_
        refine x_bipush k197_226 (by decide +kernel) ?_
        refine x_A k197_228 (fun _ => rfl) ?_
        refine x_imul k197_229 ?_
        refine x_top (fun z241 e_z241 => ?_)
        refine x_A k197_230 (fun _ => rfl) ?_
        refine x_getI k197_231 (f := 39) rfl (q := 256) (n := 62) (kd := 15) ⟨by decide, rfl⟩ (by decide) rfl ?_
        rw [e_z240.symm]
        refine x_iadd k197_234 ?_
        refine x_top (fun z242 e_z242 => ?_)
        refine x_istore_n k197_235 (ls' := [(3, vi z242), (2, vi z231), (1, vi 4), (0, .ref 256)]) (by decide) rfl ?_
        refine x_A k197_236 (fun _ => rfl) ?_
        refine x_if_ne k197_237 (t := 256) rfl (by first | exact x_rbe e_z231 g_z231 rfl rfl | exact x_rb g_z231 rfl rfl | exact ⟨by omega, by omega⟩) (fun c243 => ?_) (fun c243 => ?_)
        · skip
          refine x_A k197_256 (fun _ => rfl) ?_
          obtain ⟨z244, e_z244⟩ : ∃ z, z = s232 256 51 := ⟨_, rfl⟩
          have g_z244 : (0 : Int) ≤ s232 256 51 ∧ s232 256 51 ≤ 1 := hG_s232 256 51
          exact x_iret k197_257 rfl ⟨hG_s232, f_s232, z231, rfl, (by first | exact x_rbe e_z231 g_z231 rfl rfl | exact x_rb g_z231 rfl rfl | exact ⟨by omega, by omega⟩), ⟨fun hz => by exfalso; omega, fun hz => by exfalso; omega⟩, J_s232⟩
        · skip
          refine x_A k197_240 (fun _ => rfl) ?_
          refine x_A k197_241 (fun _ => rfl) ?_
          refine x_A k197_242 (fun _ => rfl) ?_
          refine x_callV k197_243 (y := 194) (n := 2) (w0 := 0) (w1 := 2) (as := [vi 4, vi z242]) (rest := []) (by decide +kernel) (q := 256) (nq := 62) (kq := 15) ⟨by decide, rfl⟩ rfl rfl rfl rfl (xe_mono (C_X11_put_256 s232 hG_s232 4 ⟨by decide, by decide⟩ z242 (by first | exact x_rbe e_z242 g_z242 rfl rfl | exact x_rb g_z242 rfl rfl | exact ⟨by omega, by omega⟩) ⟨by omega, by omega⟩ ⟨by omega, by omega⟩ J_s232) ?_)
          rintro s246 v ⟨hG_s246, t_s246, rfl, xp_z245, J_s246⟩
          have f_s246 : FL [4133, 4136, 4132, 6080, 6144, 4144, 4145, 4148] s0 s246 := f_s232.tr t_s246 (by decide +kernel)
          have q247 : s246 256 48 = z2 := (t_s246 256 48 (show 4145 ∉ [6080, 6144, 4144] from by decide +kernel)).trans q234
          have q248 : s246 256 34 = z4 := (t_s246 256 34 (show 4131 ∉ [6080, 6144, 4144] from by decide +kernel)).trans q235
          have q249 : s246 256 43 = z5 := (t_s246 256 43 (show 4140 ∉ [6080, 6144, 4144] from by decide +kernel)).trans q236
          have q250 : s246 256 38 = z6 := (t_s246 256 38 (show 4135 ∉ [6080, 6144, 4144] from by decide +kernel)).trans q237
          have q251 : s246 256 50 = z7 := (t_s246 256 50 (show 4147 ∉ [6080, 6144, 4144] from by decide +kernel)).trans q238
          have q252 : s246 256 36 = z239 := (t_s246 256 36 (show 4133 ∉ [6080, 6144, 4144] from by decide +kernel)).trans e_z239.symm
          have q253 : s246 256 39 = z240 := (t_s246 256 39 (show 4136 ∉ [6080, 6144, 4144] from by decide +kernel)).trans e_z240.symm
          show xe none 197 246 [(3, vi z242), (2, vi z231), (1, vi 4), (0, .ref 256)] [] s246 0 0 _
          obtain ⟨z254, e_z254⟩ : ∃ z, z = s246 256 47 := ⟨_, rfl⟩
          have g_z254 : (0 : Int) ≤ s246 256 47 ∧ s246 256 47 ≤ 110 := hG_s246 256 47
          have A1_l : AW s246 1 (s0 256 50) (s0 256 47 + s0 256 48 + 1) := AW.leaf A0_s232 (by omega) (by omega) (by omega) (by omega) (by omega) (by omega) (funext fun i => t_s246 289 i (show 6208 ∉ _ from by decide)) xp_z245.2
          have s_l := A1_l.2.2.2
          have AW1_l := AW.rf A1_l
          refine x_A k197_246 (fun _ => rfl) ?_
          refine x_A k197_247 (fun _ => rfl) ?_
          refine x_callV k197_248 (y := 195) (n := 1) (w0 := 0) (w1 := 1) (as := [vi 2]) (rest := []) (by decide +kernel) (q := 256) (nq := 62) (kq := 15) ⟨by decide, rfl⟩ rfl rfl rfl rfl (xe_mono (C_X11_work_256 s246 hG_s246 2 ⟨by decide, by decide⟩ ⟨by omega, by omega⟩ ⟨by omega, by omega⟩ ⟨by omega, by omega⟩ (by omega) (by omega) J_s246 AW1_l) ?_)
          rintro s256 v ⟨hG_s256, t_s256, rfl, xp_z255, J_s256, AW1_s256⟩
          have f_s256 : FL [4133, 4136, 4132, 6080, 6144, 4144, 4145, 4148] s0 s256 := f_s246.tr t_s256 (by decide +kernel)
          have q257 : s256 256 34 = z4 := (t_s256 256 34 (show 4131 ∉ [6080, 6144, 4144, 4145] from by decide +kernel)).trans q248
          have q258 : s256 256 43 = z5 := (t_s256 256 43 (show 4140 ∉ [6080, 6144, 4144, 4145] from by decide +kernel)).trans q249
          have q259 : s256 256 38 = z6 := (t_s256 256 38 (show 4135 ∉ [6080, 6144, 4144, 4145] from by decide +kernel)).trans q250
          have q260 : s256 256 50 = z7 := (t_s256 256 50 (show 4147 ∉ [6080, 6144, 4144, 4145] from by decide +kernel)).trans q251
          have q261 : s256 256 36 = z239 := (t_s256 256 36 (show 4133 ∉ [6080, 6144, 4144, 4145] from by decide +kernel)).trans q252
          have q262 : s256 256 39 = z240 := (t_s256 256 39 (show 4136 ∉ [6080, 6144, 4144, 4145] from by decide +kernel)).trans q253
          show xe none 197 251 [(3, vi z242), (2, vi z231), (1, vi 4), (0, .ref 256)] [] s256 0 0 _
          have A1_w : AW s256 1 (s0 256 50) (s0 256 47 + s0 256 48 + 1) := AW.tr A1_l AW1_s256
          have s_A1_w := A1_w.2.2.2
          obtain ⟨z263, e_z263⟩ : ∃ z, z = s256 256 47 := ⟨_, rfl⟩
          have g_z263 : (0 : Int) ≤ s256 256 47 ∧ s256 256 47 ≤ 110 := hG_s256 256 47
          obtain ⟨z264, e_z264⟩ : ∃ z, z = s256 256 48 := ⟨_, rfl⟩
          have g_z264 : (0 : Int) ≤ s256 256 48 ∧ s256 256 48 ≤ 120 := hG_s256 256 48
          refine x_A k197_251 (fun _ => rfl) ?_
          refine x_A k197_252 (fun _ => rfl) ?_
          refine x_putZ k197_253 (f := 51) rfl (q := 256) (n := 62) (kd := 15) ⟨by decide, rfl⟩ rfl rfl rfl ⟨by omega, by omega⟩ ?_
          refine x_nh (fun s265 e_s265 => ?_)
          have hG_s265 : GI s265 := by rw [e_s265]; exact hG_s256.up (show 0 ≤ 0 ∧ 0 ≤ 1 from ⟨by decide, by decide⟩)
          have f_s265 : FL [4133, 4136, 4132, 6080, 6144, 4144, 4145, 4148] s0 s265 := by rw [e_s265]; exact f_s256.up (show 4148 ∈ [4133, 4136, 4132, 6080, 6144, 4144, 4145, 4148] from by decide +kernel)
          have q266 : s265 256 34 = z4 := by rw [e_s265, x_up_i (by decide)]; exact q257
          have q267 : s265 256 43 = z5 := by rw [e_s265, x_up_i (by decide)]; exact q258
          have q268 : s265 256 38 = z6 := by rw [e_s265, x_up_i (by decide)]; exact q259
          have q269 : s265 256 50 = z7 := by rw [e_s265, x_up_i (by decide)]; exact q260
          have q270 : s265 256 36 = z239 := by rw [e_s265, x_up_i (by decide)]; exact q261
          have q271 : s265 256 39 = z240 := by rw [e_s265, x_up_i (by decide)]; exact q262
          have q272 : s265 256 47 = z263 := by rw [e_s265, x_up_i (by decide)]; exact e_z263.symm
          have q273 : s265 256 48 = z264 := by rw [e_s265, x_up_i (by decide)]; exact e_z264.symm
          have q274 : s265 256 51 = 0 := by rw [e_s265]; exact x_up_same
          have J_s265 : J s265 := by rw [e_s265]; exact J.up J_s256 (show 4148 ∉ LJ from by decide)
          have A1_s265 : AW s265 1 (s0 256 50) (s0 256 47 + s0 256 48 + 1) := by rw [e_s265]; exact AW.up A1_w (show 4148 ∉ [6080, 4140, 4144, 4145, 6208] from by decide +kernel)
          refine x_A k197_256 (fun _ => rfl) ?_
          exact x_iret k197_257 rfl ⟨hG_s265, f_s265, z231, rfl, (by first | exact x_rbe e_z231 g_z231 rfl rfl | exact x_rb g_z231 rfl rfl | exact ⟨by omega, by omega⟩), ⟨fun hz => by omega, fun hz => A1_s265⟩, J_s265⟩
  · skip
    refine x_A k197_21 (fun _ => rfl) ?_
    refine x_goto k197_22 (t := 128) rfl ?_
    refine x_istore_n k197_128 (ls' := [(1, vi 3), (0, .ref 256)]) (by decide) rfl ?_
    refine x_A k197_129 (fun _ => rfl) ?_
    refine x_if_ge k197_130 (t := 143) rfl ⟨by decide, by decide⟩ (fun c275 => ?_) (fun c275 => by exfalso; omega)
    refine x_A k197_143 (fun _ => rfl) ?_
    refine x_A k197_144 (fun _ => rfl) ?_
    refine x_getI k197_145 (f := 38) rfl (q := 256) (n := 62) (kd := 15) ⟨by decide, rfl⟩ (by decide) rfl ?_
    rw [e_z6.symm]
    refine x_putI k197_148 (f := 36) rfl (q := 256) (n := 62) (kd := 15) ⟨by decide, rfl⟩ rfl rfl rfl ?_
    refine x_nh (fun s276 e_s276 => ?_)
    have hG_s276 : GI s276 := by rw [e_s276]; exact hG0.up (show 0 ≤ z6 ∧ z6 ≤ 160 from (by first | exact x_rbe e_z6 g_z6 rfl rfl | exact x_rb g_z6 rfl rfl | exact ⟨by omega, by omega⟩))
    have f_s276 : FL [4133, 4136, 4132, 6080, 6144, 4144, 4145, 4148] s0 s276 := by rw [e_s276]; exact f0.up (show 4133 ∈ [4133, 4136, 4132, 6080, 6144, 4144, 4145, 4148] from by decide +kernel)
    have q277 : s276 256 47 = z1 := by rw [e_s276, x_up_i (by decide)]; exact e_z1.symm
    have q278 : s276 256 48 = z2 := by rw [e_s276, x_up_i (by decide)]; exact e_z2.symm
    have q279 : s276 256 34 = z4 := by rw [e_s276, x_up_i (by decide)]; exact e_z4.symm
    have q280 : s276 256 43 = z5 := by rw [e_s276, x_up_i (by decide)]; exact e_z5.symm
    have q281 : s276 256 38 = z6 := by rw [e_s276, x_up_i (by decide)]; exact e_z6.symm
    have q282 : s276 256 50 = z7 := by rw [e_s276, x_up_i (by decide)]; exact e_z7.symm
    have q283 : s276 256 36 = z6 := by rw [e_s276]; exact x_up_same
    have J_s276 : J s276 := by rw [e_s276]; exact J.up i0_J (show 4133 ∉ LJ from by decide)
    have A0_s276 : AW s276 0 (s0 256 50) (s0 256 47 + s0 256 48) := by rw [e_s276]; exact AW.up i0_A0 (show 4133 ∉ [6080, 4140, 4144, 4145, 6208] from by decide +kernel)
    refine x_A k197_151 (fun _ => rfl) ?_
    refine x_A k197_152 (fun _ => rfl) ?_
    refine x_A k197_153 (fun _ => rfl) ?_
    refine x_A k197_154 (fun _ => rfl) ?_
    refine x_ic_ne k197_155 (t := 163) rfl ⟨by decide, by decide⟩ ⟨by decide, by decide⟩ (fun c284 => by exfalso; omega) (fun c284 => ?_)
    refine x_bipush k197_158 (by decide +kernel) ?_
    refine x_goto k197_160 (t := 196) rfl ?_
    refine x_A k197_196 (fun _ => rfl) ?_
    refine x_A k197_197 (fun _ => rfl) ?_
    refine x_callV k197_198 (y := 180) (n := 4) (w0 := 0) (w1 := 4) (as := [vi 0, vi 39, vi 3, vi 2]) (rest := []) (by decide +kernel) (q := 256) (nq := 62) (kq := 15) ⟨by decide, rfl⟩ rfl rfl rfl rfl (xe_mono (C_X11_readNumber_256 s276 hG_s276 0 ⟨by decide, by decide⟩ 39 ⟨by decide, by decide⟩ 3 ⟨by decide, by decide⟩ 2 ⟨by decide, by decide⟩) ?_)
    rintro s286 v ⟨hG_s286, t_s286, z285, rfl, g_z285, xp_z285⟩
    have f_s286 : FL [4133, 4136, 4132, 6080, 6144, 4144, 4145, 4148] s0 s286 := f_s276.tr t_s286 (by decide +kernel)
    have q287 : s286 256 47 = z1 := (t_s286 256 47 (show 4144 ∉ [4133, 4136, 4132] from by decide +kernel)).trans q277
    have q288 : s286 256 48 = z2 := (t_s286 256 48 (show 4145 ∉ [4133, 4136, 4132] from by decide +kernel)).trans q278
    have q289 : s286 256 34 = z4 := (t_s286 256 34 (show 4131 ∉ [4133, 4136, 4132] from by decide +kernel)).trans q279
    have q290 : s286 256 43 = z5 := (t_s286 256 43 (show 4140 ∉ [4133, 4136, 4132] from by decide +kernel)).trans q280
    have q291 : s286 256 38 = z6 := (t_s286 256 38 (show 4135 ∉ [4133, 4136, 4132] from by decide +kernel)).trans q281
    have q292 : s286 256 50 = z7 := (t_s286 256 50 (show 4147 ∉ [4133, 4136, 4132] from by decide +kernel)).trans q282
    have J_s286 : J s286 := J.fl J_s276 t_s286 (by decide +kernel)
    have A0_s286 : AW s286 0 (s0 256 50) (s0 256 47 + s0 256 48) := AW.fl A0_s276 t_s286 (by decide +kernel)
    obtain ⟨z293, e_z293⟩ : ∃ z, z = s286 256 36 := ⟨_, rfl⟩
    have g_z293 : (0 : Int) ≤ s286 256 36 ∧ s286 256 36 ≤ 160 := hG_s286 256 36
    obtain ⟨z294, e_z294⟩ : ∃ z, z = s286 256 39 := ⟨_, rfl⟩
    have g_z294 : (0 : Int) ≤ s286 256 39 ∧ s286 256 39 ≤ 1100000 := hG_s286 256 39
    show xe none 197 201 [(1, vi 3), (0, .ref 256)] [vi z285] s286 0 0 _
    refine x_istore_n k197_201 (ls' := [(2, vi z285), (1, vi 3), (0, .ref 256)]) (by decide) rfl ?_
    refine x_A k197_202 (fun _ => rfl) ?_
    refine x_getI k197_203 (f := 39) rfl (q := 256) (n := 62) (kd := 15) ⟨by decide, rfl⟩ (by decide) rfl ?_
    rw [e_z294.symm]
    refine x_istore_n k197_206 (ls' := [(3, vi z294), (2, vi z285), (1, vi 3), (0, .ref 256)]) (by decide) rfl ?_
    refine x_A k197_207 (fun _ => rfl) ?_
    refine x_A k197_208 (fun _ => rfl) ?_
    refine x_ic_ne k197_209 (t := 236) rfl ⟨by decide, by decide⟩ ⟨by decide, by decide⟩ (fun c295 => ?_) (fun c295 => by exfalso; omega)
    refine x_A k197_236 (fun _ => rfl) ?_
    refine x_if_ne k197_237 (t := 256) rfl (by first | exact x_rbe e_z285 g_z285 rfl rfl | exact x_rb g_z285 rfl rfl | exact ⟨by omega, by omega⟩) (fun c296 => ?_) (fun c296 => ?_)
    · skip
      refine x_A k197_256 (fun _ => rfl) ?_
      obtain ⟨z297, e_z297⟩ : ∃ z, z = s286 256 51 := ⟨_, rfl⟩
      have g_z297 : (0 : Int) ≤ s286 256 51 ∧ s286 256 51 ≤ 1 := hG_s286 256 51
      exact x_iret k197_257 rfl ⟨hG_s286, f_s286, z285, rfl, (by first | exact x_rbe e_z285 g_z285 rfl rfl | exact x_rb g_z285 rfl rfl | exact ⟨by omega, by omega⟩), ⟨fun hz => by exfalso; omega, fun hz => by exfalso; omega⟩, J_s286⟩
    · skip
      refine x_A k197_240 (fun _ => rfl) ?_
      refine x_A k197_241 (fun _ => rfl) ?_
      refine x_A k197_242 (fun _ => rfl) ?_
      refine x_callV k197_243 (y := 194) (n := 2) (w0 := 0) (w1 := 2) (as := [vi 3, vi z294]) (rest := []) (by decide +kernel) (q := 256) (nq := 62) (kq := 15) ⟨by decide, rfl⟩ rfl rfl rfl rfl (xe_mono (C_X11_put_256 s286 hG_s286 3 ⟨by decide, by decide⟩ z294 (by first | exact x_rbe e_z294 g_z294 rfl rfl | exact x_rb g_z294 rfl rfl | exact ⟨by omega, by omega⟩) ⟨by omega, by omega⟩ ⟨by omega, by omega⟩ J_s286) ?_)
      rintro s299 v ⟨hG_s299, t_s299, rfl, xp_z298, J_s299⟩
      have f_s299 : FL [4133, 4136, 4132, 6080, 6144, 4144, 4145, 4148] s0 s299 := f_s286.tr t_s299 (by decide +kernel)
      have q300 : s299 256 48 = z2 := (t_s299 256 48 (show 4145 ∉ [6080, 6144, 4144] from by decide +kernel)).trans q288
      have q301 : s299 256 34 = z4 := (t_s299 256 34 (show 4131 ∉ [6080, 6144, 4144] from by decide +kernel)).trans q289
      have q302 : s299 256 43 = z5 := (t_s299 256 43 (show 4140 ∉ [6080, 6144, 4144] from by decide +kernel)).trans q290
      have q303 : s299 256 38 = z6 := (t_s299 256 38 (show 4135 ∉ [6080, 6144, 4144] from by decide +kernel)).trans q291
      have q304 : s299 256 50 = z7 := (t_s299 256 50 (show 4147 ∉ [6080, 6144, 4144] from by decide +kernel)).trans q292
      have q305 : s299 256 36 = z293 := (t_s299 256 36 (show 4133 ∉ [6080, 6144, 4144] from by decide +kernel)).trans e_z293.symm
      have q306 : s299 256 39 = z294 := (t_s299 256 39 (show 4136 ∉ [6080, 6144, 4144] from by decide +kernel)).trans e_z294.symm
      show xe none 197 246 [(3, vi z294), (2, vi z285), (1, vi 3), (0, .ref 256)] [] s299 0 0 _
      obtain ⟨z307, e_z307⟩ : ∃ z, z = s299 256 47 := ⟨_, rfl⟩
      have g_z307 : (0 : Int) ≤ s299 256 47 ∧ s299 256 47 ≤ 110 := hG_s299 256 47
      have A1_l : AW s299 1 (s0 256 50) (s0 256 47 + s0 256 48 + 1) := AW.leaf A0_s286 (by omega) (by omega) (by omega) (by omega) (by omega) (by omega) (funext fun i => t_s299 289 i (show 6208 ∉ _ from by decide)) xp_z298.2
      have s_l := A1_l.2.2.2
      have AW1_l := AW.rf A1_l
      refine x_A k197_246 (fun _ => rfl) ?_
      refine x_A k197_247 (fun _ => rfl) ?_
      refine x_callV k197_248 (y := 195) (n := 1) (w0 := 0) (w1 := 1) (as := [vi 2]) (rest := []) (by decide +kernel) (q := 256) (nq := 62) (kq := 15) ⟨by decide, rfl⟩ rfl rfl rfl rfl (xe_mono (C_X11_work_256 s299 hG_s299 2 ⟨by decide, by decide⟩ ⟨by omega, by omega⟩ ⟨by omega, by omega⟩ ⟨by omega, by omega⟩ (by omega) (by omega) J_s299 AW1_l) ?_)
      rintro s309 v ⟨hG_s309, t_s309, rfl, xp_z308, J_s309, AW1_s309⟩
      have f_s309 : FL [4133, 4136, 4132, 6080, 6144, 4144, 4145, 4148] s0 s309 := f_s299.tr t_s309 (by decide +kernel)
      have q310 : s309 256 34 = z4 := (t_s309 256 34 (show 4131 ∉ [6080, 6144, 4144, 4145] from by decide +kernel)).trans q301
      have q311 : s309 256 43 = z5 := (t_s309 256 43 (show 4140 ∉ [6080, 6144, 4144, 4145] from by decide +kernel)).trans q302
      have q312 : s309 256 38 = z6 := (t_s309 256 38 (show 4135 ∉ [6080, 6144, 4144, 4145] from by decide +kernel)).trans q303
      have q313 : s309 256 50 = z7 := (t_s309 256 50 (show 4147 ∉ [6080, 6144, 4144, 4145] from by decide +kernel)).trans q304
      have q314 : s309 256 36 = z293 := (t_s309 256 36 (show 4133 ∉ [6080, 6144, 4144, 4145] from by decide +kernel)).trans q305
      have q315 : s309 256 39 = z294 := (t_s309 256 39 (show 4136 ∉ [6080, 6144, 4144, 4145] from by decide +kernel)).trans q306
      show xe none 197 251 [(3, vi z294), (2, vi z285), (1, vi 3), (0, .ref 256)] [] s309 0 0 _
      have A1_w : AW s309 1 (s0 256 50) (s0 256 47 + s0 256 48 + 1) := AW.tr A1_l AW1_s309
      have s_A1_w := A1_w.2.2.2
      obtain ⟨z316, e_z316⟩ : ∃ z, z = s309 256 47 := ⟨_, rfl⟩
      have g_z316 : (0 : Int) ≤ s309 256 47 ∧ s309 256 47 ≤ 110 := hG_s309 256 47
      obtain ⟨z317, e_z317⟩ : ∃ z, z = s309 256 48 := ⟨_, rfl⟩
      have g_z317 : (0 : Int) ≤ s309 256 48 ∧ s309 256 48 ≤ 120 := hG_s309 256 48
      refine x_A k197_251 (fun _ => rfl) ?_
      refine x_A k197_252 (fun _ => rfl) ?_
      refine x_putZ k197_253 (f := 51) rfl (q := 256) (n := 62) (kd := 15) ⟨by decide, rfl⟩ rfl rfl rfl ⟨by omega, by omega⟩ ?_
      refine x_nh (fun s318 e_s318 => ?_)
      have hG_s318 : GI s318 := by rw [e_s318]; exact hG_s309.up (show 0 ≤ 0 ∧ 0 ≤ 1 from ⟨by decide, by decide⟩)
      have f_s318 : FL [4133, 4136, 4132, 6080, 6144, 4144, 4145, 4148] s0 s318 := by rw [e_s318]; exact f_s309.up (show 4148 ∈ [4133, 4136, 4132, 6080, 6144, 4144, 4145, 4148] from by decide +kernel)
      have q319 : s318 256 34 = z4 := by rw [e_s318, x_up_i (by decide)]; exact q310
      have q320 : s318 256 43 = z5 := by rw [e_s318, x_up_i (by decide)]; exact q311
      have q321 : s318 256 38 = z6 := by rw [e_s318, x_up_i (by decide)]; exact q312
      have q322 : s318 256 50 = z7 := by rw [e_s318, x_up_i (by decide)]; exact q313
      have q323 : s318 256 36 = z293 := by rw [e_s318, x_up_i (by decide)]; exact q314
      have q324 : s318 256 39 = z294 := by rw [e_s318, x_up_i (by decide)]; exact q315
      have q325 : s318 256 47 = z316 := by rw [e_s318, x_up_i (by decide)]; exact e_z316.symm
      have q326 : s318 256 48 = z317 := by rw [e_s318, x_up_i (by decide)]; exact e_z317.symm
      have q327 : s318 256 51 = 0 := by rw [e_s318]; exact x_up_same
      have J_s318 : J s318 := by rw [e_s318]; exact J.up J_s309 (show 4148 ∉ LJ from by decide)
      have A1_s318 : AW s318 1 (s0 256 50) (s0 256 47 + s0 256 48 + 1) := by rw [e_s318]; exact AW.up A1_w (show 4148 ∉ [6080, 4140, 4144, 4145, 6208] from by decide +kernel)
      refine x_A k197_256 (fun _ => rfl) ?_
      exact x_iret k197_257 rfl ⟨hG_s318, f_s318, z285, rfl, (by first | exact x_rbe e_z285 g_z285 rfl rfl | exact x_rb g_z285 rfl rfl | exact ⟨by omega, by omega⟩), ⟨fun hz => by omega, fun hz => A1_s318⟩, J_s318⟩
theorem C_X11_readOne_256 (s0 : xS) (hG0 : GI s0) (p_256_47 : 0 ≤ s0 256 47 ∧ s0 256 47 ≤ 110) (p_256_48 : 0 ≤ s0 256 48 ∧ s0 256 48 ≤ 120) (p_256_36 : 0 ≤ s0 256 36 ∧ s0 256 36 ≤ 160) (p_256_34 : 0 ≤ s0 256 34 ∧ s0 256 34 ≤ 160) (p_256_43 : 0 ≤ s0 256 43 ∧ s0 256 43 ≤ 8) (p_256_50 : 0 ≤ s0 256 50 ∧ s0 256 50 ≤ 5) (p_256_51 : 0 ≤ s0 256 51 ∧ s0 256 51 ≤ 1) (pb : s0 256 47 + s0 256 48 ≤ s0 256 36 ∧ s0 256 36 ≤ s0 256 34 ∧ s0 256 34 ≤ 100 ∧ s0 256 43 ≤ 7) (p1 : s0 256 51 = 1) (i0_J : J s0) (i0_A0 : AW s0 0 (s0 256 50) (s0 256 47 + s0 256 48)) : xe none 198 0 (lv_args 0 [.ref 256]) [] s0 0 0 (fun s' v => GI s' ∧ FL [4133, 4136, 4132, 6080, 6144, 4144, 4145, 4148, 4134, 4135, 4147, 6208] s0 s' ∧ ∃ z, v = some (vi z) ∧ (0 ≤ z ∧ z ≤ 5) ∧ ((z = 0 → s0 256 36 < s' 256 36 ∧ s' 256 36 ≤ s' 256 34 ∧ s' 256 47 + s' 256 48 ≤ s' 256 36) ∧ (z = 0 → AW s' (1 - s' 256 51) (s' 256 50) (s' 256 47 + s' 256 48))) ∧ J s') := by
  have f0 : FL [4133, 4136, 4132, 6080, 6144, 4144, 4145, 4148, 4134, 4135, 4147, 6208] s0 s0 := FL.rf
  show xe none 198 0 [(0, .ref 256)] [] s0 0 0 _
  obtain ⟨z1, e_z1⟩ : ∃ z, z = s0 256 47 := ⟨_, rfl⟩
  have g_z1 : (0 : Int) ≤ s0 256 47 ∧ s0 256 47 ≤ 110 := hG0 256 47
  obtain ⟨z2, e_z2⟩ : ∃ z, z = s0 256 48 := ⟨_, rfl⟩
  have g_z2 : (0 : Int) ≤ s0 256 48 ∧ s0 256 48 ≤ 120 := hG0 256 48
  obtain ⟨z3, e_z3⟩ : ∃ z, z = s0 256 36 := ⟨_, rfl⟩
  have g_z3 : (0 : Int) ≤ s0 256 36 ∧ s0 256 36 ≤ 160 := hG0 256 36
  obtain ⟨z4, e_z4⟩ : ∃ z, z = s0 256 34 := ⟨_, rfl⟩
  have g_z4 : (0 : Int) ≤ s0 256 34 ∧ s0 256 34 ≤ 160 := hG0 256 34
  obtain ⟨z5, e_z5⟩ : ∃ z, z = s0 256 43 := ⟨_, rfl⟩
  have g_z5 : (0 : Int) ≤ s0 256 43 ∧ s0 256 43 ≤ 8 := hG0 256 43
  obtain ⟨z6, e_z6⟩ : ∃ z, z = s0 256 50 := ⟨_, rfl⟩
  have g_z6 : (0 : Int) ≤ s0 256 50 ∧ s0 256 50 ≤ 5 := hG0 256 50
  obtain ⟨z7, e_z7⟩ : ∃ z, z = s0 256 51 := ⟨_, rfl⟩
  have g_z7 : (0 : Int) ≤ s0 256 51 ∧ s0 256 51 ≤ 1 := hG0 256 51
  refine x_A k198_0 (fun _ => rfl) ?_
  refine x_callV k198_1 (y := 178) (n := 0) (w0 := 0) (w1 := 0) (as := []) (rest := []) (by decide +kernel) (q := 256) (nq := 62) (kq := 15) ⟨by decide, rfl⟩ rfl rfl rfl rfl (xe_mono (C_X11_readWord_256 s0 hG0) ?_)
  rintro s9 v ⟨hG_s9, t_s9, rfl, xp_z8⟩
  have f_s9 : FL [4133, 4136, 4132, 6080, 6144, 4144, 4145, 4148, 4134, 4135, 4147, 6208] s0 s9 := f0.tr t_s9 (by decide +kernel)
  have q10 : s9 256 47 = z1 := (t_s9 256 47 (show 4144 ∉ [4133, 4134, 4135] from by decide +kernel)).trans e_z1.symm
  have q11 : s9 256 48 = z2 := (t_s9 256 48 (show 4145 ∉ [4133, 4134, 4135] from by decide +kernel)).trans e_z2.symm
  have q12 : s9 256 34 = z4 := (t_s9 256 34 (show 4131 ∉ [4133, 4134, 4135] from by decide +kernel)).trans e_z4.symm
  have q13 : s9 256 43 = z5 := (t_s9 256 43 (show 4140 ∉ [4133, 4134, 4135] from by decide +kernel)).trans e_z5.symm
  have q14 : s9 256 50 = z6 := (t_s9 256 50 (show 4147 ∉ [4133, 4134, 4135] from by decide +kernel)).trans e_z6.symm
  have q15 : s9 256 51 = z7 := (t_s9 256 51 (show 4148 ∉ [4133, 4134, 4135] from by decide +kernel)).trans e_z7.symm
  have J_s9 : J s9 := J.fl i0_J t_s9 (by decide +kernel)
  have A0_s9 : AW s9 0 (s0 256 50) (s0 256 47 + s0 256 48) := AW.fl i0_A0 t_s9 (by decide +kernel)
  obtain ⟨z16, e_z16⟩ : ∃ z, z = s9 256 36 := ⟨_, rfl⟩
  have g_z16 : (0 : Int) ≤ s9 256 36 ∧ s9 256 36 ≤ 160 := hG_s9 256 36
  obtain ⟨z17, e_z17⟩ : ∃ z, z = s9 256 38 := ⟨_, rfl⟩
  have g_z17 : (0 : Int) ≤ s9 256 38 ∧ s9 256 38 ≤ 160 := hG_s9 256 38
  show xe none 198 4 [(0, .ref 256)] [] s9 0 0 _
  obtain ⟨z18, e_z18⟩ : ∃ z, z = s9 256 37 := ⟨_, rfl⟩
  have g_z18 : (-9223372036854775808) ≤ s9 256 37 ∧ s9 256 37 ≤ 9223372036854775807 := hG_s9 256 37
  have b_z18 : in64 z18 := by rw [e_z18]; exact g_z18
  refine x_A k198_4 (fun _ => rfl) ?_
  refine x_getJ k198_5 (f := 37) rfl (q := 256) (n := 62) (kd := 15) ⟨by decide, rfl⟩ (by decide) rfl ?_
  rw [e_z18.symm]
  refine x_bipush k198_8 (by decide +kernel) ?_
  refine x_bipush k198_10 (by decide +kernel) ?_
  refine x_bipush k198_12 (by decide +kernel) ?_
  refine x_A k198_14 (fun _ => rfl) ?_
  refine x_A k198_15 (fun _ => rfl) ?_
  refine x_A k198_16 (fun _ => rfl) ?_
  refine x_callS k198_17 (y := 179) (n := 6) (w0 := 2) (w1 := 6) (as := [vi 110, vi 111, vi 116, vi 0, vi 0, vi 0]) (rest := [vj z18]) (by decide +kernel) rfl rfl rfl rfl (xe_mono (C_X11_code_c110_c111_c116_c0_c0_c0 s9 hG_s9 110 ⟨by decide, by decide⟩ 111 ⟨by decide, by decide⟩ 116 ⟨by decide, by decide⟩ 0 ⟨by decide, by decide⟩ 0 ⟨by decide, by decide⟩ 0 ⟨by decide, by decide⟩) ?_)
  rintro s20 v ⟨-, t_s20, z19, rfl, b_z19, xp_z19⟩
  rw [t_s20.nil]
  try rw [t_s20.nil] at xp_z19
  show xe none 198 20 [(0, .ref 256)] [vj z19, vj z18] s9 0 0 _
  refine x_lc_ne k198_20 k198_21 (t := 39) rfl b_z18 b_z19 (fun c21 => ?_) (fun c21 => ?_)
  · skip
    refine x_A k198_39 (fun _ => rfl) ?_
    refine x_callV k198_40 (y := 176) (n := 0) (w0 := 0) (w1 := 0) (as := []) (rest := []) (by decide +kernel) (q := 256) (nq := 62) (kq := 15) ⟨by decide, rfl⟩ rfl rfl rfl rfl (xe_mono (C_X11_here_256 s9 hG_s9) ?_)
    rintro s23 v ⟨hG_s23, t_s23, z22, rfl, g_z22, xp_z22⟩
    have f_s23 : FL [4133, 4136, 4132, 6080, 6144, 4144, 4145, 4148, 4134, 4135, 4147, 6208] s0 s23 := f_s9.tr t_s23 (by decide +kernel)
    have q24 : s23 256 47 = z1 := (t_s23 256 47 (show 4144 ∉ [4133] from by decide +kernel)).trans q10
    have q25 : s23 256 48 = z2 := (t_s23 256 48 (show 4145 ∉ [4133] from by decide +kernel)).trans q11
    have q26 : s23 256 34 = z4 := (t_s23 256 34 (show 4131 ∉ [4133] from by decide +kernel)).trans q12
    have q27 : s23 256 43 = z5 := (t_s23 256 43 (show 4140 ∉ [4133] from by decide +kernel)).trans q13
    have q28 : s23 256 50 = z6 := (t_s23 256 50 (show 4147 ∉ [4133] from by decide +kernel)).trans q14
    have q29 : s23 256 51 = z7 := (t_s23 256 51 (show 4148 ∉ [4133] from by decide +kernel)).trans q15
    have q30 : s23 256 38 = z17 := (t_s23 256 38 (show 4135 ∉ [4133] from by decide +kernel)).trans e_z17.symm
    have q31 : s23 256 37 = z18 := (t_s23 256 37 (show 4134 ∉ [4133] from by decide +kernel)).trans e_z18.symm
    have J_s23 : J s23 := J.fl J_s9 t_s23 (by decide +kernel)
    have A0_s23 : AW s23 0 (s0 256 50) (s0 256 47 + s0 256 48) := AW.fl A0_s9 t_s23 (by decide +kernel)
    obtain ⟨z32, e_z32⟩ : ∃ z, z = s23 256 36 := ⟨_, rfl⟩
    have g_z32 : (0 : Int) ≤ s23 256 36 ∧ s23 256 36 ≤ 160 := hG_s23 256 36
    show xe none 198 43 [(0, .ref 256)] [vi z22] s23 0 0 _
    refine x_bipush k198_43 (by decide +kernel) ?_
    refine x_ic_ne k198_45 (t := 93) rfl (by first | exact x_rbe e_z22 g_z22 rfl rfl | exact x_rb g_z22 rfl rfl | exact ⟨by omega, by omega⟩) ⟨by decide, by decide⟩ (fun c33 => ?_) (fun c33 => ?_)
    · skip
      refine x_A k198_93 (fun _ => rfl) ?_
      have A0_i : AW s23 0 (s23 256 50) (s23 256 47 + s23 256 48) := AW.ca A0_s23 rfl (by omega) (by omega)
      refine x_callV k198_94 (y := 197) (n := 0) (w0 := 0) (w1 := 0) (as := []) (rest := []) (by decide +kernel) (q := 256) (nq := 62) (kq := 15) ⟨by decide, rfl⟩ rfl rfl rfl rfl (xe_mono (C_X11_readLeaf_256 s23 hG_s23 ⟨by omega, by omega⟩ ⟨by omega, by omega⟩ ⟨by omega, by omega⟩ ⟨by omega, by omega⟩ ⟨by omega, by omega⟩ ⟨by omega, by omega⟩ ⟨by omega, by omega⟩ (by omega) (by omega) J_s23 A0_i) ?_)
      rintro s35 v ⟨hG_s35, t_s35, z34, rfl, g_z34, xp_z34, J_s35⟩
      have f_s35 : FL [4133, 4136, 4132, 6080, 6144, 4144, 4145, 4148, 4134, 4135, 4147, 6208] s0 s35 := f_s23.tr t_s35 (by decide +kernel)
      have q36 : s35 256 34 = z4 := (t_s35 256 34 (show 4131 ∉ [4133, 4136, 4132, 6080, 6144, 4144, 4145, 4148] from by decide +kernel)).trans q26
      have q37 : s35 256 43 = z5 := (t_s35 256 43 (show 4140 ∉ [4133, 4136, 4132, 6080, 6144, 4144, 4145, 4148] from by decide +kernel)).trans q27
      have q38 : s35 256 50 = z6 := (t_s35 256 50 (show 4147 ∉ [4133, 4136, 4132, 6080, 6144, 4144, 4145, 4148] from by decide +kernel)).trans q28
      have q39 : s35 256 38 = z17 := (t_s35 256 38 (show 4135 ∉ [4133, 4136, 4132, 6080, 6144, 4144, 4145, 4148] from by decide +kernel)).trans q30
      have q40 : s35 256 37 = z18 := (t_s35 256 37 (show 4134 ∉ [4133, 4136, 4132, 6080, 6144, 4144, 4145, 4148] from by decide +kernel)).trans q31
      obtain ⟨z41, e_z41⟩ : ∃ z, z = s35 256 36 := ⟨_, rfl⟩
      have g_z41 : (0 : Int) ≤ s35 256 36 ∧ s35 256 36 ≤ 160 := hG_s35 256 36
      obtain ⟨z42, e_z42⟩ : ∃ z, z = s35 256 47 := ⟨_, rfl⟩
      have g_z42 : (0 : Int) ≤ s35 256 47 ∧ s35 256 47 ≤ 110 := hG_s35 256 47
      obtain ⟨z43, e_z43⟩ : ∃ z, z = s35 256 48 := ⟨_, rfl⟩
      have g_z43 : (0 : Int) ≤ s35 256 48 ∧ s35 256 48 ≤ 120 := hG_s35 256 48
      obtain ⟨z44, e_z44⟩ : ∃ z, z = s35 256 51 := ⟨_, rfl⟩
      have g_z44 : (0 : Int) ≤ s35 256 51 ∧ s35 256 51 ≤ 1 := hG_s35 256 51
      show xe none 198 97 [(0, .ref 256)] [vi z34] s35 0 0 _
      exact x_iret k198_97 rfl ⟨hG_s35, f_s35, z34, rfl, (by first | exact x_rbe e_z34 g_z34 rfl rfl | exact x_rb g_z34 rfl rfl | exact ⟨by omega, by omega⟩), ⟨fun hz => by omega, fun hz => AW.ca (xp_z34.2 (by omega)) (by omega) (by omega) (by omega)⟩, J_s35⟩
    · skip
      refine x_A k198_48 (fun _ => rfl) ?_
      refine x_getI k198_49 (f := 50) rfl (q := 256) (n := 62) (kd := 15) ⟨by decide, rfl⟩ (by decide) rfl ?_
      rw [q28]
      refine x_A k198_52 (fun _ => rfl) ?_
      refine x_ic_ne k198_53 (t := 66) rfl (by first | exact x_rbe e_z6 g_z6 rfl rfl | exact x_rb g_z6 rfl rfl | exact ⟨by omega, by omega⟩) ⟨by decide, by decide⟩ (fun c45 => ?_) (fun c45 => ?_)
      · skip
        refine x_A k198_66 (fun _ => rfl) ?_
        refine x_A k198_67 (fun _ => rfl) ?_
        refine x_getI k198_68 (f := 50) rfl (q := 256) (n := 62) (kd := 15) ⟨by decide, rfl⟩ (by decide) rfl ?_
        rw [q28]
        refine x_A k198_71 (fun _ => rfl) ?_
        refine x_iadd k198_72 ?_
        refine x_top (fun z46 e_z46 => ?_)
        refine x_putI k198_73 (f := 50) rfl (q := 256) (n := 62) (kd := 15) ⟨by decide, rfl⟩ rfl rfl rfl ?_
        refine x_nh (fun s47 e_s47 => ?_)
        have hG_s47 : GI s47 := by rw [e_s47]; exact hG_s23.up (show 0 ≤ z46 ∧ z46 ≤ 5 from (by first | exact x_rbe e_z46 g_z46 rfl rfl | exact x_rb g_z46 rfl rfl | exact ⟨by omega, by omega⟩))
        have f_s47 : FL [4133, 4136, 4132, 6080, 6144, 4144, 4145, 4148, 4134, 4135, 4147, 6208] s0 s47 := by rw [e_s47]; exact f_s23.up (show 4147 ∈ [4133, 4136, 4132, 6080, 6144, 4144, 4145, 4148, 4134, 4135, 4147, 6208] from by decide +kernel)
        have q48 : s47 256 47 = z1 := by rw [e_s47, x_up_i (by decide)]; exact q24
        have q49 : s47 256 48 = z2 := by rw [e_s47, x_up_i (by decide)]; exact q25
        have q50 : s47 256 34 = z4 := by rw [e_s47, x_up_i (by decide)]; exact q26
        have q51 : s47 256 43 = z5 := by rw [e_s47, x_up_i (by decide)]; exact q27
        have q52 : s47 256 51 = z7 := by rw [e_s47, x_up_i (by decide)]; exact q29
        have q53 : s47 256 38 = z17 := by rw [e_s47, x_up_i (by decide)]; exact q30
        have q54 : s47 256 37 = z18 := by rw [e_s47, x_up_i (by decide)]; exact q31
        have q55 : s47 256 36 = z32 := by rw [e_s47, x_up_i (by decide)]; exact e_z32.symm
        have q56 : s47 256 50 = z46 := by rw [e_s47]; exact x_up_same
        have J_s47 : J s47 := by rw [e_s47]; exact J.up J_s23 (show 4147 ∉ LJ from by decide)
        have A0_s47 : AW s47 0 (s0 256 50) (s0 256 47 + s0 256 48) := by rw [e_s47]; exact AW.up A0_s23 (show 4147 ∉ [6080, 4140, 4144, 4145, 6208] from by decide +kernel)
        refine x_A k198_76 (fun _ => rfl) ?_
        refine x_A k198_77 (fun _ => rfl) ?_
        refine x_getI k198_78 (f := 36) rfl (q := 256) (n := 62) (kd := 15) ⟨by decide, rfl⟩ (by decide) rfl ?_
        rw [q55]
        refine x_A k198_81 (fun _ => rfl) ?_
        refine x_iadd k198_82 ?_
        refine x_top (fun z57 e_z57 => ?_)
        refine x_putI k198_83 (f := 36) rfl (q := 256) (n := 62) (kd := 15) ⟨by decide, rfl⟩ rfl rfl rfl ?_
        refine x_nh (fun s58 e_s58 => ?_)
        have hG_s58 : GI s58 := by rw [e_s58]; exact hG_s47.up (show 0 ≤ z57 ∧ z57 ≤ 160 from (by first | exact x_rbe e_z57 g_z57 rfl rfl | exact x_rb g_z57 rfl rfl | exact ⟨by omega, by omega⟩))
        have f_s58 : FL [4133, 4136, 4132, 6080, 6144, 4144, 4145, 4148, 4134, 4135, 4147, 6208] s0 s58 := by rw [e_s58]; exact f_s47.up (show 4133 ∈ [4133, 4136, 4132, 6080, 6144, 4144, 4145, 4148, 4134, 4135, 4147, 6208] from by decide +kernel)
        have q59 : s58 256 47 = z1 := by rw [e_s58, x_up_i (by decide)]; exact q48
        have q60 : s58 256 48 = z2 := by rw [e_s58, x_up_i (by decide)]; exact q49
        have q61 : s58 256 34 = z4 := by rw [e_s58, x_up_i (by decide)]; exact q50
        have q62 : s58 256 43 = z5 := by rw [e_s58, x_up_i (by decide)]; exact q51
        have q63 : s58 256 51 = z7 := by rw [e_s58, x_up_i (by decide)]; exact q52
        have q64 : s58 256 38 = z17 := by rw [e_s58, x_up_i (by decide)]; exact q53
        have q65 : s58 256 37 = z18 := by rw [e_s58, x_up_i (by decide)]; exact q54
        have q66 : s58 256 50 = z46 := by rw [e_s58, x_up_i (by decide)]; exact q56
        have q67 : s58 256 36 = z57 := by rw [e_s58]; exact x_up_same
        have J_s58 : J s58 := by rw [e_s58]; exact J.up J_s47 (show 4133 ∉ LJ from by decide)
        have A0_s58 : AW s58 0 (s0 256 50) (s0 256 47 + s0 256 48) := by rw [e_s58]; exact AW.up A0_s47 (show 4133 ∉ [6080, 4140, 4144, 4145, 6208] from by decide +kernel)
        refine x_A k198_86 (fun _ => rfl) ?_
        refine x_A k198_87 (fun _ => rfl) ?_
        refine x_callV k198_88 (y := 196) (n := 1) (w0 := 0) (w1 := 1) (as := [vi 3]) (rest := []) (by decide +kernel) (q := 256) (nq := 62) (kq := 15) ⟨by decide, rfl⟩ rfl rfl rfl rfl (xe_mono (C_X11_hold_256 s58 hG_s58 3 ⟨by decide, by decide⟩ ⟨by omega, by omega⟩) ?_)
        rintro s69 v ⟨hG_s69, t_s69, rfl, xp_z68⟩
        have f_s69 : FL [4133, 4136, 4132, 6080, 6144, 4144, 4145, 4148, 4134, 4135, 4147, 6208] s0 s69 := f_s58.tr t_s69 (by decide +kernel)
        have q70 : s69 256 47 = z1 := (t_s69 256 47 (show 4144 ∉ [6208, 4145] from by decide +kernel)).trans q59
        have q71 : s69 256 34 = z4 := (t_s69 256 34 (show 4131 ∉ [6208, 4145] from by decide +kernel)).trans q61
        have q72 : s69 256 43 = z5 := (t_s69 256 43 (show 4140 ∉ [6208, 4145] from by decide +kernel)).trans q62
        have q73 : s69 256 51 = z7 := (t_s69 256 51 (show 4148 ∉ [6208, 4145] from by decide +kernel)).trans q63
        have q74 : s69 256 38 = z17 := (t_s69 256 38 (show 4135 ∉ [6208, 4145] from by decide +kernel)).trans q64
        have q75 : s69 256 37 = z18 := (t_s69 256 37 (show 4134 ∉ [6208, 4145] from by decide +kernel)).trans q65
        have q76 : s69 256 50 = z46 := (t_s69 256 50 (show 4147 ∉ [6208, 4145] from by decide +kernel)).trans q66
        have q77 : s69 256 36 = z57 := (t_s69 256 36 (show 4133 ∉ [6208, 4145] from by decide +kernel)).trans q67
        have J_s69 : J s69 := J.fl J_s58 t_s69 (by decide +kernel)
        show xe none 198 91 [(0, .ref 256)] [] s69 0 0 _
        obtain ⟨z78, e_z78⟩ : ∃ z, z = s69 256 48 := ⟨_, rfl⟩
        have g_z78 : (0 : Int) ≤ s69 256 48 ∧ s69 256 48 ≤ 120 := hG_s69 256 48
        have O0_h : AW s69 0 (s0 256 50 + 1) (s0 256 47 + s0 256 48 + 1) := AW.ca (AW.hold3 A0_s58 (by omega) (by omega) (by omega) (by omega) (funext fun i => t_s69 287 i (show 6080 ∉ _ from by decide)) xp_z68.2) (by omega) (by omega) (by omega)
        have s_O0 := O0_h.2.2.2
        refine x_A k198_91 (fun _ => rfl) ?_
        exact x_iret k198_92 rfl ⟨hG_s69, f_s69, 0, rfl, ⟨by decide, by decide⟩, ⟨fun hz => by omega, fun hz => AW.ca O0_h (by omega) (by omega) (by omega)⟩, J_s69⟩
      · skip
        refine x_A k198_56 (fun _ => rfl) ?_
        refine x_A k198_57 (fun _ => rfl) ?_
        refine x_A k198_58 (fun _ => rfl) ?_
        refine x_getI k198_59 (f := 36) rfl (q := 256) (n := 62) (kd := 15) ⟨by decide, rfl⟩ (by decide) rfl ?_
        rw [e_z32.symm]
        refine x_callV k198_62 (y := 177) (n := 2) (w0 := 0) (w1 := 2) (as := [vi 5, vi z32]) (rest := []) (by decide +kernel) (q := 256) (nq := 62) (kq := 15) ⟨by decide, rfl⟩ rfl rfl rfl rfl (xe_mono (C_X11_fails_256 s23 hG_s23 5 ⟨by decide, by decide⟩ z32 (by first | exact x_rbe e_z32 g_z32 rfl rfl | exact x_rb g_z32 rfl rfl | exact ⟨by omega, by omega⟩)) ?_)
        rintro s80 v ⟨hG_s80, t_s80, z79, rfl, g_z79, xp_z79⟩
        have f_s80 : FL [4133, 4136, 4132, 6080, 6144, 4144, 4145, 4148, 4134, 4135, 4147, 6208] s0 s80 := f_s23.tr t_s80 (by decide +kernel)
        have q81 : s80 256 47 = z1 := (t_s80 256 47 (show 4144 ∉ [4132] from by decide +kernel)).trans q24
        have q82 : s80 256 48 = z2 := (t_s80 256 48 (show 4145 ∉ [4132] from by decide +kernel)).trans q25
        have q83 : s80 256 34 = z4 := (t_s80 256 34 (show 4131 ∉ [4132] from by decide +kernel)).trans q26
        have q84 : s80 256 43 = z5 := (t_s80 256 43 (show 4140 ∉ [4132] from by decide +kernel)).trans q27
        have q85 : s80 256 50 = z6 := (t_s80 256 50 (show 4147 ∉ [4132] from by decide +kernel)).trans q28
        have q86 : s80 256 51 = z7 := (t_s80 256 51 (show 4148 ∉ [4132] from by decide +kernel)).trans q29
        have q87 : s80 256 38 = z17 := (t_s80 256 38 (show 4135 ∉ [4132] from by decide +kernel)).trans q30
        have q88 : s80 256 37 = z18 := (t_s80 256 37 (show 4134 ∉ [4132] from by decide +kernel)).trans q31
        have q89 : s80 256 36 = z32 := (t_s80 256 36 (show 4133 ∉ [4132] from by decide +kernel)).trans e_z32.symm
        have J_s80 : J s80 := J.fl J_s23 t_s80 (by decide +kernel)
        have A0_s80 : AW s80 0 (s0 256 50) (s0 256 47 + s0 256 48) := AW.fl A0_s23 t_s80 (by decide +kernel)
        show xe none 198 65 [(0, .ref 256)] [vi z79] s80 0 0 _
        exact x_iret k198_65 rfl ⟨hG_s80, f_s80, z79, rfl, (by first | exact x_rbe e_z79 g_z79 rfl rfl | exact x_rb g_z79 rfl rfl | exact ⟨by omega, by omega⟩), ⟨fun hz => by exfalso; omega, fun hz => by exfalso; omega⟩, J_s80⟩
  · skip
    refine x_A k198_24 (fun _ => rfl) ?_
    refine x_A k198_25 (fun _ => rfl) ?_
    refine x_getI k198_26 (f := 38) rfl (q := 256) (n := 62) (kd := 15) ⟨by decide, rfl⟩ (by decide) rfl ?_
    rw [e_z17.symm]
    refine x_putI k198_29 (f := 36) rfl (q := 256) (n := 62) (kd := 15) ⟨by decide, rfl⟩ rfl rfl rfl ?_
    refine x_nh (fun s90 e_s90 => ?_)
    have hG_s90 : GI s90 := by rw [e_s90]; exact hG_s9.up (show 0 ≤ z17 ∧ z17 ≤ 160 from (by first | exact x_rbe e_z17 g_z17 rfl rfl | exact x_rb g_z17 rfl rfl | exact ⟨by omega, by omega⟩))
    have f_s90 : FL [4133, 4136, 4132, 6080, 6144, 4144, 4145, 4148, 4134, 4135, 4147, 6208] s0 s90 := by rw [e_s90]; exact f_s9.up (show 4133 ∈ [4133, 4136, 4132, 6080, 6144, 4144, 4145, 4148, 4134, 4135, 4147, 6208] from by decide +kernel)
    have q91 : s90 256 47 = z1 := by rw [e_s90, x_up_i (by decide)]; exact q10
    have q92 : s90 256 48 = z2 := by rw [e_s90, x_up_i (by decide)]; exact q11
    have q93 : s90 256 34 = z4 := by rw [e_s90, x_up_i (by decide)]; exact q12
    have q94 : s90 256 43 = z5 := by rw [e_s90, x_up_i (by decide)]; exact q13
    have q95 : s90 256 50 = z6 := by rw [e_s90, x_up_i (by decide)]; exact q14
    have q96 : s90 256 51 = z7 := by rw [e_s90, x_up_i (by decide)]; exact q15
    have q97 : s90 256 38 = z17 := by rw [e_s90, x_up_i (by decide)]; exact e_z17.symm
    have q98 : s90 256 37 = z18 := by rw [e_s90, x_up_i (by decide)]; exact e_z18.symm
    have q99 : s90 256 36 = z17 := by rw [e_s90]; exact x_up_same
    have J_s90 : J s90 := by rw [e_s90]; exact J.up J_s9 (show 4133 ∉ LJ from by decide)
    have A0_s90 : AW s90 0 (s0 256 50) (s0 256 47 + s0 256 48) := by rw [e_s90]; exact AW.up A0_s9 (show 4133 ∉ [6080, 4140, 4144, 4145, 6208] from by decide +kernel)
    refine x_A k198_32 (fun _ => rfl) ?_
    refine x_A k198_33 (fun _ => rfl) ?_
    refine x_callV k198_34 (y := 196) (n := 1) (w0 := 0) (w1 := 1) (as := [vi 2]) (rest := []) (by decide +kernel) (q := 256) (nq := 62) (kq := 15) ⟨by decide, rfl⟩ rfl rfl rfl rfl (xe_mono (C_X11_hold_256 s90 hG_s90 2 ⟨by decide, by decide⟩ ⟨by omega, by omega⟩) ?_)
    rintro s101 v ⟨hG_s101, t_s101, rfl, xp_z100⟩
    have f_s101 : FL [4133, 4136, 4132, 6080, 6144, 4144, 4145, 4148, 4134, 4135, 4147, 6208] s0 s101 := f_s90.tr t_s101 (by decide +kernel)
    have q102 : s101 256 47 = z1 := (t_s101 256 47 (show 4144 ∉ [6208, 4145] from by decide +kernel)).trans q91
    have q103 : s101 256 34 = z4 := (t_s101 256 34 (show 4131 ∉ [6208, 4145] from by decide +kernel)).trans q93
    have q104 : s101 256 43 = z5 := (t_s101 256 43 (show 4140 ∉ [6208, 4145] from by decide +kernel)).trans q94
    have q105 : s101 256 50 = z6 := (t_s101 256 50 (show 4147 ∉ [6208, 4145] from by decide +kernel)).trans q95
    have q106 : s101 256 51 = z7 := (t_s101 256 51 (show 4148 ∉ [6208, 4145] from by decide +kernel)).trans q96
    have q107 : s101 256 38 = z17 := (t_s101 256 38 (show 4135 ∉ [6208, 4145] from by decide +kernel)).trans q97
    have q108 : s101 256 37 = z18 := (t_s101 256 37 (show 4134 ∉ [6208, 4145] from by decide +kernel)).trans q98
    have q109 : s101 256 36 = z17 := (t_s101 256 36 (show 4133 ∉ [6208, 4145] from by decide +kernel)).trans q99
    have J_s101 : J s101 := J.fl J_s90 t_s101 (by decide +kernel)
    show xe none 198 37 [(0, .ref 256)] [] s101 0 0 _
    obtain ⟨z110, e_z110⟩ : ∃ z, z = s101 256 48 := ⟨_, rfl⟩
    have g_z110 : (0 : Int) ≤ s101 256 48 ∧ s101 256 48 ≤ 120 := hG_s101 256 48
    have N0_h : AW s101 0 (s0 256 50) (s0 256 47 + s0 256 48 + 1) := AW.ca (AW.hold2 A0_s90 (by omega) (by omega) (by omega) (by omega) (funext fun i => t_s101 287 i (show 6080 ∉ _ from by decide)) xp_z100.2) (by omega) (by omega) (by omega)
    have s_N0 := N0_h.2.2.2
    refine x_A k198_37 (fun _ => rfl) ?_
    exact x_iret k198_38 rfl ⟨hG_s101, f_s101, 0, rfl, ⟨by decide, by decide⟩, ⟨fun hz => by omega, fun hz => AW.ca N0_h (by omega) (by omega) (by omega)⟩, J_s101⟩
theorem C_X11_readBehind_256 (s0 : xS) (hG0 : GI s0) (p_256_47 : 0 ≤ s0 256 47 ∧ s0 256 47 ≤ 110) (p_256_48 : 0 ≤ s0 256 48 ∧ s0 256 48 ≤ 120) (p_256_36 : 0 ≤ s0 256 36 ∧ s0 256 36 ≤ 160) (p_256_34 : 0 ≤ s0 256 34 ∧ s0 256 34 ≤ 160) (p_256_43 : 0 ≤ s0 256 43 ∧ s0 256 43 ≤ 8) (p_256_50 : 0 ≤ s0 256 50 ∧ s0 256 50 ≤ 5) (p_256_51 : 0 ≤ s0 256 51 ∧ s0 256 51 ≤ 1) (pb : s0 256 47 + s0 256 48 ≤ s0 256 36 ∧ s0 256 36 ≤ s0 256 34 ∧ s0 256 34 ≤ 100 ∧ s0 256 43 ≤ 7) (p1 : s0 256 51 = 0) (i0_J : J s0) (i0_B1 : AW s0 1 (s0 256 50) (s0 256 47 + s0 256 48)) : xe none 199 0 (lv_args 0 [.ref 256]) [] s0 0 0 (fun s' v => GI s' ∧ FL [4133, 4136, 4132, 4134, 4135, 6080, 6144, 4144, 4145, 4148, 4147, 6208] s0 s' ∧ ∃ z, v = some (vi z) ∧ (0 ≤ z ∧ z ≤ 5) ∧ ((z = 0 → s0 256 36 < s' 256 36 ∧ s' 256 36 ≤ s' 256 34 ∧ s' 256 47 + s' 256 48 ≤ s' 256 36) ∧ (z = 0 → AW s' (1 - s' 256 51) (s' 256 50) (s' 256 47 + s' 256 48))) ∧ J s') := by
  have f0 : FL [4133, 4136, 4132, 4134, 4135, 6080, 6144, 4144, 4145, 4148, 4147, 6208] s0 s0 := FL.rf
  show xe none 199 0 [(0, .ref 256)] [] s0 0 0 _
  obtain ⟨z1, e_z1⟩ : ∃ z, z = s0 256 47 := ⟨_, rfl⟩
  have g_z1 : (0 : Int) ≤ s0 256 47 ∧ s0 256 47 ≤ 110 := hG0 256 47
  obtain ⟨z2, e_z2⟩ : ∃ z, z = s0 256 48 := ⟨_, rfl⟩
  have g_z2 : (0 : Int) ≤ s0 256 48 ∧ s0 256 48 ≤ 120 := hG0 256 48
  obtain ⟨z3, e_z3⟩ : ∃ z, z = s0 256 36 := ⟨_, rfl⟩
  have g_z3 : (0 : Int) ≤ s0 256 36 ∧ s0 256 36 ≤ 160 := hG0 256 36
  obtain ⟨z4, e_z4⟩ : ∃ z, z = s0 256 34 := ⟨_, rfl⟩
  have g_z4 : (0 : Int) ≤ s0 256 34 ∧ s0 256 34 ≤ 160 := hG0 256 34
  obtain ⟨z5, e_z5⟩ : ∃ z, z = s0 256 43 := ⟨_, rfl⟩
  have g_z5 : (0 : Int) ≤ s0 256 43 ∧ s0 256 43 ≤ 8 := hG0 256 43
  obtain ⟨z6, e_z6⟩ : ∃ z, z = s0 256 50 := ⟨_, rfl⟩
  have g_z6 : (0 : Int) ≤ s0 256 50 ∧ s0 256 50 ≤ 5 := hG0 256 50
  obtain ⟨z7, e_z7⟩ : ∃ z, z = s0 256 51 := ⟨_, rfl⟩
  have g_z7 : (0 : Int) ≤ s0 256 51 ∧ s0 256 51 ≤ 1 := hG0 256 51
  refine x_A k199_0 (fun _ => rfl) ?_
  refine x_callV k199_1 (y := 178) (n := 0) (w0 := 0) (w1 := 0) (as := []) (rest := []) (by decide +kernel) (q := 256) (nq := 62) (kq := 15) ⟨by decide, rfl⟩ rfl rfl rfl rfl (xe_mono (C_X11_readWord_256 s0 hG0) ?_)
  rintro s9 v ⟨hG_s9, t_s9, rfl, xp_z8⟩
  have f_s9 : FL [4133, 4136, 4132, 4134, 4135, 6080, 6144, 4144, 4145, 4148, 4147, 6208] s0 s9 := f0.tr t_s9 (by decide +kernel)
  have q10 : s9 256 47 = z1 := (t_s9 256 47 (show 4144 ∉ [4133, 4134, 4135] from by decide +kernel)).trans e_z1.symm
  have q11 : s9 256 48 = z2 := (t_s9 256 48 (show 4145 ∉ [4133, 4134, 4135] from by decide +kernel)).trans e_z2.symm
  have q12 : s9 256 34 = z4 := (t_s9 256 34 (show 4131 ∉ [4133, 4134, 4135] from by decide +kernel)).trans e_z4.symm
  have q13 : s9 256 43 = z5 := (t_s9 256 43 (show 4140 ∉ [4133, 4134, 4135] from by decide +kernel)).trans e_z5.symm
  have q14 : s9 256 50 = z6 := (t_s9 256 50 (show 4147 ∉ [4133, 4134, 4135] from by decide +kernel)).trans e_z6.symm
  have q15 : s9 256 51 = z7 := (t_s9 256 51 (show 4148 ∉ [4133, 4134, 4135] from by decide +kernel)).trans e_z7.symm
  have J_s9 : J s9 := J.fl i0_J t_s9 (by decide +kernel)
  have B1_s9 : AW s9 1 (s0 256 50) (s0 256 47 + s0 256 48) := AW.fl i0_B1 t_s9 (by decide +kernel)
  obtain ⟨z16, e_z16⟩ : ∃ z, z = s9 256 36 := ⟨_, rfl⟩
  have g_z16 : (0 : Int) ≤ s9 256 36 ∧ s9 256 36 ≤ 160 := hG_s9 256 36
  obtain ⟨z17, e_z17⟩ : ∃ z, z = s9 256 38 := ⟨_, rfl⟩
  have g_z17 : (0 : Int) ≤ s9 256 38 ∧ s9 256 38 ≤ 160 := hG_s9 256 38
  show xe none 199 4 [(0, .ref 256)] [] s9 0 0 _
  refine x_A k199_4 (fun _ => rfl) ?_
  refine x_getJ k199_5 (f := 37) rfl (q := 256) (n := 62) (kd := 15) ⟨by decide, rfl⟩ (by decide) rfl ?_
  refine x_topL (fun z18 e_z18 => ?_)
  have b_z18 : in64 z18 := by rw [e_z18]; exact hG_s9 256 37
  refine x_bipush k199_8 (by decide +kernel) ?_
  refine x_bipush k199_10 (by decide +kernel) ?_
  refine x_bipush k199_12 (by decide +kernel) ?_
  refine x_A k199_14 (fun _ => rfl) ?_
  refine x_A k199_15 (fun _ => rfl) ?_
  refine x_A k199_16 (fun _ => rfl) ?_
  refine x_callS k199_17 (y := 179) (n := 6) (w0 := 2) (w1 := 6) (as := [vi 97, vi 110, vi 100, vi 0, vi 0, vi 0]) (rest := [vj z18]) (by decide +kernel) rfl rfl rfl rfl (xe_mono (C_X11_code_c97_c110_c100_c0_c0_c0 s9 hG_s9 97 ⟨by decide, by decide⟩ 110 ⟨by decide, by decide⟩ 100 ⟨by decide, by decide⟩ 0 ⟨by decide, by decide⟩ 0 ⟨by decide, by decide⟩ 0 ⟨by decide, by decide⟩) ?_)
  rintro s20 v ⟨-, t_s20, z19, rfl, b_z19, xp_z19⟩
  rw [t_s20.nil]
  try rw [t_s20.nil] at xp_z19
  show xe none 199 20 [(0, .ref 256)] [vj z19, vj z18] s9 0 0 _
  refine x_lc_ne k199_20 k199_21 (t := 28) rfl b_z18 b_z19 (fun c21 => ?_) (fun c21 => ?_)
  · skip
    refine x_A k199_28 (fun _ => rfl) ?_
    refine x_istore_n k199_29 (ls' := [(1, vi 0), (0, .ref 256)]) (by decide) rfl ?_
    refine x_A k199_30 (fun _ => rfl) ?_
    refine x_if_ne k199_31 (t := 53) rfl ⟨by decide, by decide⟩ (fun c22 => by exfalso; omega) (fun c22 => ?_)
    refine x_A k199_34 (fun _ => rfl) ?_
    refine x_getJ k199_35 (f := 37) rfl (q := 256) (n := 62) (kd := 15) ⟨by decide, rfl⟩ (by decide) rfl ?_
    refine x_topL (fun z23 e_z23 => ?_)
    have b_z23 : in64 z23 := by rw [e_z23]; exact hG_s9 256 37
    refine x_bipush k199_38 (by decide +kernel) ?_
    refine x_bipush k199_40 (by decide +kernel) ?_
    refine x_A k199_42 (fun _ => rfl) ?_
    refine x_A k199_43 (fun _ => rfl) ?_
    refine x_A k199_44 (fun _ => rfl) ?_
    refine x_A k199_45 (fun _ => rfl) ?_
    refine x_callS k199_46 (y := 179) (n := 6) (w0 := 2) (w1 := 6) (as := [vi 111, vi 114, vi 0, vi 0, vi 0, vi 0]) (rest := [vj z23]) (by decide +kernel) rfl rfl rfl rfl (xe_mono (C_X11_code_c111_c114_c0_c0_c0_c0 s9 hG_s9 111 ⟨by decide, by decide⟩ 114 ⟨by decide, by decide⟩ 0 ⟨by decide, by decide⟩ 0 ⟨by decide, by decide⟩ 0 ⟨by decide, by decide⟩ 0 ⟨by decide, by decide⟩) ?_)
    rintro s25 v ⟨-, t_s25, z24, rfl, b_z24, xp_z24⟩
    rw [t_s25.nil]
    try rw [t_s25.nil] at xp_z24
    show xe none 199 49 [(1, vi 0), (0, .ref 256)] [vj z24, vj z23] s9 0 0 _
    refine x_lc_ne k199_49 k199_50 (t := 94) rfl b_z23 b_z24 (fun c26 => ?_) (fun c26 => ?_)
    · skip
      refine x_A k199_94 (fun _ => rfl) ?_
      refine x_callV k199_95 (y := 176) (n := 0) (w0 := 0) (w1 := 0) (as := []) (rest := []) (by decide +kernel) (q := 256) (nq := 62) (kq := 15) ⟨by decide, rfl⟩ rfl rfl rfl rfl (xe_mono (C_X11_here_256 s9 hG_s9) ?_)
      rintro s28 v ⟨hG_s28, t_s28, z27, rfl, g_z27, xp_z27⟩
      have f_s28 : FL [4133, 4136, 4132, 4134, 4135, 6080, 6144, 4144, 4145, 4148, 4147, 6208] s0 s28 := f_s9.tr t_s28 (by decide +kernel)
      have q29 : s28 256 47 = z1 := (t_s28 256 47 (show 4144 ∉ [4133] from by decide +kernel)).trans q10
      have q30 : s28 256 48 = z2 := (t_s28 256 48 (show 4145 ∉ [4133] from by decide +kernel)).trans q11
      have q31 : s28 256 34 = z4 := (t_s28 256 34 (show 4131 ∉ [4133] from by decide +kernel)).trans q12
      have q32 : s28 256 43 = z5 := (t_s28 256 43 (show 4140 ∉ [4133] from by decide +kernel)).trans q13
      have q33 : s28 256 50 = z6 := (t_s28 256 50 (show 4147 ∉ [4133] from by decide +kernel)).trans q14
      have q34 : s28 256 51 = z7 := (t_s28 256 51 (show 4148 ∉ [4133] from by decide +kernel)).trans q15
      have q35 : s28 256 38 = z17 := (t_s28 256 38 (show 4135 ∉ [4133] from by decide +kernel)).trans e_z17.symm
      have J_s28 : J s28 := J.fl J_s9 t_s28 (by decide +kernel)
      have B1_s28 : AW s28 1 (s0 256 50) (s0 256 47 + s0 256 48) := AW.fl B1_s9 t_s28 (by decide +kernel)
      obtain ⟨z36, e_z36⟩ : ∃ z, z = s28 256 36 := ⟨_, rfl⟩
      have g_z36 : (0 : Int) ≤ s28 256 36 ∧ s28 256 36 ≤ 160 := hG_s28 256 36
      show xe none 199 98 [(1, vi 0), (0, .ref 256)] [vi z27] s28 0 0 _
      refine x_bipush k199_98 (by decide +kernel) ?_
      refine x_ic_ne k199_100 (t := 152) rfl (by first | exact x_rbe e_z27 g_z27 rfl rfl | exact x_rb g_z27 rfl rfl | exact ⟨by omega, by omega⟩) ⟨by decide, by decide⟩ (fun c37 => ?_) (fun c37 => ?_)
      · skip
        refine x_A k199_152 (fun _ => rfl) ?_
        refine x_A k199_153 (fun _ => rfl) ?_
        refine x_A k199_154 (fun _ => rfl) ?_
        refine x_getI k199_155 (f := 36) rfl (q := 256) (n := 62) (kd := 15) ⟨by decide, rfl⟩ (by decide) rfl ?_
        rw [e_z36.symm]
        refine x_callV k199_158 (y := 177) (n := 2) (w0 := 0) (w1 := 2) (as := [vi 1, vi z36]) (rest := []) (by decide +kernel) (q := 256) (nq := 62) (kq := 15) ⟨by decide, rfl⟩ rfl rfl rfl rfl (xe_mono (C_X11_fails_256 s28 hG_s28 1 ⟨by decide, by decide⟩ z36 (by first | exact x_rbe e_z36 g_z36 rfl rfl | exact x_rb g_z36 rfl rfl | exact ⟨by omega, by omega⟩)) ?_)
        rintro s39 v ⟨hG_s39, t_s39, z38, rfl, g_z38, xp_z38⟩
        have f_s39 : FL [4133, 4136, 4132, 4134, 4135, 6080, 6144, 4144, 4145, 4148, 4147, 6208] s0 s39 := f_s28.tr t_s39 (by decide +kernel)
        have q40 : s39 256 47 = z1 := (t_s39 256 47 (show 4144 ∉ [4132] from by decide +kernel)).trans q29
        have q41 : s39 256 48 = z2 := (t_s39 256 48 (show 4145 ∉ [4132] from by decide +kernel)).trans q30
        have q42 : s39 256 34 = z4 := (t_s39 256 34 (show 4131 ∉ [4132] from by decide +kernel)).trans q31
        have q43 : s39 256 43 = z5 := (t_s39 256 43 (show 4140 ∉ [4132] from by decide +kernel)).trans q32
        have q44 : s39 256 50 = z6 := (t_s39 256 50 (show 4147 ∉ [4132] from by decide +kernel)).trans q33
        have q45 : s39 256 51 = z7 := (t_s39 256 51 (show 4148 ∉ [4132] from by decide +kernel)).trans q34
        have q46 : s39 256 38 = z17 := (t_s39 256 38 (show 4135 ∉ [4132] from by decide +kernel)).trans q35
        have q47 : s39 256 36 = z36 := (t_s39 256 36 (show 4133 ∉ [4132] from by decide +kernel)).trans e_z36.symm
        have J_s39 : J s39 := J.fl J_s28 t_s39 (by decide +kernel)
        have B1_s39 : AW s39 1 (s0 256 50) (s0 256 47 + s0 256 48) := AW.fl B1_s28 t_s39 (by decide +kernel)
        show xe none 199 161 [(1, vi 0), (0, .ref 256)] [vi z38] s39 0 0 _
        exact x_iret k199_161 rfl ⟨hG_s39, f_s39, z38, rfl, (by first | exact x_rbe e_z38 g_z38 rfl rfl | exact x_rb g_z38 rfl rfl | exact ⟨by omega, by omega⟩), ⟨fun hz => by exfalso; omega, fun hz => by exfalso; omega⟩, J_s39⟩
      · skip
        refine x_A k199_103 (fun _ => rfl) ?_
        refine x_getI k199_104 (f := 50) rfl (q := 256) (n := 62) (kd := 15) ⟨by decide, rfl⟩ (by decide) rfl ?_
        rw [q33]
        refine x_if_le k199_107 (t := 152) rfl (by first | exact x_rbe e_z6 g_z6 rfl rfl | exact x_rb g_z6 rfl rfl | exact ⟨by omega, by omega⟩) (fun c48 => ?_) (fun c48 => ?_)
        · skip
          refine x_A k199_152 (fun _ => rfl) ?_
          refine x_A k199_153 (fun _ => rfl) ?_
          refine x_A k199_154 (fun _ => rfl) ?_
          refine x_getI k199_155 (f := 36) rfl (q := 256) (n := 62) (kd := 15) ⟨by decide, rfl⟩ (by decide) rfl ?_
          rw [e_z36.symm]
          refine x_callV k199_158 (y := 177) (n := 2) (w0 := 0) (w1 := 2) (as := [vi 1, vi z36]) (rest := []) (by decide +kernel) (q := 256) (nq := 62) (kq := 15) ⟨by decide, rfl⟩ rfl rfl rfl rfl (xe_mono (C_X11_fails_256 s28 hG_s28 1 ⟨by decide, by decide⟩ z36 (by first | exact x_rbe e_z36 g_z36 rfl rfl | exact x_rb g_z36 rfl rfl | exact ⟨by omega, by omega⟩)) ?_)
          rintro s50 v ⟨hG_s50, t_s50, z49, rfl, g_z49, xp_z49⟩
          have f_s50 : FL [4133, 4136, 4132, 4134, 4135, 6080, 6144, 4144, 4145, 4148, 4147, 6208] s0 s50 := f_s28.tr t_s50 (by decide +kernel)
          have q51 : s50 256 47 = z1 := (t_s50 256 47 (show 4144 ∉ [4132] from by decide +kernel)).trans q29
          have q52 : s50 256 48 = z2 := (t_s50 256 48 (show 4145 ∉ [4132] from by decide +kernel)).trans q30
          have q53 : s50 256 34 = z4 := (t_s50 256 34 (show 4131 ∉ [4132] from by decide +kernel)).trans q31
          have q54 : s50 256 43 = z5 := (t_s50 256 43 (show 4140 ∉ [4132] from by decide +kernel)).trans q32
          have q55 : s50 256 50 = z6 := (t_s50 256 50 (show 4147 ∉ [4132] from by decide +kernel)).trans q33
          have q56 : s50 256 51 = z7 := (t_s50 256 51 (show 4148 ∉ [4132] from by decide +kernel)).trans q34
          have q57 : s50 256 38 = z17 := (t_s50 256 38 (show 4135 ∉ [4132] from by decide +kernel)).trans q35
          have q58 : s50 256 36 = z36 := (t_s50 256 36 (show 4133 ∉ [4132] from by decide +kernel)).trans e_z36.symm
          have J_s50 : J s50 := J.fl J_s28 t_s50 (by decide +kernel)
          have B1_s50 : AW s50 1 (s0 256 50) (s0 256 47 + s0 256 48) := AW.fl B1_s28 t_s50 (by decide +kernel)
          show xe none 199 161 [(1, vi 0), (0, .ref 256)] [vi z49] s50 0 0 _
          exact x_iret k199_161 rfl ⟨hG_s50, f_s50, z49, rfl, (by first | exact x_rbe e_z49 g_z49 rfl rfl | exact x_rb g_z49 rfl rfl | exact ⟨by omega, by omega⟩), ⟨fun hz => by exfalso; omega, fun hz => by exfalso; omega⟩, J_s50⟩
        · skip
          refine x_A k199_110 (fun _ => rfl) ?_
          refine x_A k199_111 (fun _ => rfl) ?_
          refine x_getI k199_112 (f := 36) rfl (q := 256) (n := 62) (kd := 15) ⟨by decide, rfl⟩ (by decide) rfl ?_
          rw [e_z36.symm]
          refine x_A k199_115 (fun _ => rfl) ?_
          refine x_iadd k199_116 ?_
          refine x_top (fun z59 e_z59 => ?_)
          refine x_putI k199_117 (f := 36) rfl (q := 256) (n := 62) (kd := 15) ⟨by decide, rfl⟩ rfl rfl rfl ?_
          refine x_nh (fun s60 e_s60 => ?_)
          have hG_s60 : GI s60 := by rw [e_s60]; exact hG_s28.up (show 0 ≤ z59 ∧ z59 ≤ 160 from (by first | exact x_rbe e_z59 g_z59 rfl rfl | exact x_rb g_z59 rfl rfl | exact ⟨by omega, by omega⟩))
          have f_s60 : FL [4133, 4136, 4132, 4134, 4135, 6080, 6144, 4144, 4145, 4148, 4147, 6208] s0 s60 := by rw [e_s60]; exact f_s28.up (show 4133 ∈ [4133, 4136, 4132, 4134, 4135, 6080, 6144, 4144, 4145, 4148, 4147, 6208] from by decide +kernel)
          have q61 : s60 256 47 = z1 := by rw [e_s60, x_up_i (by decide)]; exact q29
          have q62 : s60 256 48 = z2 := by rw [e_s60, x_up_i (by decide)]; exact q30
          have q63 : s60 256 34 = z4 := by rw [e_s60, x_up_i (by decide)]; exact q31
          have q64 : s60 256 43 = z5 := by rw [e_s60, x_up_i (by decide)]; exact q32
          have q65 : s60 256 50 = z6 := by rw [e_s60, x_up_i (by decide)]; exact q33
          have q66 : s60 256 51 = z7 := by rw [e_s60, x_up_i (by decide)]; exact q34
          have q67 : s60 256 38 = z17 := by rw [e_s60, x_up_i (by decide)]; exact q35
          have q68 : s60 256 36 = z59 := by rw [e_s60]; exact x_up_same
          have J_s60 : J s60 := by rw [e_s60]; exact J.up J_s28 (show 4133 ∉ LJ from by decide)
          have B1_s60 : AW s60 1 (s0 256 50) (s0 256 47 + s0 256 48) := by rw [e_s60]; exact AW.up B1_s28 (show 4133 ∉ [6080, 4140, 4144, 4145, 6208] from by decide +kernel)
          refine x_A k199_120 (fun _ => rfl) ?_
          refine x_A k199_121 (fun _ => rfl) ?_
          refine x_getI k199_122 (f := 50) rfl (q := 256) (n := 62) (kd := 15) ⟨by decide, rfl⟩ (by decide) rfl ?_
          rw [q65]
          refine x_A k199_125 (fun _ => rfl) ?_
          refine x_isub k199_126 ?_
          refine x_top (fun z69 e_z69 => ?_)
          refine x_putI k199_127 (f := 50) rfl (q := 256) (n := 62) (kd := 15) ⟨by decide, rfl⟩ rfl rfl rfl ?_
          refine x_nh (fun s70 e_s70 => ?_)
          have hG_s70 : GI s70 := by rw [e_s70]; exact hG_s60.up (show 0 ≤ z69 ∧ z69 ≤ 5 from (by first | exact x_rbe e_z69 g_z69 rfl rfl | exact x_rb g_z69 rfl rfl | exact ⟨by omega, by omega⟩))
          have f_s70 : FL [4133, 4136, 4132, 4134, 4135, 6080, 6144, 4144, 4145, 4148, 4147, 6208] s0 s70 := by rw [e_s70]; exact f_s60.up (show 4147 ∈ [4133, 4136, 4132, 4134, 4135, 6080, 6144, 4144, 4145, 4148, 4147, 6208] from by decide +kernel)
          have q71 : s70 256 47 = z1 := by rw [e_s70, x_up_i (by decide)]; exact q61
          have q72 : s70 256 48 = z2 := by rw [e_s70, x_up_i (by decide)]; exact q62
          have q73 : s70 256 34 = z4 := by rw [e_s70, x_up_i (by decide)]; exact q63
          have q74 : s70 256 43 = z5 := by rw [e_s70, x_up_i (by decide)]; exact q64
          have q75 : s70 256 51 = z7 := by rw [e_s70, x_up_i (by decide)]; exact q66
          have q76 : s70 256 38 = z17 := by rw [e_s70, x_up_i (by decide)]; exact q67
          have q77 : s70 256 36 = z59 := by rw [e_s70, x_up_i (by decide)]; exact q68
          have q78 : s70 256 50 = z69 := by rw [e_s70]; exact x_up_same
          have J_s70 : J s70 := by rw [e_s70]; exact J.up J_s60 (show 4147 ∉ LJ from by decide)
          have B1_s70 : AW s70 1 (s0 256 50) (s0 256 47 + s0 256 48) := by rw [e_s70]; exact AW.up B1_s60 (show 4147 ∉ [6080, 4140, 4144, 4145, 6208] from by decide +kernel)
          refine x_A k199_130 (fun _ => rfl) ?_
          refine x_A k199_131 (fun _ => rfl) ?_
          have AW1_c := AW.rf B1_s70
          refine x_callV k199_132 (y := 195) (n := 1) (w0 := 0) (w1 := 1) (as := [vi 0]) (rest := []) (by decide +kernel) (q := 256) (nq := 62) (kq := 15) ⟨by decide, rfl⟩ rfl rfl rfl rfl (xe_mono (C_X11_work_256 s70 hG_s70 0 ⟨by decide, by decide⟩ ⟨by omega, by omega⟩ ⟨by omega, by omega⟩ ⟨by omega, by omega⟩ (by omega) (by omega) J_s70 AW1_c) ?_)
          rintro s80 v ⟨hG_s80, t_s80, rfl, xp_z79, J_s80, AW1_s80⟩
          have f_s80 : FL [4133, 4136, 4132, 4134, 4135, 6080, 6144, 4144, 4145, 4148, 4147, 6208] s0 s80 := f_s70.tr t_s80 (by decide +kernel)
          have q81 : s80 256 34 = z4 := (t_s80 256 34 (show 4131 ∉ [6080, 6144, 4144, 4145] from by decide +kernel)).trans q73
          have q82 : s80 256 43 = z5 := (t_s80 256 43 (show 4140 ∉ [6080, 6144, 4144, 4145] from by decide +kernel)).trans q74
          have q83 : s80 256 51 = z7 := (t_s80 256 51 (show 4148 ∉ [6080, 6144, 4144, 4145] from by decide +kernel)).trans q75
          have q84 : s80 256 38 = z17 := (t_s80 256 38 (show 4135 ∉ [6080, 6144, 4144, 4145] from by decide +kernel)).trans q76
          have q85 : s80 256 36 = z59 := (t_s80 256 36 (show 4133 ∉ [6080, 6144, 4144, 4145] from by decide +kernel)).trans q77
          have q86 : s80 256 50 = z69 := (t_s80 256 50 (show 4147 ∉ [6080, 6144, 4144, 4145] from by decide +kernel)).trans q78
          show xe none 199 135 [(1, vi 0), (0, .ref 256)] [] s80 0 0 _
          have B1_c : AW s80 1 (s0 256 50) (s0 256 47 + s0 256 48) := AW.tr B1_s70 AW1_s80
          have s_B1_c := B1_c.2.2.2
          obtain ⟨z87, e_z87⟩ : ∃ z, z = s80 256 47 := ⟨_, rfl⟩
          have g_z87 : (0 : Int) ≤ s80 256 47 ∧ s80 256 47 ≤ 110 := hG_s80 256 47
          obtain ⟨z88, e_z88⟩ : ∃ z, z = s80 256 48 := ⟨_, rfl⟩
          have g_z88 : (0 : Int) ≤ s80 256 48 ∧ s80 256 48 ≤ 120 := hG_s80 256 48
          have w1 := B1_c.has3 (by omega) (by omega)
          have gw : (0 : Int) ≤ s80 289 (s80 256 48 - 1).toNat ∧ s80 289 (s80 256 48 - 1).toNat ≤ 3 := hG_s80 289 (s80 256 48 - 1).toNat
          have w3 : s80 289 (s80 256 48 - 1).toNat = 3 := by omega
          refine x_A k199_135 (fun _ => rfl) ?_
          refine x_A k199_136 (fun _ => rfl) ?_
          refine x_getI k199_137 (f := 48) rfl (q := 256) (n := 62) (kd := 15) ⟨by decide, rfl⟩ (by decide) rfl ?_
          rw [e_z88.symm]
          refine x_A k199_140 (fun _ => rfl) ?_
          refine x_isub k199_141 ?_
          refine x_top (fun z89 e_z89 => ?_)
          refine x_putI k199_142 (f := 48) rfl (q := 256) (n := 62) (kd := 15) ⟨by decide, rfl⟩ rfl rfl rfl ?_
          refine x_nh (fun s90 e_s90 => ?_)
          have hG_s90 : GI s90 := by rw [e_s90]; exact hG_s80.up (show 0 ≤ z89 ∧ z89 ≤ 120 from (by first | exact x_rbe e_z89 g_z89 rfl rfl | exact x_rb g_z89 rfl rfl | exact ⟨by omega, by omega⟩))
          have f_s90 : FL [4133, 4136, 4132, 4134, 4135, 6080, 6144, 4144, 4145, 4148, 4147, 6208] s0 s90 := by rw [e_s90]; exact f_s80.up (show 4145 ∈ [4133, 4136, 4132, 4134, 4135, 6080, 6144, 4144, 4145, 4148, 4147, 6208] from by decide +kernel)
          have q91 : s90 256 34 = z4 := by rw [e_s90, x_up_i (by decide)]; exact q81
          have q92 : s90 256 43 = z5 := by rw [e_s90, x_up_i (by decide)]; exact q82
          have q93 : s90 256 51 = z7 := by rw [e_s90, x_up_i (by decide)]; exact q83
          have q94 : s90 256 38 = z17 := by rw [e_s90, x_up_i (by decide)]; exact q84
          have q95 : s90 256 36 = z59 := by rw [e_s90, x_up_i (by decide)]; exact q85
          have q96 : s90 256 50 = z69 := by rw [e_s90, x_up_i (by decide)]; exact q86
          have q97 : s90 256 47 = z87 := by rw [e_s90, x_up_i (by decide)]; exact e_z87.symm
          have q98 : s90 256 48 = z89 := by rw [e_s90]; exact x_up_same
          have J_s90 : J s90 := by rw [e_s90]; exact J.up J_s80 (show 4145 ∉ LJ from by decide)
          have D1_c : AW s90 1 (s0 256 50 - 1) (s0 256 47 + s0 256 48 - 1) := AW.close B1_c w1 w3 (by omega) (by omega) (by omega) (by rw [e_s90]; exact funext fun i => x_up_q (by decide)) (by rw [e_s90]; exact funext fun i => x_up_q (by decide))
          have s_D1c := D1_c.2.2.2
          have AW1_d := AW.rf D1_c
          refine x_A k199_145 (fun _ => rfl) ?_
          refine x_A k199_146 (fun _ => rfl) ?_
          refine x_callV k199_147 (y := 195) (n := 1) (w0 := 0) (w1 := 1) (as := [vi 2]) (rest := []) (by decide +kernel) (q := 256) (nq := 62) (kq := 15) ⟨by decide, rfl⟩ rfl rfl rfl rfl (xe_mono (C_X11_work_256 s90 hG_s90 2 ⟨by decide, by decide⟩ ⟨by omega, by omega⟩ ⟨by omega, by omega⟩ ⟨by omega, by omega⟩ (by omega) (by omega) J_s90 AW1_d) ?_)
          rintro s100 v ⟨hG_s100, t_s100, rfl, xp_z99, J_s100, AW1_s100⟩
          have f_s100 : FL [4133, 4136, 4132, 4134, 4135, 6080, 6144, 4144, 4145, 4148, 4147, 6208] s0 s100 := f_s90.tr t_s100 (by decide +kernel)
          have q101 : s100 256 34 = z4 := (t_s100 256 34 (show 4131 ∉ [6080, 6144, 4144, 4145] from by decide +kernel)).trans q91
          have q102 : s100 256 43 = z5 := (t_s100 256 43 (show 4140 ∉ [6080, 6144, 4144, 4145] from by decide +kernel)).trans q92
          have q103 : s100 256 51 = z7 := (t_s100 256 51 (show 4148 ∉ [6080, 6144, 4144, 4145] from by decide +kernel)).trans q93
          have q104 : s100 256 38 = z17 := (t_s100 256 38 (show 4135 ∉ [6080, 6144, 4144, 4145] from by decide +kernel)).trans q94
          have q105 : s100 256 36 = z59 := (t_s100 256 36 (show 4133 ∉ [6080, 6144, 4144, 4145] from by decide +kernel)).trans q95
          have q106 : s100 256 50 = z69 := (t_s100 256 50 (show 4147 ∉ [6080, 6144, 4144, 4145] from by decide +kernel)).trans q96
          show xe none 199 150 [(1, vi 0), (0, .ref 256)] [] s100 0 0 _
          have D1_w : AW s100 1 (s0 256 50 - 1) (s0 256 47 + s0 256 48 - 1) := AW.tr D1_c AW1_s100
          have s_D1_w := D1_w.2.2.2
          obtain ⟨z107, e_z107⟩ : ∃ z, z = s100 256 47 := ⟨_, rfl⟩
          have g_z107 : (0 : Int) ≤ s100 256 47 ∧ s100 256 47 ≤ 110 := hG_s100 256 47
          obtain ⟨z108, e_z108⟩ : ∃ z, z = s100 256 48 := ⟨_, rfl⟩
          have g_z108 : (0 : Int) ≤ s100 256 48 ∧ s100 256 48 ≤ 120 := hG_s100 256 48
          refine x_A k199_150 (fun _ => rfl) ?_
          exact x_iret k199_151 rfl ⟨hG_s100, f_s100, 0, rfl, ⟨by decide, by decide⟩, ⟨fun hz => by omega, fun hz => AW.ca D1_w (by omega) (by omega) (by omega)⟩, J_s100⟩
    · skip
      refine x_A k199_53 (fun _ => rfl) ?_
      refine x_A k199_54 (fun _ => rfl) ?_
      refine x_getI k199_55 (f := 38) rfl (q := 256) (n := 62) (kd := 15) ⟨by decide, rfl⟩ (by decide) rfl ?_
      rw [e_z17.symm]
      refine x_putI k199_58 (f := 36) rfl (q := 256) (n := 62) (kd := 15) ⟨by decide, rfl⟩ rfl rfl rfl ?_
      refine x_nh (fun s109 e_s109 => ?_)
      have hG_s109 : GI s109 := by rw [e_s109]; exact hG_s9.up (show 0 ≤ z17 ∧ z17 ≤ 160 from (by first | exact x_rbe e_z17 g_z17 rfl rfl | exact x_rb g_z17 rfl rfl | exact ⟨by omega, by omega⟩))
      have f_s109 : FL [4133, 4136, 4132, 4134, 4135, 6080, 6144, 4144, 4145, 4148, 4147, 6208] s0 s109 := by rw [e_s109]; exact f_s9.up (show 4133 ∈ [4133, 4136, 4132, 4134, 4135, 6080, 6144, 4144, 4145, 4148, 4147, 6208] from by decide +kernel)
      have q110 : s109 256 47 = z1 := by rw [e_s109, x_up_i (by decide)]; exact q10
      have q111 : s109 256 48 = z2 := by rw [e_s109, x_up_i (by decide)]; exact q11
      have q112 : s109 256 34 = z4 := by rw [e_s109, x_up_i (by decide)]; exact q12
      have q113 : s109 256 43 = z5 := by rw [e_s109, x_up_i (by decide)]; exact q13
      have q114 : s109 256 50 = z6 := by rw [e_s109, x_up_i (by decide)]; exact q14
      have q115 : s109 256 51 = z7 := by rw [e_s109, x_up_i (by decide)]; exact q15
      have q116 : s109 256 38 = z17 := by rw [e_s109, x_up_i (by decide)]; exact e_z17.symm
      have q117 : s109 256 36 = z17 := by rw [e_s109]; exact x_up_same
      have J_s109 : J s109 := by rw [e_s109]; exact J.up J_s9 (show 4133 ∉ LJ from by decide)
      have B1_s109 : AW s109 1 (s0 256 50) (s0 256 47 + s0 256 48) := by rw [e_s109]; exact AW.up B1_s9 (show 4133 ∉ [6080, 4140, 4144, 4145, 6208] from by decide +kernel)
      refine x_A k199_61 (fun _ => rfl) ?_
      refine x_A k199_62 (fun _ => rfl) ?_
      refine x_if_eq k199_63 (t := 70) rfl ⟨by decide, by decide⟩ (fun c118 => ?_) (fun c118 => by exfalso; omega)
      refine x_A k199_70 (fun _ => rfl) ?_
      have AW1_b := AW.rf B1_s109
      refine x_callV k199_71 (y := 195) (n := 1) (w0 := 0) (w1 := 1) (as := [vi 0]) (rest := []) (by decide +kernel) (q := 256) (nq := 62) (kq := 15) ⟨by decide, rfl⟩ rfl rfl rfl rfl (xe_mono (C_X11_work_256 s109 hG_s109 0 ⟨by decide, by decide⟩ ⟨by omega, by omega⟩ ⟨by omega, by omega⟩ ⟨by omega, by omega⟩ (by omega) (by omega) J_s109 AW1_b) ?_)
      rintro s120 v ⟨hG_s120, t_s120, rfl, xp_z119, J_s120, AW1_s120⟩
      have f_s120 : FL [4133, 4136, 4132, 4134, 4135, 6080, 6144, 4144, 4145, 4148, 4147, 6208] s0 s120 := f_s109.tr t_s120 (by decide +kernel)
      have q121 : s120 256 34 = z4 := (t_s120 256 34 (show 4131 ∉ [6080, 6144, 4144, 4145] from by decide +kernel)).trans q112
      have q122 : s120 256 43 = z5 := (t_s120 256 43 (show 4140 ∉ [6080, 6144, 4144, 4145] from by decide +kernel)).trans q113
      have q123 : s120 256 50 = z6 := (t_s120 256 50 (show 4147 ∉ [6080, 6144, 4144, 4145] from by decide +kernel)).trans q114
      have q124 : s120 256 51 = z7 := (t_s120 256 51 (show 4148 ∉ [6080, 6144, 4144, 4145] from by decide +kernel)).trans q115
      have q125 : s120 256 38 = z17 := (t_s120 256 38 (show 4135 ∉ [6080, 6144, 4144, 4145] from by decide +kernel)).trans q116
      have q126 : s120 256 36 = z17 := (t_s120 256 36 (show 4133 ∉ [6080, 6144, 4144, 4145] from by decide +kernel)).trans q117
      show xe none 199 74 [(1, vi 0), (0, .ref 256)] [] s120 0 0 _
      have B1_w : AW s120 1 (s0 256 50) (s0 256 47 + s0 256 48) := AW.tr B1_s109 AW1_s120
      have s_B1_w := B1_w.2.2.2
      obtain ⟨z127, e_z127⟩ : ∃ z, z = s120 256 47 := ⟨_, rfl⟩
      have g_z127 : (0 : Int) ≤ s120 256 47 ∧ s120 256 47 ≤ 110 := hG_s120 256 47
      obtain ⟨z128, e_z128⟩ : ∃ z, z = s120 256 48 := ⟨_, rfl⟩
      have g_z128 : (0 : Int) ≤ s120 256 48 ∧ s120 256 48 ≤ 120 := hG_s120 256 48
      refine x_A k199_74 (fun _ => rfl) ?_
      refine x_A k199_75 (fun _ => rfl) ?_
      refine x_if_eq k199_76 (t := 83) rfl ⟨by decide, by decide⟩ (fun c129 => ?_) (fun c129 => by exfalso; omega)
      refine x_A k199_83 (fun _ => rfl) ?_
      refine x_callV k199_84 (y := 196) (n := 1) (w0 := 0) (w1 := 1) (as := [vi 0]) (rest := []) (by decide +kernel) (q := 256) (nq := 62) (kq := 15) ⟨by decide, rfl⟩ rfl rfl rfl rfl (xe_mono (C_X11_hold_256 s120 hG_s120 0 ⟨by decide, by decide⟩ ⟨by omega, by omega⟩) ?_)
      rintro s131 v ⟨hG_s131, t_s131, rfl, xp_z130⟩
      have f_s131 : FL [4133, 4136, 4132, 4134, 4135, 6080, 6144, 4144, 4145, 4148, 4147, 6208] s0 s131 := f_s120.tr t_s131 (by decide +kernel)
      have q132 : s131 256 34 = z4 := (t_s131 256 34 (show 4131 ∉ [6208, 4145] from by decide +kernel)).trans q121
      have q133 : s131 256 43 = z5 := (t_s131 256 43 (show 4140 ∉ [6208, 4145] from by decide +kernel)).trans q122
      have q134 : s131 256 50 = z6 := (t_s131 256 50 (show 4147 ∉ [6208, 4145] from by decide +kernel)).trans q123
      have q135 : s131 256 51 = z7 := (t_s131 256 51 (show 4148 ∉ [6208, 4145] from by decide +kernel)).trans q124
      have q136 : s131 256 38 = z17 := (t_s131 256 38 (show 4135 ∉ [6208, 4145] from by decide +kernel)).trans q125
      have q137 : s131 256 36 = z17 := (t_s131 256 36 (show 4133 ∉ [6208, 4145] from by decide +kernel)).trans q126
      have q138 : s131 256 47 = z127 := (t_s131 256 47 (show 4144 ∉ [6208, 4145] from by decide +kernel)).trans e_z127.symm
      have J_s131 : J s131 := J.fl J_s120 t_s131 (by decide +kernel)
      show xe none 199 87 [(1, vi 0), (0, .ref 256)] [] s131 0 0 _
      obtain ⟨z139, e_z139⟩ : ∃ z, z = s131 256 48 := ⟨_, rfl⟩
      have g_z139 : (0 : Int) ≤ s131 256 48 ∧ s131 256 48 ≤ 120 := hG_s131 256 48
      have C0_h : AW s131 0 (s0 256 50) (s0 256 47 + s0 256 48 + 1) := AW.ca (AW.holdb B1_w (by omega) (by omega) (by omega) (by omega) (by omega) (funext fun i => t_s131 287 i (show 6080 ∉ _ from by decide)) xp_z130.2) (by omega) (by omega) (by omega)
      have s_C0 := C0_h.2.2.2
      refine x_A k199_87 (fun _ => rfl) ?_
      refine x_A k199_88 (fun _ => rfl) ?_
      refine x_putZ k199_89 (f := 51) rfl (q := 256) (n := 62) (kd := 15) ⟨by decide, rfl⟩ rfl rfl rfl ⟨by omega, by omega⟩ ?_
      refine x_nh (fun s140 e_s140 => ?_)
      have hG_s140 : GI s140 := by rw [e_s140]; exact hG_s131.up (show 0 ≤ 1 ∧ 1 ≤ 1 from ⟨by decide, by decide⟩)
      have f_s140 : FL [4133, 4136, 4132, 4134, 4135, 6080, 6144, 4144, 4145, 4148, 4147, 6208] s0 s140 := by rw [e_s140]; exact f_s131.up (show 4148 ∈ [4133, 4136, 4132, 4134, 4135, 6080, 6144, 4144, 4145, 4148, 4147, 6208] from by decide +kernel)
      have q141 : s140 256 34 = z4 := by rw [e_s140, x_up_i (by decide)]; exact q132
      have q142 : s140 256 43 = z5 := by rw [e_s140, x_up_i (by decide)]; exact q133
      have q143 : s140 256 50 = z6 := by rw [e_s140, x_up_i (by decide)]; exact q134
      have q144 : s140 256 38 = z17 := by rw [e_s140, x_up_i (by decide)]; exact q136
      have q145 : s140 256 36 = z17 := by rw [e_s140, x_up_i (by decide)]; exact q137
      have q146 : s140 256 47 = z127 := by rw [e_s140, x_up_i (by decide)]; exact q138
      have q147 : s140 256 48 = z139 := by rw [e_s140, x_up_i (by decide)]; exact e_z139.symm
      have q148 : s140 256 51 = 1 := by rw [e_s140]; exact x_up_same
      have J_s140 : J s140 := by rw [e_s140]; exact J.up J_s131 (show 4148 ∉ LJ from by decide)
      have C0_s140 : AW s140 0 (s0 256 50) (s0 256 47 + s0 256 48 + 1) := by rw [e_s140]; exact AW.up C0_h (show 4148 ∉ [6080, 4140, 4144, 4145, 6208] from by decide +kernel)
      refine x_A k199_92 (fun _ => rfl) ?_
      exact x_iret k199_93 rfl ⟨hG_s140, f_s140, 0, rfl, ⟨by decide, by decide⟩, ⟨fun hz => by omega, fun hz => AW.ca C0_s140 (by omega) (by omega) (by omega)⟩, J_s140⟩
  · skip
    refine x_A k199_24 (fun _ => rfl) ?_
    refine x_goto k199_25 (t := 29) rfl ?_
    refine x_istore_n k199_29 (ls' := [(1, vi 1), (0, .ref 256)]) (by decide) rfl ?_
    refine x_A k199_30 (fun _ => rfl) ?_
    refine x_if_ne k199_31 (t := 53) rfl ⟨by decide, by decide⟩ (fun c149 => ?_) (fun c149 => by exfalso; omega)
    refine x_A k199_53 (fun _ => rfl) ?_
    refine x_A k199_54 (fun _ => rfl) ?_
    refine x_getI k199_55 (f := 38) rfl (q := 256) (n := 62) (kd := 15) ⟨by decide, rfl⟩ (by decide) rfl ?_
    rw [e_z17.symm]
    refine x_putI k199_58 (f := 36) rfl (q := 256) (n := 62) (kd := 15) ⟨by decide, rfl⟩ rfl rfl rfl ?_
    refine x_nh (fun s150 e_s150 => ?_)
    have hG_s150 : GI s150 := by rw [e_s150]; exact hG_s9.up (show 0 ≤ z17 ∧ z17 ≤ 160 from (by first | exact x_rbe e_z17 g_z17 rfl rfl | exact x_rb g_z17 rfl rfl | exact ⟨by omega, by omega⟩))
    have f_s150 : FL [4133, 4136, 4132, 4134, 4135, 6080, 6144, 4144, 4145, 4148, 4147, 6208] s0 s150 := by rw [e_s150]; exact f_s9.up (show 4133 ∈ [4133, 4136, 4132, 4134, 4135, 6080, 6144, 4144, 4145, 4148, 4147, 6208] from by decide +kernel)
    have q151 : s150 256 47 = z1 := by rw [e_s150, x_up_i (by decide)]; exact q10
    have q152 : s150 256 48 = z2 := by rw [e_s150, x_up_i (by decide)]; exact q11
    have q153 : s150 256 34 = z4 := by rw [e_s150, x_up_i (by decide)]; exact q12
    have q154 : s150 256 43 = z5 := by rw [e_s150, x_up_i (by decide)]; exact q13
    have q155 : s150 256 50 = z6 := by rw [e_s150, x_up_i (by decide)]; exact q14
    have q156 : s150 256 51 = z7 := by rw [e_s150, x_up_i (by decide)]; exact q15
    have q157 : s150 256 38 = z17 := by rw [e_s150, x_up_i (by decide)]; exact e_z17.symm
    have q158 : s150 256 36 = z17 := by rw [e_s150]; exact x_up_same
    have J_s150 : J s150 := by rw [e_s150]; exact J.up J_s9 (show 4133 ∉ LJ from by decide)
    have B1_s150 : AW s150 1 (s0 256 50) (s0 256 47 + s0 256 48) := by rw [e_s150]; exact AW.up B1_s9 (show 4133 ∉ [6080, 4140, 4144, 4145, 6208] from by decide +kernel)
    refine x_A k199_61 (fun _ => rfl) ?_
    refine x_A k199_62 (fun _ => rfl) ?_
    refine x_if_eq k199_63 (t := 70) rfl ⟨by decide, by decide⟩ (fun c159 => by exfalso; omega) (fun c159 => ?_)
    refine x_A k199_66 (fun _ => rfl) ?_
    refine x_goto k199_67 (t := 71) rfl ?_
    have AW1_b := AW.rf B1_s150
    refine x_callV k199_71 (y := 195) (n := 1) (w0 := 0) (w1 := 1) (as := [vi 1]) (rest := []) (by decide +kernel) (q := 256) (nq := 62) (kq := 15) ⟨by decide, rfl⟩ rfl rfl rfl rfl (xe_mono (C_X11_work_256 s150 hG_s150 1 ⟨by decide, by decide⟩ ⟨by omega, by omega⟩ ⟨by omega, by omega⟩ ⟨by omega, by omega⟩ (by omega) (by omega) J_s150 AW1_b) ?_)
    rintro s161 v ⟨hG_s161, t_s161, rfl, xp_z160, J_s161, AW1_s161⟩
    have f_s161 : FL [4133, 4136, 4132, 4134, 4135, 6080, 6144, 4144, 4145, 4148, 4147, 6208] s0 s161 := f_s150.tr t_s161 (by decide +kernel)
    have q162 : s161 256 34 = z4 := (t_s161 256 34 (show 4131 ∉ [6080, 6144, 4144, 4145] from by decide +kernel)).trans q153
    have q163 : s161 256 43 = z5 := (t_s161 256 43 (show 4140 ∉ [6080, 6144, 4144, 4145] from by decide +kernel)).trans q154
    have q164 : s161 256 50 = z6 := (t_s161 256 50 (show 4147 ∉ [6080, 6144, 4144, 4145] from by decide +kernel)).trans q155
    have q165 : s161 256 51 = z7 := (t_s161 256 51 (show 4148 ∉ [6080, 6144, 4144, 4145] from by decide +kernel)).trans q156
    have q166 : s161 256 38 = z17 := (t_s161 256 38 (show 4135 ∉ [6080, 6144, 4144, 4145] from by decide +kernel)).trans q157
    have q167 : s161 256 36 = z17 := (t_s161 256 36 (show 4133 ∉ [6080, 6144, 4144, 4145] from by decide +kernel)).trans q158
    show xe none 199 74 [(1, vi 1), (0, .ref 256)] [] s161 0 0 _
    have B1_w : AW s161 1 (s0 256 50) (s0 256 47 + s0 256 48) := AW.tr B1_s150 AW1_s161
    have s_B1_w := B1_w.2.2.2
    obtain ⟨z168, e_z168⟩ : ∃ z, z = s161 256 47 := ⟨_, rfl⟩
    have g_z168 : (0 : Int) ≤ s161 256 47 ∧ s161 256 47 ≤ 110 := hG_s161 256 47
    obtain ⟨z169, e_z169⟩ : ∃ z, z = s161 256 48 := ⟨_, rfl⟩
    have g_z169 : (0 : Int) ≤ s161 256 48 ∧ s161 256 48 ≤ 120 := hG_s161 256 48
    refine x_A k199_74 (fun _ => rfl) ?_
    refine x_A k199_75 (fun _ => rfl) ?_
    refine x_if_eq k199_76 (t := 83) rfl ⟨by decide, by decide⟩ (fun c170 => by exfalso; omega) (fun c170 => ?_)
    refine x_A k199_79 (fun _ => rfl) ?_
    refine x_goto k199_80 (t := 84) rfl ?_
    refine x_callV k199_84 (y := 196) (n := 1) (w0 := 0) (w1 := 1) (as := [vi 1]) (rest := []) (by decide +kernel) (q := 256) (nq := 62) (kq := 15) ⟨by decide, rfl⟩ rfl rfl rfl rfl (xe_mono (C_X11_hold_256 s161 hG_s161 1 ⟨by decide, by decide⟩ ⟨by omega, by omega⟩) ?_)
    rintro s172 v ⟨hG_s172, t_s172, rfl, xp_z171⟩
    have f_s172 : FL [4133, 4136, 4132, 4134, 4135, 6080, 6144, 4144, 4145, 4148, 4147, 6208] s0 s172 := f_s161.tr t_s172 (by decide +kernel)
    have q173 : s172 256 34 = z4 := (t_s172 256 34 (show 4131 ∉ [6208, 4145] from by decide +kernel)).trans q162
    have q174 : s172 256 43 = z5 := (t_s172 256 43 (show 4140 ∉ [6208, 4145] from by decide +kernel)).trans q163
    have q175 : s172 256 50 = z6 := (t_s172 256 50 (show 4147 ∉ [6208, 4145] from by decide +kernel)).trans q164
    have q176 : s172 256 51 = z7 := (t_s172 256 51 (show 4148 ∉ [6208, 4145] from by decide +kernel)).trans q165
    have q177 : s172 256 38 = z17 := (t_s172 256 38 (show 4135 ∉ [6208, 4145] from by decide +kernel)).trans q166
    have q178 : s172 256 36 = z17 := (t_s172 256 36 (show 4133 ∉ [6208, 4145] from by decide +kernel)).trans q167
    have q179 : s172 256 47 = z168 := (t_s172 256 47 (show 4144 ∉ [6208, 4145] from by decide +kernel)).trans e_z168.symm
    have J_s172 : J s172 := J.fl J_s161 t_s172 (by decide +kernel)
    show xe none 199 87 [(1, vi 1), (0, .ref 256)] [] s172 0 0 _
    obtain ⟨z180, e_z180⟩ : ∃ z, z = s172 256 48 := ⟨_, rfl⟩
    have g_z180 : (0 : Int) ≤ s172 256 48 ∧ s172 256 48 ≤ 120 := hG_s172 256 48
    have C0_h : AW s172 0 (s0 256 50) (s0 256 47 + s0 256 48 + 1) := AW.ca (AW.holdb B1_w (by omega) (by omega) (by omega) (by omega) (by omega) (funext fun i => t_s172 287 i (show 6080 ∉ _ from by decide)) xp_z171.2) (by omega) (by omega) (by omega)
    have s_C0 := C0_h.2.2.2
    refine x_A k199_87 (fun _ => rfl) ?_
    refine x_A k199_88 (fun _ => rfl) ?_
    refine x_putZ k199_89 (f := 51) rfl (q := 256) (n := 62) (kd := 15) ⟨by decide, rfl⟩ rfl rfl rfl ⟨by omega, by omega⟩ ?_
    refine x_nh (fun s181 e_s181 => ?_)
    have hG_s181 : GI s181 := by rw [e_s181]; exact hG_s172.up (show 0 ≤ 1 ∧ 1 ≤ 1 from ⟨by decide, by decide⟩)
    have f_s181 : FL [4133, 4136, 4132, 4134, 4135, 6080, 6144, 4144, 4145, 4148, 4147, 6208] s0 s181 := by rw [e_s181]; exact f_s172.up (show 4148 ∈ [4133, 4136, 4132, 4134, 4135, 6080, 6144, 4144, 4145, 4148, 4147, 6208] from by decide +kernel)
    have q182 : s181 256 34 = z4 := by rw [e_s181, x_up_i (by decide)]; exact q173
    have q183 : s181 256 43 = z5 := by rw [e_s181, x_up_i (by decide)]; exact q174
    have q184 : s181 256 50 = z6 := by rw [e_s181, x_up_i (by decide)]; exact q175
    have q185 : s181 256 38 = z17 := by rw [e_s181, x_up_i (by decide)]; exact q177
    have q186 : s181 256 36 = z17 := by rw [e_s181, x_up_i (by decide)]; exact q178
    have q187 : s181 256 47 = z168 := by rw [e_s181, x_up_i (by decide)]; exact q179
    have q188 : s181 256 48 = z180 := by rw [e_s181, x_up_i (by decide)]; exact e_z180.symm
    have q189 : s181 256 51 = 1 := by rw [e_s181]; exact x_up_same
    have J_s181 : J s181 := by rw [e_s181]; exact J.up J_s172 (show 4148 ∉ LJ from by decide)
    have C0_s181 : AW s181 0 (s0 256 50) (s0 256 47 + s0 256 48 + 1) := by rw [e_s181]; exact AW.up C0_h (show 4148 ∉ [6080, 4140, 4144, 4145, 6208] from by decide +kernel)
    refine x_A k199_92 (fun _ => rfl) ?_
    exact x_iret k199_93 rfl ⟨hG_s181, f_s181, 0, rfl, ⟨by decide, by decide⟩, ⟨fun hz => by omega, fun hz => AW.ca C0_s181 (by omega) (by omega) (by omega)⟩, J_s181⟩
theorem L_C_X11_ask_256_58 (s0 : xS)   : ∀ (n : Nat) (s : xS) (x1 : Int) (x1000 : Int) (x1001 : Int) (x1002 : Int) (x1003 : Int) (x1004 : Int) (x1005 : Int) (x1006 : Int) (hG : GI s) (f : FL [4133, 4136, 4132, 4134, 4135, 6080, 6144, 4144, 4145, 4148, 4147, 6208, 4131, 6016, 4140] s0 s) (b_x1 : 0 ≤ x1 ∧ x1 ≤ 5) (b_x1000 : 0 ≤ x1000 ∧ x1000 ≤ 160) (b_x1001 : 0 ≤ x1001 ∧ x1001 ≤ 100) (b_x1002 : 0 ≤ x1002 ∧ x1002 ≤ 110) (b_x1003 : 0 ≤ x1003 ∧ x1003 ≤ 120) (b_x1004 : 0 ≤ x1004 ∧ x1004 ≤ 5) (b_x1005 : 0 ≤ x1005 ∧ x1005 ≤ 1) (b_x1006 : 0 ≤ x1006 ∧ x1006 ≤ 7) (r_1005_1 : x1005 ≤ x1 + 1) (r_1005_1000 : x1005 ≤ x1000 + 1) (r_1005_1002 : x1005 ≤ x1002 + 1) (r_1005_1003 : x1005 ≤ x1003 + 1) (r_1005_1004 : x1005 ≤ x1004 + 1) (w_0 : x1001 ≤ 100) (w_1 : x1006 ≤ 7) (w_2 : x1 = 0 → x1002 + x1003 ≤ x1000 ∧ x1000 ≤ x1001) (w_3 : x1 = 0 → AW s (1 - x1005) x1004 (x1002 + x1003)) (e_x1000 : x1000 = s 256 36) (e_x1001 : x1001 = s 256 34) (e_x1002 : x1002 = s 256 47) (e_x1003 : x1003 = s 256 48) (e_x1004 : x1004 = s 256 50) (e_x1005 : x1005 = s 256 51) (e_x1006 : x1006 = s 256 43) (i_J : J s)  (hm : (2000 - x1000 - 200 * x1) < (n : Int)), xe none 200 58 [(0, .ref 256), (1, vi x1)] [] s 0 0 (fun s' v => GI s' ∧ FL [4133, 4136, 4132, 4134, 4135, 6080, 6144, 4144, 4145, 4148, 4147, 6208, 4131, 6016, 4140] s0 s' ∧ ∃ z, v = some (vi z) ∧ ((-2147483648) ≤ z ∧ z ≤ 2147483647) ∧ J s') := by
  intro n
  induction n with
  | zero => intro s x1 x1000 x1001 x1002 x1003 x1004 x1005 x1006 hG f b_x1 b_x1000 b_x1001 b_x1002 b_x1003 b_x1004 b_x1005 b_x1006 r_1005_1 r_1005_1000 r_1005_1002 r_1005_1003 r_1005_1004 w_0 w_1 w_2 w_3 e_x1000 e_x1001 e_x1002 e_x1003 e_x1004 e_x1005 e_x1006 i_J  hm; exfalso; omega
  | succ n ih =>
    intro s x1 x1000 x1001 x1002 x1003 x1004 x1005 x1006 hG f b_x1 b_x1000 b_x1001 b_x1002 b_x1003 b_x1004 b_x1005 b_x1006 r_1005_1 r_1005_1000 r_1005_1002 r_1005_1003 r_1005_1004 w_0 w_1 w_2 w_3 e_x1000 e_x1001 e_x1002 e_x1003 e_x1004 e_x1005 e_x1006 i_J  hm
    refine x_A k200_58 (fun _ => rfl) ?_
    refine x_if_ne k200_59 (t := 105) rfl (by first | exact x_rb b_x1 rfl rfl | exact ⟨by omega, by omega⟩) (fun c321 => ?_) (fun c321 => ?_)
    · skip
      refine x_A k200_105 (fun _ => rfl) ?_
      refine x_A k200_106 (fun _ => rfl) ?_
      refine x_putI k200_107 (f := 34) rfl (q := 256) (n := 62) (kd := 15) ⟨by decide, rfl⟩ rfl rfl rfl ?_
      refine x_nh (fun s322 e_s322 => ?_)
      have hG_s322 : GI s322 := by rw [e_s322]; exact hG.up (show 0 ≤ 0 ∧ 0 ≤ 160 from ⟨by decide, by decide⟩)
      have f_s322 : FL [4133, 4136, 4132, 4134, 4135, 6080, 6144, 4144, 4145, 4148, 4147, 6208, 4131, 6016, 4140] s0 s322 := by rw [e_s322]; exact f.up (show 4131 ∈ [4133, 4136, 4132, 4134, 4135, 6080, 6144, 4144, 4145, 4148, 4147, 6208, 4131, 6016, 4140] from by decide +kernel)
      have q323 : s322 256 36 = x1000 := by rw [e_s322, x_up_i (by decide)]; exact e_x1000.symm
      have q324 : s322 256 47 = x1002 := by rw [e_s322, x_up_i (by decide)]; exact e_x1002.symm
      have q325 : s322 256 48 = x1003 := by rw [e_s322, x_up_i (by decide)]; exact e_x1003.symm
      have q326 : s322 256 50 = x1004 := by rw [e_s322, x_up_i (by decide)]; exact e_x1004.symm
      have q327 : s322 256 51 = x1005 := by rw [e_s322, x_up_i (by decide)]; exact e_x1005.symm
      have q328 : s322 256 43 = x1006 := by rw [e_s322, x_up_i (by decide)]; exact e_x1006.symm
      have q329 : s322 256 34 = 0 := by rw [e_s322]; exact x_up_same
      have J_s322 : J s322 := by rw [e_s322]; exact J.up i_J (show 4131 ∉ LJ from by decide)
      refine x_A k200_110 (fun _ => rfl) ?_
      refine x_if_le k200_111 (t := 119) rfl (by first | exact x_rb b_x1 rfl rfl | exact ⟨by omega, by omega⟩) (fun c330 => by exfalso; omega) (fun c330 => ?_)
      refine x_bipush k200_114 (by decide +kernel) ?_
      refine x_A k200_116 (fun _ => rfl) ?_
      refine x_isub k200_117 ?_
      refine x_top (fun z331 e_z331 => ?_)
      exact x_iret k200_118 rfl ⟨hG_s322, f_s322, z331, rfl, (by first | exact x_rbe e_z331 g_z331 rfl rfl | exact x_rb g_z331 rfl rfl | exact ⟨by omega, by omega⟩), J_s322⟩
    · skip
      have AK_i : AW s (1 - x1005) x1004 (x1002 + x1003) := w_3 (by omega)
      refine x_A k200_62 (fun _ => rfl) ?_
      refine x_getI k200_63 (f := 51) rfl (q := 256) (n := 62) (kd := 15) ⟨by decide, rfl⟩ (by decide) rfl ?_
      rw [e_x1005.symm]
      refine x_if_ne k200_66 (t := 83) rfl (by first | exact x_rb b_x1005 rfl rfl | exact ⟨by omega, by omega⟩) (fun c332 => ?_) (fun c332 => ?_)
      · skip
        refine x_A k200_83 (fun _ => rfl) ?_
        refine x_getI k200_84 (f := 51) rfl (q := 256) (n := 62) (kd := 15) ⟨by decide, rfl⟩ (by decide) rfl ?_
        rw [e_x1005.symm]
        refine x_if_eq k200_87 (t := 97) rfl (by first | exact x_rb b_x1005 rfl rfl | exact ⟨by omega, by omega⟩) (fun c333 => by exfalso; omega) (fun c333 => ?_)
        refine x_A k200_90 (fun _ => rfl) ?_
        have A0_i : AW s 0 (s 256 50) (s 256 47 + s 256 48) := AW.ca AK_i (by omega) (by omega) (by omega)
        refine x_callV k200_91 (y := 198) (n := 0) (w0 := 0) (w1 := 0) (as := []) (rest := []) (by decide +kernel) (q := 256) (nq := 62) (kq := 15) ⟨by decide, rfl⟩ rfl rfl rfl rfl (xe_mono (C_X11_readOne_256 s hG ⟨by omega, by omega⟩ ⟨by omega, by omega⟩ ⟨by omega, by omega⟩ ⟨by omega, by omega⟩ ⟨by omega, by omega⟩ ⟨by omega, by omega⟩ ⟨by omega, by omega⟩ (by omega) (by omega) i_J A0_i) ?_)
        rintro s335 v ⟨hG_s335, t_s335, z334, rfl, g_z334, xp_z334, J_s335⟩
        have f_s335 : FL [4133, 4136, 4132, 4134, 4135, 6080, 6144, 4144, 4145, 4148, 4147, 6208, 4131, 6016, 4140] s0 s335 := f.tr t_s335 (by decide +kernel)
        have q336 : s335 256 34 = x1001 := (t_s335 256 34 (show 4131 ∉ [4133, 4136, 4132, 6080, 6144, 4144, 4145, 4148, 4134, 4135, 4147, 6208] from by decide +kernel)).trans e_x1001.symm
        have q337 : s335 256 43 = x1006 := (t_s335 256 43 (show 4140 ∉ [4133, 4136, 4132, 6080, 6144, 4144, 4145, 4148, 4134, 4135, 4147, 6208] from by decide +kernel)).trans e_x1006.symm
        obtain ⟨z338, e_z338⟩ : ∃ z, z = s335 256 36 := ⟨_, rfl⟩
        have g_z338 : (0 : Int) ≤ s335 256 36 ∧ s335 256 36 ≤ 160 := hG_s335 256 36
        obtain ⟨z339, e_z339⟩ : ∃ z, z = s335 256 47 := ⟨_, rfl⟩
        have g_z339 : (0 : Int) ≤ s335 256 47 ∧ s335 256 47 ≤ 110 := hG_s335 256 47
        obtain ⟨z340, e_z340⟩ : ∃ z, z = s335 256 48 := ⟨_, rfl⟩
        have g_z340 : (0 : Int) ≤ s335 256 48 ∧ s335 256 48 ≤ 120 := hG_s335 256 48
        obtain ⟨z341, e_z341⟩ : ∃ z, z = s335 256 50 := ⟨_, rfl⟩
        have g_z341 : (0 : Int) ≤ s335 256 50 ∧ s335 256 50 ≤ 5 := hG_s335 256 50
        obtain ⟨z342, e_z342⟩ : ∃ z, z = s335 256 51 := ⟨_, rfl⟩
        have g_z342 : (0 : Int) ≤ s335 256 51 ∧ s335 256 51 ≤ 1 := hG_s335 256 51
        show xe none 200 94 [(0, .ref 256), (1, vi x1)] [vi z334] s335 0 0 _
        refine x_goto k200_94 (t := 101) rfl ?_
        refine x_istore_n k200_101 (ls' := [(1, vi z334), (0, .ref 256)]) (by decide) rfl ?_
        refine x_goto k200_102 (t := 58) rfl ?_
        refine x_ls (l := [(0, .ref 256), (1, vi z334)]) (show ([0, 1] : List Nat).Nodup from by decide +kernel) ⟨rfl, rfl, trivial⟩ ?_
        exact ih s335 z334 z338 x1001 z339 z340 z341 z342 x1006 hG_s335 f_s335 (by first | exact x_rbe e_z334 g_z334 rfl rfl | exact x_rb g_z334 rfl rfl | exact ⟨by omega, by omega⟩) (by first | exact x_rbe e_z338 g_z338 rfl rfl | exact x_rb g_z338 rfl rfl | exact ⟨by omega, by omega⟩) (by first | exact x_rb b_x1001 rfl rfl | exact ⟨by omega, by omega⟩) (by first | exact x_rbe e_z339 g_z339 rfl rfl | exact x_rb g_z339 rfl rfl | exact ⟨by omega, by omega⟩) (by first | exact x_rbe e_z340 g_z340 rfl rfl | exact x_rb g_z340 rfl rfl | exact ⟨by omega, by omega⟩) (by first | exact x_rbe e_z341 g_z341 rfl rfl | exact x_rb g_z341 rfl rfl | exact ⟨by omega, by omega⟩) (by first | exact x_rbe e_z342 g_z342 rfl rfl | exact x_rb g_z342 rfl rfl | exact ⟨by omega, by omega⟩) (by first | exact x_rb b_x1006 rfl rfl | exact ⟨by omega, by omega⟩) (by omega) (by omega) (by omega) (by omega) (by omega) (by omega) (by omega) (by omega) (fun hz => AW.ca (xp_z334.2 (by omega)) (by omega) (by omega) (by omega)) (e_z338.symm).symm (q336).symm (e_z339.symm).symm (e_z340.symm).symm (e_z341.symm).symm (e_z342.symm).symm (q337).symm J_s335  (by omega)
      · skip
        refine x_A k200_69 (fun _ => rfl) ?_
        refine x_getI k200_70 (f := 50) rfl (q := 256) (n := 62) (kd := 15) ⟨by decide, rfl⟩ (by decide) rfl ?_
        rw [e_x1004.symm]
        refine x_if_gt k200_73 (t := 83) rfl (by first | exact x_rb b_x1004 rfl rfl | exact ⟨by omega, by omega⟩) (fun c343 => ?_) (fun c343 => ?_)
        · skip
          refine x_A k200_83 (fun _ => rfl) ?_
          refine x_getI k200_84 (f := 51) rfl (q := 256) (n := 62) (kd := 15) ⟨by decide, rfl⟩ (by decide) rfl ?_
          rw [e_x1005.symm]
          refine x_if_eq k200_87 (t := 97) rfl (by first | exact x_rb b_x1005 rfl rfl | exact ⟨by omega, by omega⟩) (fun c344 => ?_) (fun c344 => by exfalso; omega)
          refine x_A k200_97 (fun _ => rfl) ?_
          have B1_i : AW s 1 (s 256 50) (s 256 47 + s 256 48) := AW.ca AK_i (by omega) (by omega) (by omega)
          refine x_callV k200_98 (y := 199) (n := 0) (w0 := 0) (w1 := 0) (as := []) (rest := []) (by decide +kernel) (q := 256) (nq := 62) (kq := 15) ⟨by decide, rfl⟩ rfl rfl rfl rfl (xe_mono (C_X11_readBehind_256 s hG ⟨by omega, by omega⟩ ⟨by omega, by omega⟩ ⟨by omega, by omega⟩ ⟨by omega, by omega⟩ ⟨by omega, by omega⟩ ⟨by omega, by omega⟩ ⟨by omega, by omega⟩ (by omega) (by omega) i_J B1_i) ?_)
          rintro s346 v ⟨hG_s346, t_s346, z345, rfl, g_z345, xp_z345, J_s346⟩
          have f_s346 : FL [4133, 4136, 4132, 4134, 4135, 6080, 6144, 4144, 4145, 4148, 4147, 6208, 4131, 6016, 4140] s0 s346 := f.tr t_s346 (by decide +kernel)
          have q347 : s346 256 34 = x1001 := (t_s346 256 34 (show 4131 ∉ [4133, 4136, 4132, 4134, 4135, 6080, 6144, 4144, 4145, 4148, 4147, 6208] from by decide +kernel)).trans e_x1001.symm
          have q348 : s346 256 43 = x1006 := (t_s346 256 43 (show 4140 ∉ [4133, 4136, 4132, 4134, 4135, 6080, 6144, 4144, 4145, 4148, 4147, 6208] from by decide +kernel)).trans e_x1006.symm
          obtain ⟨z349, e_z349⟩ : ∃ z, z = s346 256 36 := ⟨_, rfl⟩
          have g_z349 : (0 : Int) ≤ s346 256 36 ∧ s346 256 36 ≤ 160 := hG_s346 256 36
          obtain ⟨z350, e_z350⟩ : ∃ z, z = s346 256 47 := ⟨_, rfl⟩
          have g_z350 : (0 : Int) ≤ s346 256 47 ∧ s346 256 47 ≤ 110 := hG_s346 256 47
          obtain ⟨z351, e_z351⟩ : ∃ z, z = s346 256 48 := ⟨_, rfl⟩
          have g_z351 : (0 : Int) ≤ s346 256 48 ∧ s346 256 48 ≤ 120 := hG_s346 256 48
          obtain ⟨z352, e_z352⟩ : ∃ z, z = s346 256 50 := ⟨_, rfl⟩
          have g_z352 : (0 : Int) ≤ s346 256 50 ∧ s346 256 50 ≤ 5 := hG_s346 256 50
          obtain ⟨z353, e_z353⟩ : ∃ z, z = s346 256 51 := ⟨_, rfl⟩
          have g_z353 : (0 : Int) ≤ s346 256 51 ∧ s346 256 51 ≤ 1 := hG_s346 256 51
          show xe none 200 101 [(0, .ref 256), (1, vi x1)] [vi z345] s346 0 0 _
          refine x_istore_n k200_101 (ls' := [(1, vi z345), (0, .ref 256)]) (by decide) rfl ?_
          refine x_goto k200_102 (t := 58) rfl ?_
          refine x_ls (l := [(0, .ref 256), (1, vi z345)]) (show ([0, 1] : List Nat).Nodup from by decide +kernel) ⟨rfl, rfl, trivial⟩ ?_
          exact ih s346 z345 z349 x1001 z350 z351 z352 z353 x1006 hG_s346 f_s346 (by first | exact x_rbe e_z345 g_z345 rfl rfl | exact x_rb g_z345 rfl rfl | exact ⟨by omega, by omega⟩) (by first | exact x_rbe e_z349 g_z349 rfl rfl | exact x_rb g_z349 rfl rfl | exact ⟨by omega, by omega⟩) (by first | exact x_rb b_x1001 rfl rfl | exact ⟨by omega, by omega⟩) (by first | exact x_rbe e_z350 g_z350 rfl rfl | exact x_rb g_z350 rfl rfl | exact ⟨by omega, by omega⟩) (by first | exact x_rbe e_z351 g_z351 rfl rfl | exact x_rb g_z351 rfl rfl | exact ⟨by omega, by omega⟩) (by first | exact x_rbe e_z352 g_z352 rfl rfl | exact x_rb g_z352 rfl rfl | exact ⟨by omega, by omega⟩) (by first | exact x_rbe e_z353 g_z353 rfl rfl | exact x_rb g_z353 rfl rfl | exact ⟨by omega, by omega⟩) (by first | exact x_rb b_x1006 rfl rfl | exact ⟨by omega, by omega⟩) (by omega) (by omega) (by omega) (by omega) (by omega) (by omega) (by omega) (by omega) (fun hz => AW.ca (xp_z345.2 (by omega)) (by omega) (by omega) (by omega)) (e_z349.symm).symm (q347).symm (e_z350.symm).symm (e_z351.symm).symm (e_z352.symm).symm (e_z353.symm).symm (q348).symm J_s346  (by omega)
        · skip
          refine x_A k200_76 (fun _ => rfl) ?_
          refine x_callV k200_77 (y := 176) (n := 0) (w0 := 0) (w1 := 0) (as := []) (rest := []) (by decide +kernel) (q := 256) (nq := 62) (kq := 15) ⟨by decide, rfl⟩ rfl rfl rfl rfl (xe_mono (C_X11_here_256 s hG) ?_)
          rintro s355 v ⟨hG_s355, t_s355, z354, rfl, g_z354, xp_z354⟩
          have f_s355 : FL [4133, 4136, 4132, 4134, 4135, 6080, 6144, 4144, 4145, 4148, 4147, 6208, 4131, 6016, 4140] s0 s355 := f.tr t_s355 (by decide +kernel)
          have q356 : s355 256 34 = x1001 := (t_s355 256 34 (show 4131 ∉ [4133] from by decide +kernel)).trans e_x1001.symm
          have q357 : s355 256 47 = x1002 := (t_s355 256 47 (show 4144 ∉ [4133] from by decide +kernel)).trans e_x1002.symm
          have q358 : s355 256 48 = x1003 := (t_s355 256 48 (show 4145 ∉ [4133] from by decide +kernel)).trans e_x1003.symm
          have q359 : s355 256 50 = x1004 := (t_s355 256 50 (show 4147 ∉ [4133] from by decide +kernel)).trans e_x1004.symm
          have q360 : s355 256 51 = x1005 := (t_s355 256 51 (show 4148 ∉ [4133] from by decide +kernel)).trans e_x1005.symm
          have q361 : s355 256 43 = x1006 := (t_s355 256 43 (show 4140 ∉ [4133] from by decide +kernel)).trans e_x1006.symm
          have J_s355 : J s355 := J.fl i_J t_s355 (by decide +kernel)
          have AK_s355 : AW s355 (1 - x1005) x1004 (x1002 + x1003) := AW.fl AK_i t_s355 (by decide +kernel)
          obtain ⟨z362, e_z362⟩ : ∃ z, z = s355 256 36 := ⟨_, rfl⟩
          have g_z362 : (0 : Int) ≤ s355 256 36 ∧ s355 256 36 ≤ 160 := hG_s355 256 36
          show xe none 200 80 [(0, .ref 256), (1, vi x1)] [vi z354] s355 0 0 _
          refine x_if_lt k200_80 (t := 105) rfl (by first | exact x_rbe e_z354 g_z354 rfl rfl | exact x_rb g_z354 rfl rfl | exact ⟨by omega, by omega⟩) (fun c363 => ?_) (fun c363 => ?_)
          · skip
            refine x_A k200_105 (fun _ => rfl) ?_
            refine x_A k200_106 (fun _ => rfl) ?_
            refine x_putI k200_107 (f := 34) rfl (q := 256) (n := 62) (kd := 15) ⟨by decide, rfl⟩ rfl rfl rfl ?_
            refine x_nh (fun s364 e_s364 => ?_)
            have hG_s364 : GI s364 := by rw [e_s364]; exact hG_s355.up (show 0 ≤ 0 ∧ 0 ≤ 160 from ⟨by decide, by decide⟩)
            have f_s364 : FL [4133, 4136, 4132, 4134, 4135, 6080, 6144, 4144, 4145, 4148, 4147, 6208, 4131, 6016, 4140] s0 s364 := by rw [e_s364]; exact f_s355.up (show 4131 ∈ [4133, 4136, 4132, 4134, 4135, 6080, 6144, 4144, 4145, 4148, 4147, 6208, 4131, 6016, 4140] from by decide +kernel)
            have q365 : s364 256 47 = x1002 := by rw [e_s364, x_up_i (by decide)]; exact q357
            have q366 : s364 256 48 = x1003 := by rw [e_s364, x_up_i (by decide)]; exact q358
            have q367 : s364 256 50 = x1004 := by rw [e_s364, x_up_i (by decide)]; exact q359
            have q368 : s364 256 51 = x1005 := by rw [e_s364, x_up_i (by decide)]; exact q360
            have q369 : s364 256 43 = x1006 := by rw [e_s364, x_up_i (by decide)]; exact q361
            have q370 : s364 256 36 = z362 := by rw [e_s364, x_up_i (by decide)]; exact e_z362.symm
            have q371 : s364 256 34 = 0 := by rw [e_s364]; exact x_up_same
            have J_s364 : J s364 := by rw [e_s364]; exact J.up J_s355 (show 4131 ∉ LJ from by decide)
            have AK_s364 : AW s364 (1 - x1005) x1004 (x1002 + x1003) := by rw [e_s364]; exact AW.up AK_s355 (show 4131 ∉ [6080, 4140, 4144, 4145, 6208] from by decide +kernel)
            refine x_A k200_110 (fun _ => rfl) ?_
            refine x_if_le k200_111 (t := 119) rfl (by first | exact x_rb b_x1 rfl rfl | exact ⟨by omega, by omega⟩) (fun c372 => ?_) (fun c372 => by exfalso; omega)
            refine x_A k200_119 (fun _ => rfl) ?_
            refine x_A k200_120 (fun _ => rfl) ?_
            have B_i : AW s364 1 x1004 (x1002 + x1003) := AW.ca AK_s364 (by omega) rfl rfl
            have AW1_a := AW.rf B_i
            refine x_callV k200_121 (y := 195) (n := 1) (w0 := 0) (w1 := 1) (as := [vi 0]) (rest := []) (by decide +kernel) (q := 256) (nq := 62) (kq := 15) ⟨by decide, rfl⟩ rfl rfl rfl rfl (xe_mono (C_X11_work_256 s364 hG_s364 0 ⟨by decide, by decide⟩ ⟨by omega, by omega⟩ ⟨by omega, by omega⟩ ⟨by omega, by omega⟩ (by omega) (by omega) J_s364 AW1_a) ?_)
            rintro s374 v ⟨hG_s374, t_s374, rfl, xp_z373, J_s374, AW1_s374⟩
            have f_s374 : FL [4133, 4136, 4132, 4134, 4135, 6080, 6144, 4144, 4145, 4148, 4147, 6208, 4131, 6016, 4140] s0 s374 := f_s364.tr t_s374 (by decide +kernel)
            have q375 : s374 256 50 = x1004 := (t_s374 256 50 (show 4147 ∉ [6080, 6144, 4144, 4145] from by decide +kernel)).trans q367
            have q376 : s374 256 51 = x1005 := (t_s374 256 51 (show 4148 ∉ [6080, 6144, 4144, 4145] from by decide +kernel)).trans q368
            have q377 : s374 256 43 = x1006 := (t_s374 256 43 (show 4140 ∉ [6080, 6144, 4144, 4145] from by decide +kernel)).trans q369
            have q378 : s374 256 36 = z362 := (t_s374 256 36 (show 4133 ∉ [6080, 6144, 4144, 4145] from by decide +kernel)).trans q370
            have q379 : s374 256 34 = 0 := (t_s374 256 34 (show 4131 ∉ [6080, 6144, 4144, 4145] from by decide +kernel)).trans q371
            show xe none 200 124 [(0, .ref 256), (1, vi x1)] [] s374 0 0 _
            have B_w := AW.tr B_i AW1_s374
            obtain ⟨z380, e_z380⟩ : ∃ z, z = s374 256 47 := ⟨_, rfl⟩
            have g_z380 : (0 : Int) ≤ s374 256 47 ∧ s374 256 47 ≤ 110 := hG_s374 256 47
            obtain ⟨z381, e_z381⟩ : ∃ z, z = s374 256 48 := ⟨_, rfl⟩
            have g_z381 : (0 : Int) ≤ s374 256 48 ∧ s374 256 48 ≤ 120 := hG_s374 256 48
            refine x_A k200_124 (fun _ => rfl) ?_
            refine x_getR k200_125 (f := 44) rfl (q := 256) (n := 62) (kd := 15) ⟨by decide, rfl⟩ (q2 := 286) (by decide) rfl ?_
            refine x_A k200_128 (fun _ => rfl) ?_
            refine x_getI k200_129 (f := 43) rfl (q := 256) (n := 62) (kd := 15) ⟨by decide, rfl⟩ (by decide) rfl ?_
            rw [q377]
            refine x_A k200_132 (fun _ => rfl) ?_
            refine x_getI k200_133 (f := 47) rfl (q := 256) (n := 62) (kd := 15) ⟨by decide, rfl⟩ (by decide) rfl ?_
            rw [e_z380.symm]
            refine x_iast k200_136 (q := 286) (n := 8) ⟨by decide, rfl⟩ (by decide) (by first | exact x_rbl b_x1006 rfl rfl | exact ⟨by omega, by omega⟩) ?_
            refine x_nh (fun s382 e_s382 => ?_)
            have hG_s382 : GI s382 := by rw [e_s382]; exact hG_s374.up (show 0 ≤ z380 ∧ z380 ≤ 110 from (by first | exact x_rbe e_z380 g_z380 rfl rfl | exact x_rb g_z380 rfl rfl | exact ⟨by omega, by omega⟩))
            have f_s382 : FL [4133, 4136, 4132, 4134, 4135, 6080, 6144, 4144, 4145, 4148, 4147, 6208, 4131, 6016, 4140] s0 s382 := by rw [e_s382]; exact f_s374.up (show 6016 ∈ [4133, 4136, 4132, 4134, 4135, 6080, 6144, 4144, 4145, 4148, 4147, 6208, 4131, 6016, 4140] from by decide +kernel)
            have q383 : s382 256 50 = x1004 := by rw [e_s382, x_up_q (by decide)]; exact q375
            have q384 : s382 256 51 = x1005 := by rw [e_s382, x_up_q (by decide)]; exact q376
            have q385 : s382 256 43 = x1006 := by rw [e_s382, x_up_q (by decide)]; exact q377
            have q386 : s382 256 36 = z362 := by rw [e_s382, x_up_q (by decide)]; exact q378
            have q387 : s382 256 34 = 0 := by rw [e_s382, x_up_q (by decide)]; exact q379
            have q388 : s382 256 47 = z380 := by rw [e_s382, x_up_q (by decide)]; exact e_z380.symm
            have q389 : s382 256 48 = z381 := by rw [e_s382, x_up_q (by decide)]; exact e_z381.symm
            have q390 : s382 286 x1006.toNat = z380 := by rw [e_s382]; exact x_up_same
            refine x_A k200_137 (fun _ => rfl) ?_
            refine x_A k200_138 (fun _ => rfl) ?_
            refine x_getI k200_139 (f := 43) rfl (q := 256) (n := 62) (kd := 15) ⟨by decide, rfl⟩ (by decide) rfl ?_
            rw [q385]
            refine x_A k200_142 (fun _ => rfl) ?_
            refine x_iadd k200_143 ?_
            refine x_top (fun z391 e_z391 => ?_)
            refine x_putI k200_144 (f := 43) rfl (q := 256) (n := 62) (kd := 15) ⟨by decide, rfl⟩ rfl rfl rfl ?_
            refine x_nh (fun s392 e_s392 => ?_)
            have hG_s392 : GI s392 := by rw [e_s392]; exact hG_s382.up (show 0 ≤ z391 ∧ z391 ≤ 8 from (by first | exact x_rbe e_z391 g_z391 rfl rfl | exact x_rb g_z391 rfl rfl | exact ⟨by omega, by omega⟩))
            have f_s392 : FL [4133, 4136, 4132, 4134, 4135, 6080, 6144, 4144, 4145, 4148, 4147, 6208, 4131, 6016, 4140] s0 s392 := by rw [e_s392]; exact f_s382.up (show 4140 ∈ [4133, 4136, 4132, 4134, 4135, 6080, 6144, 4144, 4145, 4148, 4147, 6208, 4131, 6016, 4140] from by decide +kernel)
            have q393 : s392 256 50 = x1004 := by rw [e_s392, x_up_i (by decide)]; exact q383
            have q394 : s392 256 51 = x1005 := by rw [e_s392, x_up_i (by decide)]; exact q384
            have q395 : s392 256 36 = z362 := by rw [e_s392, x_up_i (by decide)]; exact q386
            have q396 : s392 256 34 = 0 := by rw [e_s392, x_up_i (by decide)]; exact q387
            have q397 : s392 256 47 = z380 := by rw [e_s392, x_up_i (by decide)]; exact q388
            have q398 : s392 256 48 = z381 := by rw [e_s392, x_up_i (by decide)]; exact q389
            have q399 : s392 256 43 = z391 := by rw [e_s392]; exact x_up_same
            have q400 : s392 286 x1006.toNat = z380 := by rw [e_s392, x_up_q (by first | decide | omega)]; exact q390
            have J_a : J s392 := by rw [e_s392, e_s382]; exact J.ask J_s374 (show x1006 = s374 256 43 by omega) (by omega) (by omega) (by rw [show z380 = s374 256 47 by omega]; exact B_w.1)
            refine x_A k200_147 (fun _ => rfl) ?_
            refine x_getI k200_148 (f := 43) rfl (q := 256) (n := 62) (kd := 15) ⟨by decide, rfl⟩ (by decide) rfl ?_
            rw [q399]
            refine x_A k200_151 (fun _ => rfl) ?_
            refine x_isub k200_152 ?_
            refine x_top (fun z401 e_z401 => ?_)
            exact x_iret k200_153 rfl ⟨hG_s392, f_s392, z401, rfl, (by first | exact x_rbe e_z401 g_z401 rfl rfl | exact x_rb g_z401 rfl rfl | exact ⟨by omega, by omega⟩), J_a⟩
          · skip
            refine x_A k200_83 (fun _ => rfl) ?_
            refine x_getI k200_84 (f := 51) rfl (q := 256) (n := 62) (kd := 15) ⟨by decide, rfl⟩ (by decide) rfl ?_
            rw [q360]
            refine x_if_eq k200_87 (t := 97) rfl (by first | exact x_rb b_x1005 rfl rfl | exact ⟨by omega, by omega⟩) (fun c402 => ?_) (fun c402 => by exfalso; omega)
            refine x_A k200_97 (fun _ => rfl) ?_
            have B1_i : AW s355 1 (s355 256 50) (s355 256 47 + s355 256 48) := AW.ca AK_s355 (by omega) (by omega) (by omega)
            refine x_callV k200_98 (y := 199) (n := 0) (w0 := 0) (w1 := 0) (as := []) (rest := []) (by decide +kernel) (q := 256) (nq := 62) (kq := 15) ⟨by decide, rfl⟩ rfl rfl rfl rfl (xe_mono (C_X11_readBehind_256 s355 hG_s355 ⟨by omega, by omega⟩ ⟨by omega, by omega⟩ ⟨by omega, by omega⟩ ⟨by omega, by omega⟩ ⟨by omega, by omega⟩ ⟨by omega, by omega⟩ ⟨by omega, by omega⟩ (by omega) (by omega) J_s355 B1_i) ?_)
            rintro s404 v ⟨hG_s404, t_s404, z403, rfl, g_z403, xp_z403, J_s404⟩
            have f_s404 : FL [4133, 4136, 4132, 4134, 4135, 6080, 6144, 4144, 4145, 4148, 4147, 6208, 4131, 6016, 4140] s0 s404 := f_s355.tr t_s404 (by decide +kernel)
            have q405 : s404 256 34 = x1001 := (t_s404 256 34 (show 4131 ∉ [4133, 4136, 4132, 4134, 4135, 6080, 6144, 4144, 4145, 4148, 4147, 6208] from by decide +kernel)).trans q356
            have q406 : s404 256 43 = x1006 := (t_s404 256 43 (show 4140 ∉ [4133, 4136, 4132, 4134, 4135, 6080, 6144, 4144, 4145, 4148, 4147, 6208] from by decide +kernel)).trans q361
            obtain ⟨z407, e_z407⟩ : ∃ z, z = s404 256 36 := ⟨_, rfl⟩
            have g_z407 : (0 : Int) ≤ s404 256 36 ∧ s404 256 36 ≤ 160 := hG_s404 256 36
            obtain ⟨z408, e_z408⟩ : ∃ z, z = s404 256 47 := ⟨_, rfl⟩
            have g_z408 : (0 : Int) ≤ s404 256 47 ∧ s404 256 47 ≤ 110 := hG_s404 256 47
            obtain ⟨z409, e_z409⟩ : ∃ z, z = s404 256 48 := ⟨_, rfl⟩
            have g_z409 : (0 : Int) ≤ s404 256 48 ∧ s404 256 48 ≤ 120 := hG_s404 256 48
            obtain ⟨z410, e_z410⟩ : ∃ z, z = s404 256 50 := ⟨_, rfl⟩
            have g_z410 : (0 : Int) ≤ s404 256 50 ∧ s404 256 50 ≤ 5 := hG_s404 256 50
            obtain ⟨z411, e_z411⟩ : ∃ z, z = s404 256 51 := ⟨_, rfl⟩
            have g_z411 : (0 : Int) ≤ s404 256 51 ∧ s404 256 51 ≤ 1 := hG_s404 256 51
            show xe none 200 101 [(0, .ref 256), (1, vi x1)] [vi z403] s404 0 0 _
            refine x_istore_n k200_101 (ls' := [(1, vi z403), (0, .ref 256)]) (by decide) rfl ?_
            refine x_goto k200_102 (t := 58) rfl ?_
            refine x_ls (l := [(0, .ref 256), (1, vi z403)]) (show ([0, 1] : List Nat).Nodup from by decide +kernel) ⟨rfl, rfl, trivial⟩ ?_
            exact ih s404 z403 z407 x1001 z408 z409 z410 z411 x1006 hG_s404 f_s404 (by first | exact x_rbe e_z403 g_z403 rfl rfl | exact x_rb g_z403 rfl rfl | exact ⟨by omega, by omega⟩) (by first | exact x_rbe e_z407 g_z407 rfl rfl | exact x_rb g_z407 rfl rfl | exact ⟨by omega, by omega⟩) (by first | exact x_rb b_x1001 rfl rfl | exact ⟨by omega, by omega⟩) (by first | exact x_rbe e_z408 g_z408 rfl rfl | exact x_rb g_z408 rfl rfl | exact ⟨by omega, by omega⟩) (by first | exact x_rbe e_z409 g_z409 rfl rfl | exact x_rb g_z409 rfl rfl | exact ⟨by omega, by omega⟩) (by first | exact x_rbe e_z410 g_z410 rfl rfl | exact x_rb g_z410 rfl rfl | exact ⟨by omega, by omega⟩) (by first | exact x_rbe e_z411 g_z411 rfl rfl | exact x_rb g_z411 rfl rfl | exact ⟨by omega, by omega⟩) (by first | exact x_rb b_x1006 rfl rfl | exact ⟨by omega, by omega⟩) (by omega) (by omega) (by omega) (by omega) (by omega) (by omega) (by omega) (by omega) (fun hz => AW.ca (xp_z403.2 (by omega)) (by omega) (by omega) (by omega)) (e_z407.symm).symm (q405).symm (e_z408.symm).symm (e_z409.symm).symm (e_z410.symm).symm (e_z411.symm).symm (q406).symm J_s404  (by omega)
theorem C_X11_ask_256 (s0 : xS) (hG0 : GI s0) (p_256_47 : 0 ≤ s0 256 47 ∧ s0 256 47 ≤ 110) (p_256_48 : 0 ≤ s0 256 48 ∧ s0 256 48 ≤ 120) (p_256_36 : 0 ≤ s0 256 36 ∧ s0 256 36 ≤ 160) (p_256_34 : 0 ≤ s0 256 34 ∧ s0 256 34 ≤ 160) (p_256_43 : 0 ≤ s0 256 43 ∧ s0 256 43 ≤ 8) (p_256_50 : 0 ≤ s0 256 50 ∧ s0 256 50 ≤ 5) (p_256_51 : 0 ≤ s0 256 51 ∧ s0 256 51 ≤ 1) (i0_J : J s0) : xe none 200 0 (lv_args 0 [.ref 256]) [] s0 0 0 (fun s' v => GI s' ∧ FL [4133, 4136, 4132, 4134, 4135, 6080, 6144, 4144, 4145, 4148, 4147, 6208, 4131, 6016, 4140] s0 s' ∧ ∃ z, v = some (vi z) ∧ ((-2147483648) ≤ z ∧ z ≤ 2147483647) ∧ J s') := by
  have f0 : FL [4133, 4136, 4132, 4134, 4135, 6080, 6144, 4144, 4145, 4148, 4147, 6208, 4131, 6016, 4140] s0 s0 := FL.rf
  show xe none 200 0 [(0, .ref 256)] [] s0 0 0 _
  obtain ⟨z412, e_z412⟩ : ∃ z, z = s0 256 47 := ⟨_, rfl⟩
  have g_z412 : (0 : Int) ≤ s0 256 47 ∧ s0 256 47 ≤ 110 := hG0 256 47
  obtain ⟨z413, e_z413⟩ : ∃ z, z = s0 256 48 := ⟨_, rfl⟩
  have g_z413 : (0 : Int) ≤ s0 256 48 ∧ s0 256 48 ≤ 120 := hG0 256 48
  obtain ⟨z414, e_z414⟩ : ∃ z, z = s0 256 36 := ⟨_, rfl⟩
  have g_z414 : (0 : Int) ≤ s0 256 36 ∧ s0 256 36 ≤ 160 := hG0 256 36
  obtain ⟨z415, e_z415⟩ : ∃ z, z = s0 256 34 := ⟨_, rfl⟩
  have g_z415 : (0 : Int) ≤ s0 256 34 ∧ s0 256 34 ≤ 160 := hG0 256 34
  obtain ⟨z416, e_z416⟩ : ∃ z, z = s0 256 43 := ⟨_, rfl⟩
  have g_z416 : (0 : Int) ≤ s0 256 43 ∧ s0 256 43 ≤ 8 := hG0 256 43
  obtain ⟨z417, e_z417⟩ : ∃ z, z = s0 256 50 := ⟨_, rfl⟩
  have g_z417 : (0 : Int) ≤ s0 256 50 ∧ s0 256 50 ≤ 5 := hG0 256 50
  obtain ⟨z418, e_z418⟩ : ∃ z, z = s0 256 51 := ⟨_, rfl⟩
  have g_z418 : (0 : Int) ≤ s0 256 51 ∧ s0 256 51 ≤ 1 := hG0 256 51
  refine x_A k200_0 (fun _ => rfl) ?_
  refine x_getI k200_1 (f := 34) rfl (q := 256) (n := 62) (kd := 15) ⟨by decide, rfl⟩ (by decide) rfl ?_
  rw [e_z415.symm]
  refine x_bipush k200_4 (by decide +kernel) ?_
  refine x_ic_le k200_6 (t := 13) rfl (by first | exact x_rbe e_z415 g_z415 rfl rfl | exact x_rb g_z415 rfl rfl | exact ⟨by omega, by omega⟩) ⟨by decide, by decide⟩ (fun c419 => ?_) (fun c419 => ?_)
  · skip
    refine x_A k200_13 (fun _ => rfl) ?_
    refine x_getI k200_14 (f := 43) rfl (q := 256) (n := 62) (kd := 15) ⟨by decide, rfl⟩ (by decide) rfl ?_
    rw [e_z416.symm]
    refine x_bipush k200_17 (by decide +kernel) ?_
    refine x_ic_ne k200_19 (t := 26) rfl (by first | exact x_rbe e_z416 g_z416 rfl rfl | exact x_rb g_z416 rfl rfl | exact ⟨by omega, by omega⟩) ⟨by decide, by decide⟩ (fun c420 => ?_) (fun c420 => ?_)
    · skip
      refine x_A k200_26 (fun _ => rfl) ?_
      refine x_A k200_27 (fun _ => rfl) ?_
      refine x_putI k200_28 (f := 35) rfl (q := 256) (n := 62) (kd := 15) ⟨by decide, rfl⟩ rfl rfl rfl ?_
      refine x_nh (fun s421 e_s421 => ?_)
      have hG_s421 : GI s421 := by rw [e_s421]; exact hG0.up (show (-2147483648) ≤ (-1) ∧ (-1) ≤ 2147483647 from ⟨by decide, by decide⟩)
      have f_s421 : FL [4133, 4136, 4132, 4134, 4135, 6080, 6144, 4144, 4145, 4148, 4147, 6208, 4131, 6016, 4140] s0 s421 := by rw [e_s421]; exact f0.up (show 4132 ∈ [4133, 4136, 4132, 4134, 4135, 6080, 6144, 4144, 4145, 4148, 4147, 6208, 4131, 6016, 4140] from by decide +kernel)
      have q422 : s421 256 47 = z412 := by rw [e_s421, x_up_i (by decide)]; exact e_z412.symm
      have q423 : s421 256 48 = z413 := by rw [e_s421, x_up_i (by decide)]; exact e_z413.symm
      have q424 : s421 256 36 = z414 := by rw [e_s421, x_up_i (by decide)]; exact e_z414.symm
      have q425 : s421 256 34 = z415 := by rw [e_s421, x_up_i (by decide)]; exact e_z415.symm
      have q426 : s421 256 43 = z416 := by rw [e_s421, x_up_i (by decide)]; exact e_z416.symm
      have q427 : s421 256 50 = z417 := by rw [e_s421, x_up_i (by decide)]; exact e_z417.symm
      have q428 : s421 256 51 = z418 := by rw [e_s421, x_up_i (by decide)]; exact e_z418.symm
      have q429 : s421 256 35 = (-1) := by rw [e_s421]; exact x_up_same
      have J_s421 : J s421 := by rw [e_s421]; exact J.up i0_J (show 4132 ∉ LJ from by decide)
      refine x_A k200_31 (fun _ => rfl) ?_
      refine x_A k200_32 (fun _ => rfl) ?_
      refine x_putI k200_33 (f := 36) rfl (q := 256) (n := 62) (kd := 15) ⟨by decide, rfl⟩ rfl rfl rfl ?_
      refine x_nh (fun s430 e_s430 => ?_)
      have hG_s430 : GI s430 := by rw [e_s430]; exact hG_s421.up (show 0 ≤ 0 ∧ 0 ≤ 160 from ⟨by decide, by decide⟩)
      have f_s430 : FL [4133, 4136, 4132, 4134, 4135, 6080, 6144, 4144, 4145, 4148, 4147, 6208, 4131, 6016, 4140] s0 s430 := by rw [e_s430]; exact f_s421.up (show 4133 ∈ [4133, 4136, 4132, 4134, 4135, 6080, 6144, 4144, 4145, 4148, 4147, 6208, 4131, 6016, 4140] from by decide +kernel)
      have q431 : s430 256 47 = z412 := by rw [e_s430, x_up_i (by decide)]; exact q422
      have q432 : s430 256 48 = z413 := by rw [e_s430, x_up_i (by decide)]; exact q423
      have q433 : s430 256 34 = z415 := by rw [e_s430, x_up_i (by decide)]; exact q425
      have q434 : s430 256 43 = z416 := by rw [e_s430, x_up_i (by decide)]; exact q426
      have q435 : s430 256 50 = z417 := by rw [e_s430, x_up_i (by decide)]; exact q427
      have q436 : s430 256 51 = z418 := by rw [e_s430, x_up_i (by decide)]; exact q428
      have q437 : s430 256 35 = (-1) := by rw [e_s430, x_up_i (by decide)]; exact q429
      have q438 : s430 256 36 = 0 := by rw [e_s430]; exact x_up_same
      have J_s430 : J s430 := by rw [e_s430]; exact J.up J_s421 (show 4133 ∉ LJ from by decide)
      refine x_A k200_36 (fun _ => rfl) ?_
      refine x_A k200_37 (fun _ => rfl) ?_
      refine x_putI k200_38 (f := 47) rfl (q := 256) (n := 62) (kd := 15) ⟨by decide, rfl⟩ rfl rfl rfl ?_
      refine x_nh (fun s439 e_s439 => ?_)
      have hG_s439 : GI s439 := by rw [e_s439]; exact hG_s430.up (show 0 ≤ 0 ∧ 0 ≤ 110 from ⟨by decide, by decide⟩)
      have f_s439 : FL [4133, 4136, 4132, 4134, 4135, 6080, 6144, 4144, 4145, 4148, 4147, 6208, 4131, 6016, 4140] s0 s439 := by rw [e_s439]; exact f_s430.up (show 4144 ∈ [4133, 4136, 4132, 4134, 4135, 6080, 6144, 4144, 4145, 4148, 4147, 6208, 4131, 6016, 4140] from by decide +kernel)
      have q440 : s439 256 48 = z413 := by rw [e_s439, x_up_i (by decide)]; exact q432
      have q441 : s439 256 34 = z415 := by rw [e_s439, x_up_i (by decide)]; exact q433
      have q442 : s439 256 43 = z416 := by rw [e_s439, x_up_i (by decide)]; exact q434
      have q443 : s439 256 50 = z417 := by rw [e_s439, x_up_i (by decide)]; exact q435
      have q444 : s439 256 51 = z418 := by rw [e_s439, x_up_i (by decide)]; exact q436
      have q445 : s439 256 35 = (-1) := by rw [e_s439, x_up_i (by decide)]; exact q437
      have q446 : s439 256 36 = 0 := by rw [e_s439, x_up_i (by decide)]; exact q438
      have q447 : s439 256 47 = 0 := by rw [e_s439]; exact x_up_same
      have J_s439 : J s439 := by rw [e_s439]; exact J.up J_s430 (show 4144 ∉ LJ from by decide)
      refine x_A k200_41 (fun _ => rfl) ?_
      refine x_A k200_42 (fun _ => rfl) ?_
      refine x_putI k200_43 (f := 48) rfl (q := 256) (n := 62) (kd := 15) ⟨by decide, rfl⟩ rfl rfl rfl ?_
      refine x_nh (fun s448 e_s448 => ?_)
      have hG_s448 : GI s448 := by rw [e_s448]; exact hG_s439.up (show 0 ≤ 0 ∧ 0 ≤ 120 from ⟨by decide, by decide⟩)
      have f_s448 : FL [4133, 4136, 4132, 4134, 4135, 6080, 6144, 4144, 4145, 4148, 4147, 6208, 4131, 6016, 4140] s0 s448 := by rw [e_s448]; exact f_s439.up (show 4145 ∈ [4133, 4136, 4132, 4134, 4135, 6080, 6144, 4144, 4145, 4148, 4147, 6208, 4131, 6016, 4140] from by decide +kernel)
      have q449 : s448 256 34 = z415 := by rw [e_s448, x_up_i (by decide)]; exact q441
      have q450 : s448 256 43 = z416 := by rw [e_s448, x_up_i (by decide)]; exact q442
      have q451 : s448 256 50 = z417 := by rw [e_s448, x_up_i (by decide)]; exact q443
      have q452 : s448 256 51 = z418 := by rw [e_s448, x_up_i (by decide)]; exact q444
      have q453 : s448 256 35 = (-1) := by rw [e_s448, x_up_i (by decide)]; exact q445
      have q454 : s448 256 36 = 0 := by rw [e_s448, x_up_i (by decide)]; exact q446
      have q455 : s448 256 47 = 0 := by rw [e_s448, x_up_i (by decide)]; exact q447
      have q456 : s448 256 48 = 0 := by rw [e_s448]; exact x_up_same
      have J_s448 : J s448 := by rw [e_s448]; exact J.up J_s439 (show 4145 ∉ LJ from by decide)
      refine x_A k200_46 (fun _ => rfl) ?_
      refine x_A k200_47 (fun _ => rfl) ?_
      refine x_putI k200_48 (f := 50) rfl (q := 256) (n := 62) (kd := 15) ⟨by decide, rfl⟩ rfl rfl rfl ?_
      refine x_nh (fun s457 e_s457 => ?_)
      have hG_s457 : GI s457 := by rw [e_s457]; exact hG_s448.up (show 0 ≤ 0 ∧ 0 ≤ 5 from ⟨by decide, by decide⟩)
      have f_s457 : FL [4133, 4136, 4132, 4134, 4135, 6080, 6144, 4144, 4145, 4148, 4147, 6208, 4131, 6016, 4140] s0 s457 := by rw [e_s457]; exact f_s448.up (show 4147 ∈ [4133, 4136, 4132, 4134, 4135, 6080, 6144, 4144, 4145, 4148, 4147, 6208, 4131, 6016, 4140] from by decide +kernel)
      have q458 : s457 256 34 = z415 := by rw [e_s457, x_up_i (by decide)]; exact q449
      have q459 : s457 256 43 = z416 := by rw [e_s457, x_up_i (by decide)]; exact q450
      have q460 : s457 256 51 = z418 := by rw [e_s457, x_up_i (by decide)]; exact q452
      have q461 : s457 256 35 = (-1) := by rw [e_s457, x_up_i (by decide)]; exact q453
      have q462 : s457 256 36 = 0 := by rw [e_s457, x_up_i (by decide)]; exact q454
      have q463 : s457 256 47 = 0 := by rw [e_s457, x_up_i (by decide)]; exact q455
      have q464 : s457 256 48 = 0 := by rw [e_s457, x_up_i (by decide)]; exact q456
      have q465 : s457 256 50 = 0 := by rw [e_s457]; exact x_up_same
      have J_s457 : J s457 := by rw [e_s457]; exact J.up J_s448 (show 4147 ∉ LJ from by decide)
      refine x_A k200_51 (fun _ => rfl) ?_
      refine x_A k200_52 (fun _ => rfl) ?_
      refine x_putZ k200_53 (f := 51) rfl (q := 256) (n := 62) (kd := 15) ⟨by decide, rfl⟩ rfl rfl rfl ⟨by omega, by omega⟩ ?_
      refine x_nh (fun s466 e_s466 => ?_)
      have hG_s466 : GI s466 := by rw [e_s466]; exact hG_s457.up (show 0 ≤ 1 ∧ 1 ≤ 1 from ⟨by decide, by decide⟩)
      have f_s466 : FL [4133, 4136, 4132, 4134, 4135, 6080, 6144, 4144, 4145, 4148, 4147, 6208, 4131, 6016, 4140] s0 s466 := by rw [e_s466]; exact f_s457.up (show 4148 ∈ [4133, 4136, 4132, 4134, 4135, 6080, 6144, 4144, 4145, 4148, 4147, 6208, 4131, 6016, 4140] from by decide +kernel)
      have q467 : s466 256 34 = z415 := by rw [e_s466, x_up_i (by decide)]; exact q458
      have q468 : s466 256 43 = z416 := by rw [e_s466, x_up_i (by decide)]; exact q459
      have q469 : s466 256 35 = (-1) := by rw [e_s466, x_up_i (by decide)]; exact q461
      have q470 : s466 256 36 = 0 := by rw [e_s466, x_up_i (by decide)]; exact q462
      have q471 : s466 256 47 = 0 := by rw [e_s466, x_up_i (by decide)]; exact q463
      have q472 : s466 256 48 = 0 := by rw [e_s466, x_up_i (by decide)]; exact q464
      have q473 : s466 256 50 = 0 := by rw [e_s466, x_up_i (by decide)]; exact q465
      have q474 : s466 256 51 = 1 := by rw [e_s466]; exact x_up_same
      have J_s466 : J s466 := by rw [e_s466]; exact J.up J_s457 (show 4148 ∉ LJ from by decide)
      refine x_A k200_56 (fun _ => rfl) ?_
      refine x_istore_n k200_57 (ls' := [(1, vi 0), (0, .ref 256)]) (by decide) rfl ?_
      refine x_ls (l := [(0, .ref 256), (1, vi 0)]) (show ([0, 1] : List Nat).Nodup from by decide +kernel) ⟨rfl, rfl, trivial⟩ ?_
      exact L_C_X11_ask_256_58 s0   (((2000 - 0 - 200 * 0) + 1 : Int)).toNat s466 0 0 z415 0 0 0 1 z416 hG_s466 f_s466 ⟨by decide, by decide⟩ ⟨by decide, by decide⟩ (by first | exact x_rbe e_z415 g_z415 rfl rfl | exact x_rb g_z415 rfl rfl | exact ⟨by omega, by omega⟩) ⟨by decide, by decide⟩ ⟨by decide, by decide⟩ ⟨by decide, by decide⟩ ⟨by decide, by decide⟩ (by first | exact x_rbe e_z416 g_z416 rfl rfl | exact x_rb g_z416 rfl rfl | exact ⟨by omega, by omega⟩) (by omega) (by omega) (by omega) (by omega) (by omega) (by omega) (by omega) (by omega) (fun _ => AW.ca (AW_0 (by omega) (by omega)) (by omega) (by omega) (by omega)) (q470).symm (q467).symm (q471).symm (q472).symm (q473).symm (q474).symm (q468).symm J_s466  (by omega)
    · skip
      refine x_sipush k200_22 (by decide +kernel) ?_
      exact x_iret k200_25 rfl ⟨hG0, f0, (-1004), rfl, ⟨by decide, by decide⟩, i0_J⟩
  · skip
    refine x_sipush k200_9 (by decide +kernel) ?_
    exact x_iret k200_12 rfl ⟨hG0, f0, (-1003), rfl, ⟨by decide, by decide⟩, i0_J⟩
