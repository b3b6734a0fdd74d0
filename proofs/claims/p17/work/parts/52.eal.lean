set_option maxHeartbeats 8000000 in
theorem E_X11_code_c107_c101_c101_c112_c115_c0 (s0 : xS) (hG0 : GI s0) (a : Int) (b_a : 107 ≤ a ∧ a ≤ 107) (b : Int) (b_b : 101 ≤ b ∧ b ≤ 101) (d : Int) (b_d : 101 ≤ d ∧ d ≤ 101) (e : Int) (b_e : 112 ≤ e ∧ e ≤ 112) (g : Int) (b_g : 115 ≤ g ∧ g ≤ 115) (h : Int) (b_h : 0 ≤ h ∧ h ≤ 0) : xe none 179 0 (lv_args 0 [vi a, vi b, vi d, vi e, vi g, vi h]) [] s0 0 0 (fun s' v => GI s' ∧ FL [] s0 s' ∧ ∃ z, v = some (vj z) ∧ in64 z ∧ (z = 5948362)) := by
  have f0 : FL [] s0 s0 := FL.rf
  show xe none 179 0 [(0, vi a), (1, vi b), (2, vi d), (3, vi e), (4, vi g), (5, vi h)] [] s0 0 0 _
  refine x_ldc2 k179_0 (z := 27) rfl (by decide +kernel) ?_
  refine x_A k179_3 (fun _ => rfl) ?_
  refine x_i2l k179_4 (by first | exact x_rb b_a rfl rfl | exact ⟨by omega, by omega⟩) ?_
  refine x_ldc2 k179_5 (z := 96) rfl (by decide +kernel) ?_
  refine x_lsub k179_8 ?_
  refine x_topL (fun z1 e_z1 => ?_)
  refine x_lmul k179_9 ?_
  refine x_topL (fun z2 e_z2 => ?_)
  refine x_A k179_10 (fun _ => rfl) ?_
  refine x_i2l k179_11 (by first | exact x_rb b_b rfl rfl | exact ⟨by omega, by omega⟩) ?_
  refine x_ladd k179_12 ?_
  refine x_topL (fun z3 e_z3 => ?_)
  refine x_ldc2 k179_13 (z := 96) rfl (by decide +kernel) ?_
  refine x_lsub k179_16 ?_
  refine x_topL (fun z4 e_z4 => ?_)
  refine x_lstore k179_17 (ls' := [(6, vj z4), (0, vi a), (1, vi b), (2, vi d), (3, vi e), (4, vi g), (5, vi h)]) (by decide) rfl ?_
  refine x_A k179_19 (fun _ => rfl) ?_
  refine x_if_ne k179_20 (t := 28) rfl (by first | exact x_rb b_d rfl rfl | exact ⟨by omega, by omega⟩) (fun c5 => ?_) (fun c5 => by exfalso; omega)
  refine x_ldc2 k179_28 (z := 27) rfl (by decide +kernel) ?_
  refine x_A k179_31 (fun _ => rfl) ?_
  refine x_lmul k179_33 ?_
  refine x_topL (fun z6 e_z6 => ?_)
  refine x_A k179_34 (fun _ => rfl) ?_
  refine x_i2l k179_35 (by first | exact x_rb b_d rfl rfl | exact ⟨by omega, by omega⟩) ?_
  refine x_ladd k179_36 ?_
  refine x_topL (fun z7 e_z7 => ?_)
  refine x_ldc2 k179_37 (z := 96) rfl (by decide +kernel) ?_
  refine x_lsub k179_40 ?_
  refine x_topL (fun z8 e_z8 => ?_)
  refine x_lstore k179_41 (ls' := [(6, vj z8), (0, vi a), (1, vi b), (2, vi d), (3, vi e), (4, vi g), (5, vi h)]) (by decide) rfl ?_
  refine x_A k179_43 (fun _ => rfl) ?_
  refine x_if_ne k179_44 (t := 52) rfl (by first | exact x_rb b_e rfl rfl | exact ⟨by omega, by omega⟩) (fun c9 => ?_) (fun c9 => by exfalso; omega)
  refine x_ldc2 k179_52 (z := 27) rfl (by decide +kernel) ?_
  refine x_A k179_55 (fun _ => rfl) ?_
  refine x_lmul k179_57 ?_
  refine x_topL (fun z10 e_z10 => ?_)
  refine x_A k179_58 (fun _ => rfl) ?_
  refine x_i2l k179_59 (by first | exact x_rb b_e rfl rfl | exact ⟨by omega, by omega⟩) ?_
  refine x_ladd k179_60 ?_
  refine x_topL (fun z11 e_z11 => ?_)
  refine x_ldc2 k179_61 (z := 96) rfl (by decide +kernel) ?_
  refine x_lsub k179_64 ?_
  refine x_topL (fun z12 e_z12 => ?_)
  refine x_lstore k179_65 (ls' := [(6, vj z12), (0, vi a), (1, vi b), (2, vi d), (3, vi e), (4, vi g), (5, vi h)]) (by decide) rfl ?_
  refine x_A k179_67 (fun _ => rfl) ?_
  refine x_if_ne k179_69 (t := 77) rfl (by first | exact x_rb b_g rfl rfl | exact ⟨by omega, by omega⟩) (fun c13 => ?_) (fun c13 => by exfalso; omega)
  refine x_ldc2 k179_77 (z := 27) rfl (by decide +kernel) ?_
  refine x_A k179_80 (fun _ => rfl) ?_
  refine x_lmul k179_82 ?_
  refine x_topL (fun z14 e_z14 => ?_)
  refine x_A k179_83 (fun _ => rfl) ?_
  refine x_i2l k179_85 (by first | exact x_rb b_g rfl rfl | exact ⟨by omega, by omega⟩) ?_
  refine x_ladd k179_86 ?_
  refine x_topL (fun z15 e_z15 => ?_)
  refine x_ldc2 k179_87 (z := 96) rfl (by decide +kernel) ?_
  refine x_lsub k179_90 ?_
  refine x_topL (fun z16 e_z16 => ?_)
  refine x_lstore k179_91 (ls' := [(6, vj z16), (0, vi a), (1, vi b), (2, vi d), (3, vi e), (4, vi g), (5, vi h)]) (by decide) rfl ?_
  refine x_A k179_93 (fun _ => rfl) ?_
  refine x_if_ne k179_95 (t := 103) rfl (by first | exact x_rb b_h rfl rfl | exact ⟨by omega, by omega⟩) (fun c17 => by exfalso; omega) (fun c17 => ?_)
  refine x_A k179_98 (fun _ => rfl) ?_
  refine x_goto k179_100 (t := 117) rfl ?_
  exact x_lret k179_117 rfl ⟨hG0, f0, z16, rfl, ⟨by omega, by omega⟩, by omega⟩
set_option maxHeartbeats 8000000 in
theorem E_X11_code_c116_c117_c114_c110_c115_c0 (s0 : xS) (hG0 : GI s0) (a : Int) (b_a : 116 ≤ a ∧ a ≤ 116) (b : Int) (b_b : 117 ≤ b ∧ b ≤ 117) (d : Int) (b_d : 114 ≤ d ∧ d ≤ 114) (e : Int) (b_e : 110 ≤ e ∧ e ≤ 110) (g : Int) (b_g : 115 ≤ g ∧ g ≤ 115) (h : Int) (b_h : 0 ≤ h ∧ h ≤ 0) : xe none 179 0 (lv_args 0 [vi a, vi b, vi d, vi e, vi g, vi h]) [] s0 0 0 (fun s' v => GI s' ∧ FL [] s0 s' ∧ ∃ z, v = some (vj z) ∧ in64 z ∧ (z = 11055682)) := by
  have f0 : FL [] s0 s0 := FL.rf
  show xe none 179 0 [(0, vi a), (1, vi b), (2, vi d), (3, vi e), (4, vi g), (5, vi h)] [] s0 0 0 _
  refine x_ldc2 k179_0 (z := 27) rfl (by decide +kernel) ?_
  refine x_A k179_3 (fun _ => rfl) ?_
  refine x_i2l k179_4 (by first | exact x_rb b_a rfl rfl | exact ⟨by omega, by omega⟩) ?_
  refine x_ldc2 k179_5 (z := 96) rfl (by decide +kernel) ?_
  refine x_lsub k179_8 ?_
  refine x_topL (fun z1 e_z1 => ?_)
  refine x_lmul k179_9 ?_
  refine x_topL (fun z2 e_z2 => ?_)
  refine x_A k179_10 (fun _ => rfl) ?_
  refine x_i2l k179_11 (by first | exact x_rb b_b rfl rfl | exact ⟨by omega, by omega⟩) ?_
  refine x_ladd k179_12 ?_
  refine x_topL (fun z3 e_z3 => ?_)
  refine x_ldc2 k179_13 (z := 96) rfl (by decide +kernel) ?_
  refine x_lsub k179_16 ?_
  refine x_topL (fun z4 e_z4 => ?_)
  refine x_lstore k179_17 (ls' := [(6, vj z4), (0, vi a), (1, vi b), (2, vi d), (3, vi e), (4, vi g), (5, vi h)]) (by decide) rfl ?_
  refine x_A k179_19 (fun _ => rfl) ?_
  refine x_if_ne k179_20 (t := 28) rfl (by first | exact x_rb b_d rfl rfl | exact ⟨by omega, by omega⟩) (fun c5 => ?_) (fun c5 => by exfalso; omega)
  refine x_ldc2 k179_28 (z := 27) rfl (by decide +kernel) ?_
  refine x_A k179_31 (fun _ => rfl) ?_
  refine x_lmul k179_33 ?_
  refine x_topL (fun z6 e_z6 => ?_)
  refine x_A k179_34 (fun _ => rfl) ?_
  refine x_i2l k179_35 (by first | exact x_rb b_d rfl rfl | exact ⟨by omega, by omega⟩) ?_
  refine x_ladd k179_36 ?_
  refine x_topL (fun z7 e_z7 => ?_)
  refine x_ldc2 k179_37 (z := 96) rfl (by decide +kernel) ?_
  refine x_lsub k179_40 ?_
  refine x_topL (fun z8 e_z8 => ?_)
  refine x_lstore k179_41 (ls' := [(6, vj z8), (0, vi a), (1, vi b), (2, vi d), (3, vi e), (4, vi g), (5, vi h)]) (by decide) rfl ?_
  refine x_A k179_43 (fun _ => rfl) ?_
  refine x_if_ne k179_44 (t := 52) rfl (by first | exact x_rb b_e rfl rfl | exact ⟨by omega, by omega⟩) (fun c9 => ?_) (fun c9 => by exfalso; omega)
  refine x_ldc2 k179_52 (z := 27) rfl (by decide +kernel) ?_
  refine x_A k179_55 (fun _ => rfl) ?_
  refine x_lmul k179_57 ?_
  refine x_topL (fun z10 e_z10 => ?_)
  refine x_A k179_58 (fun _ => rfl) ?_
  refine x_i2l k179_59 (by first | exact x_rb b_e rfl rfl | exact ⟨by omega, by omega⟩) ?_
  refine x_ladd k179_60 ?_
  refine x_topL (fun z11 e_z11 => ?_)
  refine x_ldc2 k179_61 (z := 96) rfl (by decide +kernel) ?_
  refine x_lsub k179_64 ?_
  refine x_topL (fun z12 e_z12 => ?_)
  refine x_lstore k179_65 (ls' := [(6, vj z12), (0, vi a), (1, vi b), (2, vi d), (3, vi e), (4, vi g), (5, vi h)]) (by decide) rfl ?_
  refine x_A k179_67 (fun _ => rfl) ?_
  refine x_if_ne k179_69 (t := 77) rfl (by first | exact x_rb b_g rfl rfl | exact ⟨by omega, by omega⟩) (fun c13 => ?_) (fun c13 => by exfalso; omega)
  refine x_ldc2 k179_77 (z := 27) rfl (by decide +kernel) ?_
  refine x_A k179_80 (fun _ => rfl) ?_
  refine x_lmul k179_82 ?_
  refine x_topL (fun z14 e_z14 => ?_)
  refine x_A k179_83 (fun _ => rfl) ?_
  refine x_i2l k179_85 (by first | exact x_rb b_g rfl rfl | exact ⟨by omega, by omega⟩) ?_
  refine x_ladd k179_86 ?_
  refine x_topL (fun z15 e_z15 => ?_)
  refine x_ldc2 k179_87 (z := 96) rfl (by decide +kernel) ?_
  refine x_lsub k179_90 ?_
  refine x_topL (fun z16 e_z16 => ?_)
  refine x_lstore k179_91 (ls' := [(6, vj z16), (0, vi a), (1, vi b), (2, vi d), (3, vi e), (4, vi g), (5, vi h)]) (by decide) rfl ?_
  refine x_A k179_93 (fun _ => rfl) ?_
  refine x_if_ne k179_95 (t := 103) rfl (by first | exact x_rb b_h rfl rfl | exact ⟨by omega, by omega⟩) (fun c17 => by exfalso; omega) (fun c17 => ?_)
  refine x_A k179_98 (fun _ => rfl) ?_
  refine x_goto k179_100 (t := 117) rfl ?_
  exact x_lret k179_117 rfl ⟨hG0, f0, z16, rfl, ⟨by omega, by omega⟩, by omega⟩
set_option maxHeartbeats 8000000 in
theorem E_X11_code_c114_c97_c105_c115_c101_c115 (s0 : xS) (hG0 : GI s0) (a : Int) (b_a : 114 ≤ a ∧ a ≤ 114) (b : Int) (b_b : 97 ≤ b ∧ b ≤ 97) (d : Int) (b_d : 105 ≤ d ∧ d ≤ 105) (e : Int) (b_e : 115 ≤ e ∧ e ≤ 115) (g : Int) (b_g : 101 ≤ g ∧ g ≤ 101) (h : Int) (b_h : 115 ≤ h ∧ h ≤ 115) : xe none 179 0 (lv_args 0 [vi a, vi b, vi d, vi e, vi g, vi h]) [] s0 0 0 (fun s' v => GI s' ∧ FL [] s0 s' ∧ ∃ z, v = some (vj z) ∧ in64 z ∧ (z = 259002919)) := by
  have f0 : FL [] s0 s0 := FL.rf
  show xe none 179 0 [(0, vi a), (1, vi b), (2, vi d), (3, vi e), (4, vi g), (5, vi h)] [] s0 0 0 _
  refine x_ldc2 k179_0 (z := 27) rfl (by decide +kernel) ?_
  refine x_A k179_3 (fun _ => rfl) ?_
  refine x_i2l k179_4 (by first | exact x_rb b_a rfl rfl | exact ⟨by omega, by omega⟩) ?_
  refine x_ldc2 k179_5 (z := 96) rfl (by decide +kernel) ?_
  refine x_lsub k179_8 ?_
  refine x_topL (fun z1 e_z1 => ?_)
  refine x_lmul k179_9 ?_
  refine x_topL (fun z2 e_z2 => ?_)
  refine x_A k179_10 (fun _ => rfl) ?_
  refine x_i2l k179_11 (by first | exact x_rb b_b rfl rfl | exact ⟨by omega, by omega⟩) ?_
  refine x_ladd k179_12 ?_
  refine x_topL (fun z3 e_z3 => ?_)
  refine x_ldc2 k179_13 (z := 96) rfl (by decide +kernel) ?_
  refine x_lsub k179_16 ?_
  refine x_topL (fun z4 e_z4 => ?_)
  refine x_lstore k179_17 (ls' := [(6, vj z4), (0, vi a), (1, vi b), (2, vi d), (3, vi e), (4, vi g), (5, vi h)]) (by decide) rfl ?_
  refine x_A k179_19 (fun _ => rfl) ?_
  refine x_if_ne k179_20 (t := 28) rfl (by first | exact x_rb b_d rfl rfl | exact ⟨by omega, by omega⟩) (fun c5 => ?_) (fun c5 => by exfalso; omega)
  refine x_ldc2 k179_28 (z := 27) rfl (by decide +kernel) ?_
  refine x_A k179_31 (fun _ => rfl) ?_
  refine x_lmul k179_33 ?_
  refine x_topL (fun z6 e_z6 => ?_)
  refine x_A k179_34 (fun _ => rfl) ?_
  refine x_i2l k179_35 (by first | exact x_rb b_d rfl rfl | exact ⟨by omega, by omega⟩) ?_
  refine x_ladd k179_36 ?_
  refine x_topL (fun z7 e_z7 => ?_)
  refine x_ldc2 k179_37 (z := 96) rfl (by decide +kernel) ?_
  refine x_lsub k179_40 ?_
  refine x_topL (fun z8 e_z8 => ?_)
  refine x_lstore k179_41 (ls' := [(6, vj z8), (0, vi a), (1, vi b), (2, vi d), (3, vi e), (4, vi g), (5, vi h)]) (by decide) rfl ?_
  refine x_A k179_43 (fun _ => rfl) ?_
  refine x_if_ne k179_44 (t := 52) rfl (by first | exact x_rb b_e rfl rfl | exact ⟨by omega, by omega⟩) (fun c9 => ?_) (fun c9 => by exfalso; omega)
  refine x_ldc2 k179_52 (z := 27) rfl (by decide +kernel) ?_
  refine x_A k179_55 (fun _ => rfl) ?_
  refine x_lmul k179_57 ?_
  refine x_topL (fun z10 e_z10 => ?_)
  refine x_A k179_58 (fun _ => rfl) ?_
  refine x_i2l k179_59 (by first | exact x_rb b_e rfl rfl | exact ⟨by omega, by omega⟩) ?_
  refine x_ladd k179_60 ?_
  refine x_topL (fun z11 e_z11 => ?_)
  refine x_ldc2 k179_61 (z := 96) rfl (by decide +kernel) ?_
  refine x_lsub k179_64 ?_
  refine x_topL (fun z12 e_z12 => ?_)
  refine x_lstore k179_65 (ls' := [(6, vj z12), (0, vi a), (1, vi b), (2, vi d), (3, vi e), (4, vi g), (5, vi h)]) (by decide) rfl ?_
  refine x_A k179_67 (fun _ => rfl) ?_
  refine x_if_ne k179_69 (t := 77) rfl (by first | exact x_rb b_g rfl rfl | exact ⟨by omega, by omega⟩) (fun c13 => ?_) (fun c13 => by exfalso; omega)
  refine x_ldc2 k179_77 (z := 27) rfl (by decide +kernel) ?_
  refine x_A k179_80 (fun _ => rfl) ?_
  refine x_lmul k179_82 ?_
  refine x_topL (fun z14 e_z14 => ?_)
  refine x_A k179_83 (fun _ => rfl) ?_
  refine x_i2l k179_85 (by first | exact x_rb b_g rfl rfl | exact ⟨by omega, by omega⟩) ?_
  refine x_ladd k179_86 ?_
  refine x_topL (fun z15 e_z15 => ?_)
  refine x_ldc2 k179_87 (z := 96) rfl (by decide +kernel) ?_
  refine x_lsub k179_90 ?_
  refine x_topL (fun z16 e_z16 => ?_)
  refine x_lstore k179_91 (ls' := [(6, vj z16), (0, vi a), (1, vi b), (2, vi d), (3, vi e), (4, vi g), (5, vi h)]) (by decide) rfl ?_
  refine x_A k179_93 (fun _ => rfl) ?_
  refine x_if_ne k179_95 (t := 103) rfl (by first | exact x_rb b_h rfl rfl | exact ⟨by omega, by omega⟩) (fun c17 => ?_) (fun c17 => by exfalso; omega)
  refine x_ldc2 k179_103 (z := 27) rfl (by decide +kernel) ?_
  refine x_A k179_106 (fun _ => rfl) ?_
  refine x_lmul k179_108 ?_
  refine x_topL (fun z18 e_z18 => ?_)
  refine x_A k179_109 (fun _ => rfl) ?_
  refine x_i2l k179_111 (by first | exact x_rb b_h rfl rfl | exact ⟨by omega, by omega⟩) ?_
  refine x_ladd k179_112 ?_
  refine x_topL (fun z19 e_z19 => ?_)
  refine x_ldc2 k179_113 (z := 96) rfl (by decide +kernel) ?_
  refine x_lsub k179_116 ?_
  refine x_topL (fun z20 e_z20 => ?_)
  exact x_lret k179_117 rfl ⟨hG0, f0, z20, rfl, ⟨by omega, by omega⟩, by omega⟩
set_option maxHeartbeats 8000000 in
theorem E_X11_code_c107_c101_c121_c0_c0_c0 (s0 : xS) (hG0 : GI s0) (a : Int) (b_a : 107 ≤ a ∧ a ≤ 107) (b : Int) (b_b : 101 ≤ b ∧ b ≤ 101) (d : Int) (b_d : 121 ≤ d ∧ d ≤ 121) (e : Int) (b_e : 0 ≤ e ∧ e ≤ 0) (g : Int) (b_g : 0 ≤ g ∧ g ≤ 0) (h : Int) (b_h : 0 ≤ h ∧ h ≤ 0) : xe none 179 0 (lv_args 0 [vi a, vi b, vi d, vi e, vi g, vi h]) [] s0 0 0 (fun s' v => GI s' ∧ FL [] s0 s' ∧ ∃ z, v = some (vj z) ∧ in64 z ∧ (z = 8179)) := by
  have f0 : FL [] s0 s0 := FL.rf
  show xe none 179 0 [(0, vi a), (1, vi b), (2, vi d), (3, vi e), (4, vi g), (5, vi h)] [] s0 0 0 _
  refine x_ldc2 k179_0 (z := 27) rfl (by decide +kernel) ?_
  refine x_A k179_3 (fun _ => rfl) ?_
  refine x_i2l k179_4 (by first | exact x_rb b_a rfl rfl | exact ⟨by omega, by omega⟩) ?_
  refine x_ldc2 k179_5 (z := 96) rfl (by decide +kernel) ?_
  refine x_lsub k179_8 ?_
  refine x_topL (fun z1 e_z1 => ?_)
  refine x_lmul k179_9 ?_
  refine x_topL (fun z2 e_z2 => ?_)
  refine x_A k179_10 (fun _ => rfl) ?_
  refine x_i2l k179_11 (by first | exact x_rb b_b rfl rfl | exact ⟨by omega, by omega⟩) ?_
  refine x_ladd k179_12 ?_
  refine x_topL (fun z3 e_z3 => ?_)
  refine x_ldc2 k179_13 (z := 96) rfl (by decide +kernel) ?_
  refine x_lsub k179_16 ?_
  refine x_topL (fun z4 e_z4 => ?_)
  refine x_lstore k179_17 (ls' := [(6, vj z4), (0, vi a), (1, vi b), (2, vi d), (3, vi e), (4, vi g), (5, vi h)]) (by decide) rfl ?_
  refine x_A k179_19 (fun _ => rfl) ?_
  refine x_if_ne k179_20 (t := 28) rfl (by first | exact x_rb b_d rfl rfl | exact ⟨by omega, by omega⟩) (fun c5 => ?_) (fun c5 => by exfalso; omega)
  refine x_ldc2 k179_28 (z := 27) rfl (by decide +kernel) ?_
  refine x_A k179_31 (fun _ => rfl) ?_
  refine x_lmul k179_33 ?_
  refine x_topL (fun z6 e_z6 => ?_)
  refine x_A k179_34 (fun _ => rfl) ?_
  refine x_i2l k179_35 (by first | exact x_rb b_d rfl rfl | exact ⟨by omega, by omega⟩) ?_
  refine x_ladd k179_36 ?_
  refine x_topL (fun z7 e_z7 => ?_)
  refine x_ldc2 k179_37 (z := 96) rfl (by decide +kernel) ?_
  refine x_lsub k179_40 ?_
  refine x_topL (fun z8 e_z8 => ?_)
  refine x_lstore k179_41 (ls' := [(6, vj z8), (0, vi a), (1, vi b), (2, vi d), (3, vi e), (4, vi g), (5, vi h)]) (by decide) rfl ?_
  refine x_A k179_43 (fun _ => rfl) ?_
  refine x_if_ne k179_44 (t := 52) rfl (by first | exact x_rb b_e rfl rfl | exact ⟨by omega, by omega⟩) (fun c9 => by exfalso; omega) (fun c9 => ?_)
  refine x_A k179_47 (fun _ => rfl) ?_
  refine x_goto k179_49 (t := 65) rfl ?_
  refine x_lstore k179_65 (ls' := [(6, vj z8), (0, vi a), (1, vi b), (2, vi d), (3, vi e), (4, vi g), (5, vi h)]) (by decide) rfl ?_
  refine x_A k179_67 (fun _ => rfl) ?_
  refine x_if_ne k179_69 (t := 77) rfl (by first | exact x_rb b_g rfl rfl | exact ⟨by omega, by omega⟩) (fun c10 => by exfalso; omega) (fun c10 => ?_)
  refine x_A k179_72 (fun _ => rfl) ?_
  refine x_goto k179_74 (t := 91) rfl ?_
  refine x_lstore k179_91 (ls' := [(6, vj z8), (0, vi a), (1, vi b), (2, vi d), (3, vi e), (4, vi g), (5, vi h)]) (by decide) rfl ?_
  refine x_A k179_93 (fun _ => rfl) ?_
  refine x_if_ne k179_95 (t := 103) rfl (by first | exact x_rb b_h rfl rfl | exact ⟨by omega, by omega⟩) (fun c11 => by exfalso; omega) (fun c11 => ?_)
  refine x_A k179_98 (fun _ => rfl) ?_
  refine x_goto k179_100 (t := 117) rfl ?_
  exact x_lret k179_117 rfl ⟨hG0, f0, z8, rfl, ⟨by omega, by omega⟩, by omega⟩
set_option maxHeartbeats 8000000 in
theorem E_X11_code_c97_c108_c108_c111_c119_c0 (s0 : xS) (hG0 : GI s0) (a : Int) (b_a : 97 ≤ a ∧ a ≤ 97) (b : Int) (b_b : 108 ≤ b ∧ b ≤ 108) (d : Int) (b_d : 108 ≤ d ∧ d ≤ 108) (e : Int) (b_e : 111 ≤ e ∧ e ≤ 111) (g : Int) (b_g : 119 ≤ g ∧ g ≤ 119) (h : Int) (b_h : 0 ≤ h ∧ h ≤ 0) : xe none 179 0 (lv_args 0 [vi a, vi b, vi d, vi e, vi g, vi h]) [] s0 0 0 (fun s' v => GI s' ∧ FL [] s0 s' ∧ ∃ z, v = some (vj z) ∧ in64 z ∧ (z = 776813)) := by
  have f0 : FL [] s0 s0 := FL.rf
  show xe none 179 0 [(0, vi a), (1, vi b), (2, vi d), (3, vi e), (4, vi g), (5, vi h)] [] s0 0 0 _
  refine x_ldc2 k179_0 (z := 27) rfl (by decide +kernel) ?_
  refine x_A k179_3 (fun _ => rfl) ?_
  refine x_i2l k179_4 (by first | exact x_rb b_a rfl rfl | exact ⟨by omega, by omega⟩) ?_
  refine x_ldc2 k179_5 (z := 96) rfl (by decide +kernel) ?_
  refine x_lsub k179_8 ?_
  refine x_topL (fun z1 e_z1 => ?_)
  refine x_lmul k179_9 ?_
  refine x_topL (fun z2 e_z2 => ?_)
  refine x_A k179_10 (fun _ => rfl) ?_
  refine x_i2l k179_11 (by first | exact x_rb b_b rfl rfl | exact ⟨by omega, by omega⟩) ?_
  refine x_ladd k179_12 ?_
  refine x_topL (fun z3 e_z3 => ?_)
  refine x_ldc2 k179_13 (z := 96) rfl (by decide +kernel) ?_
  refine x_lsub k179_16 ?_
  refine x_topL (fun z4 e_z4 => ?_)
  refine x_lstore k179_17 (ls' := [(6, vj z4), (0, vi a), (1, vi b), (2, vi d), (3, vi e), (4, vi g), (5, vi h)]) (by decide) rfl ?_
  refine x_A k179_19 (fun _ => rfl) ?_
  refine x_if_ne k179_20 (t := 28) rfl (by first | exact x_rb b_d rfl rfl | exact ⟨by omega, by omega⟩) (fun c5 => ?_) (fun c5 => by exfalso; omega)
  refine x_ldc2 k179_28 (z := 27) rfl (by decide +kernel) ?_
  refine x_A k179_31 (fun _ => rfl) ?_
  refine x_lmul k179_33 ?_
  refine x_topL (fun z6 e_z6 => ?_)
  refine x_A k179_34 (fun _ => rfl) ?_
  refine x_i2l k179_35 (by first | exact x_rb b_d rfl rfl | exact ⟨by omega, by omega⟩) ?_
  refine x_ladd k179_36 ?_
  refine x_topL (fun z7 e_z7 => ?_)
  refine x_ldc2 k179_37 (z := 96) rfl (by decide +kernel) ?_
  refine x_lsub k179_40 ?_
  refine x_topL (fun z8 e_z8 => ?_)
  refine x_lstore k179_41 (ls' := [(6, vj z8), (0, vi a), (1, vi b), (2, vi d), (3, vi e), (4, vi g), (5, vi h)]) (by decide) rfl ?_
  refine x_A k179_43 (fun _ => rfl) ?_
  refine x_if_ne k179_44 (t := 52) rfl (by first | exact x_rb b_e rfl rfl | exact ⟨by omega, by omega⟩) (fun c9 => ?_) (fun c9 => by exfalso; omega)
  refine x_ldc2 k179_52 (z := 27) rfl (by decide +kernel) ?_
  refine x_A k179_55 (fun _ => rfl) ?_
  refine x_lmul k179_57 ?_
  refine x_topL (fun z10 e_z10 => ?_)
  refine x_A k179_58 (fun _ => rfl) ?_
  refine x_i2l k179_59 (by first | exact x_rb b_e rfl rfl | exact ⟨by omega, by omega⟩) ?_
  refine x_ladd k179_60 ?_
  refine x_topL (fun z11 e_z11 => ?_)
  refine x_ldc2 k179_61 (z := 96) rfl (by decide +kernel) ?_
  refine x_lsub k179_64 ?_
  refine x_topL (fun z12 e_z12 => ?_)
  refine x_lstore k179_65 (ls' := [(6, vj z12), (0, vi a), (1, vi b), (2, vi d), (3, vi e), (4, vi g), (5, vi h)]) (by decide) rfl ?_
  refine x_A k179_67 (fun _ => rfl) ?_
  refine x_if_ne k179_69 (t := 77) rfl (by first | exact x_rb b_g rfl rfl | exact ⟨by omega, by omega⟩) (fun c13 => ?_) (fun c13 => by exfalso; omega)
  refine x_ldc2 k179_77 (z := 27) rfl (by decide +kernel) ?_
  refine x_A k179_80 (fun _ => rfl) ?_
  refine x_lmul k179_82 ?_
  refine x_topL (fun z14 e_z14 => ?_)
  refine x_A k179_83 (fun _ => rfl) ?_
  refine x_i2l k179_85 (by first | exact x_rb b_g rfl rfl | exact ⟨by omega, by omega⟩) ?_
  refine x_ladd k179_86 ?_
  refine x_topL (fun z15 e_z15 => ?_)
  refine x_ldc2 k179_87 (z := 96) rfl (by decide +kernel) ?_
  refine x_lsub k179_90 ?_
  refine x_topL (fun z16 e_z16 => ?_)
  refine x_lstore k179_91 (ls' := [(6, vj z16), (0, vi a), (1, vi b), (2, vi d), (3, vi e), (4, vi g), (5, vi h)]) (by decide) rfl ?_
  refine x_A k179_93 (fun _ => rfl) ?_
  refine x_if_ne k179_95 (t := 103) rfl (by first | exact x_rb b_h rfl rfl | exact ⟨by omega, by omega⟩) (fun c17 => by exfalso; omega) (fun c17 => ?_)
  refine x_A k179_98 (fun _ => rfl) ?_
  refine x_goto k179_100 (t := 117) rfl ?_
  exact x_lret k179_117 rfl ⟨hG0, f0, z16, rfl, ⟨by omega, by omega⟩, by omega⟩
set_option maxHeartbeats 8000000 in
theorem E_X11_code_c98_c97_c114_c0_c0_c0 (s0 : xS) (hG0 : GI s0) (a : Int) (b_a : 98 ≤ a ∧ a ≤ 98) (b : Int) (b_b : 97 ≤ b ∧ b ≤ 97) (d : Int) (b_d : 114 ≤ d ∧ d ≤ 114) (e : Int) (b_e : 0 ≤ e ∧ e ≤ 0) (g : Int) (b_g : 0 ≤ g ∧ g ≤ 0) (h : Int) (b_h : 0 ≤ h ∧ h ≤ 0) : xe none 179 0 (lv_args 0 [vi a, vi b, vi d, vi e, vi g, vi h]) [] s0 0 0 (fun s' v => GI s' ∧ FL [] s0 s' ∧ ∃ z, v = some (vj z) ∧ in64 z ∧ (z = 1503)) := by
  have f0 : FL [] s0 s0 := FL.rf
  show xe none 179 0 [(0, vi a), (1, vi b), (2, vi d), (3, vi e), (4, vi g), (5, vi h)] [] s0 0 0 _
  refine x_ldc2 k179_0 (z := 27) rfl (by decide +kernel) ?_
  refine x_A k179_3 (fun _ => rfl) ?_
  refine x_i2l k179_4 (by first | exact x_rb b_a rfl rfl | exact ⟨by omega, by omega⟩) ?_
  refine x_ldc2 k179_5 (z := 96) rfl (by decide +kernel) ?_
  refine x_lsub k179_8 ?_
  refine x_topL (fun z1 e_z1 => ?_)
  refine x_lmul k179_9 ?_
  refine x_topL (fun z2 e_z2 => ?_)
  refine x_A k179_10 (fun _ => rfl) ?_
  refine x_i2l k179_11 (by first | exact x_rb b_b rfl rfl | exact ⟨by omega, by omega⟩) ?_
  refine x_ladd k179_12 ?_
  refine x_topL (fun z3 e_z3 => ?_)
  refine x_ldc2 k179_13 (z := 96) rfl (by decide +kernel) ?_
  refine x_lsub k179_16 ?_
  refine x_topL (fun z4 e_z4 => ?_)
  refine x_lstore k179_17 (ls' := [(6, vj z4), (0, vi a), (1, vi b), (2, vi d), (3, vi e), (4, vi g), (5, vi h)]) (by decide) rfl ?_
  refine x_A k179_19 (fun _ => rfl) ?_
  refine x_if_ne k179_20 (t := 28) rfl (by first | exact x_rb b_d rfl rfl | exact ⟨by omega, by omega⟩) (fun c5 => ?_) (fun c5 => by exfalso; omega)
  refine x_ldc2 k179_28 (z := 27) rfl (by decide +kernel) ?_
  refine x_A k179_31 (fun _ => rfl) ?_
  refine x_lmul k179_33 ?_
  refine x_topL (fun z6 e_z6 => ?_)
  refine x_A k179_34 (fun _ => rfl) ?_
  refine x_i2l k179_35 (by first | exact x_rb b_d rfl rfl | exact ⟨by omega, by omega⟩) ?_
  refine x_ladd k179_36 ?_
  refine x_topL (fun z7 e_z7 => ?_)
  refine x_ldc2 k179_37 (z := 96) rfl (by decide +kernel) ?_
  refine x_lsub k179_40 ?_
  refine x_topL (fun z8 e_z8 => ?_)
  refine x_lstore k179_41 (ls' := [(6, vj z8), (0, vi a), (1, vi b), (2, vi d), (3, vi e), (4, vi g), (5, vi h)]) (by decide) rfl ?_
  refine x_A k179_43 (fun _ => rfl) ?_
  refine x_if_ne k179_44 (t := 52) rfl (by first | exact x_rb b_e rfl rfl | exact ⟨by omega, by omega⟩) (fun c9 => by exfalso; omega) (fun c9 => ?_)
  refine x_A k179_47 (fun _ => rfl) ?_
  refine x_goto k179_49 (t := 65) rfl ?_
  refine x_lstore k179_65 (ls' := [(6, vj z8), (0, vi a), (1, vi b), (2, vi d), (3, vi e), (4, vi g), (5, vi h)]) (by decide) rfl ?_
  refine x_A k179_67 (fun _ => rfl) ?_
  refine x_if_ne k179_69 (t := 77) rfl (by first | exact x_rb b_g rfl rfl | exact ⟨by omega, by omega⟩) (fun c10 => by exfalso; omega) (fun c10 => ?_)
  refine x_A k179_72 (fun _ => rfl) ?_
  refine x_goto k179_74 (t := 91) rfl ?_
  refine x_lstore k179_91 (ls' := [(6, vj z8), (0, vi a), (1, vi b), (2, vi d), (3, vi e), (4, vi g), (5, vi h)]) (by decide) rfl ?_
  refine x_A k179_93 (fun _ => rfl) ?_
  refine x_if_ne k179_95 (t := 103) rfl (by first | exact x_rb b_h rfl rfl | exact ⟨by omega, by omega⟩) (fun c11 => by exfalso; omega) (fun c11 => ?_)
  refine x_A k179_98 (fun _ => rfl) ?_
  refine x_goto k179_100 (t := 117) rfl ?_
  exact x_lret k179_117 rfl ⟨hG0, f0, z8, rfl, ⟨by omega, by omega⟩, by omega⟩
set_option maxHeartbeats 8000000 in
theorem E_X11_code_c110_c101_c101_c100_c0_c0 (s0 : xS) (hG0 : GI s0) (a : Int) (b_a : 110 ≤ a ∧ a ≤ 110) (b : Int) (b_b : 101 ≤ b ∧ b ≤ 101) (d : Int) (b_d : 101 ≤ d ∧ d ≤ 101) (e : Int) (b_e : 100 ≤ e ∧ e ≤ 100) (g : Int) (b_g : 0 ≤ g ∧ g ≤ 0) (h : Int) (b_h : 0 ≤ h ∧ h ≤ 0) : xe none 179 0 (lv_args 0 [vi a, vi b, vi d, vi e, vi g, vi h]) [] s0 0 0 (fun s' v => GI s' ∧ FL [] s0 s' ∧ ∃ z, v = some (vj z) ∧ in64 z ∧ (z = 279346)) := by
  have f0 : FL [] s0 s0 := FL.rf
  show xe none 179 0 [(0, vi a), (1, vi b), (2, vi d), (3, vi e), (4, vi g), (5, vi h)] [] s0 0 0 _
  refine x_ldc2 k179_0 (z := 27) rfl (by decide +kernel) ?_
  refine x_A k179_3 (fun _ => rfl) ?_
  refine x_i2l k179_4 (by first | exact x_rb b_a rfl rfl | exact ⟨by omega, by omega⟩) ?_
  refine x_ldc2 k179_5 (z := 96) rfl (by decide +kernel) ?_
  refine x_lsub k179_8 ?_
  refine x_topL (fun z1 e_z1 => ?_)
  refine x_lmul k179_9 ?_
  refine x_topL (fun z2 e_z2 => ?_)
  refine x_A k179_10 (fun _ => rfl) ?_
  refine x_i2l k179_11 (by first | exact x_rb b_b rfl rfl | exact ⟨by omega, by omega⟩) ?_
  refine x_ladd k179_12 ?_
  refine x_topL (fun z3 e_z3 => ?_)
  refine x_ldc2 k179_13 (z := 96) rfl (by decide +kernel) ?_
  refine x_lsub k179_16 ?_
  refine x_topL (fun z4 e_z4 => ?_)
  refine x_lstore k179_17 (ls' := [(6, vj z4), (0, vi a), (1, vi b), (2, vi d), (3, vi e), (4, vi g), (5, vi h)]) (by decide) rfl ?_
  refine x_A k179_19 (fun _ => rfl) ?_
  refine x_if_ne k179_20 (t := 28) rfl (by first | exact x_rb b_d rfl rfl | exact ⟨by omega, by omega⟩) (fun c5 => ?_) (fun c5 => by exfalso; omega)
  refine x_ldc2 k179_28 (z := 27) rfl (by decide +kernel) ?_
  refine x_A k179_31 (fun _ => rfl) ?_
  refine x_lmul k179_33 ?_
  refine x_topL (fun z6 e_z6 => ?_)
  refine x_A k179_34 (fun _ => rfl) ?_
  refine x_i2l k179_35 (by first | exact x_rb b_d rfl rfl | exact ⟨by omega, by omega⟩) ?_
  refine x_ladd k179_36 ?_
  refine x_topL (fun z7 e_z7 => ?_)
  refine x_ldc2 k179_37 (z := 96) rfl (by decide +kernel) ?_
  refine x_lsub k179_40 ?_
  refine x_topL (fun z8 e_z8 => ?_)
  refine x_lstore k179_41 (ls' := [(6, vj z8), (0, vi a), (1, vi b), (2, vi d), (3, vi e), (4, vi g), (5, vi h)]) (by decide) rfl ?_
  refine x_A k179_43 (fun _ => rfl) ?_
  refine x_if_ne k179_44 (t := 52) rfl (by first | exact x_rb b_e rfl rfl | exact ⟨by omega, by omega⟩) (fun c9 => ?_) (fun c9 => by exfalso; omega)
  refine x_ldc2 k179_52 (z := 27) rfl (by decide +kernel) ?_
  refine x_A k179_55 (fun _ => rfl) ?_
  refine x_lmul k179_57 ?_
  refine x_topL (fun z10 e_z10 => ?_)
  refine x_A k179_58 (fun _ => rfl) ?_
  refine x_i2l k179_59 (by first | exact x_rb b_e rfl rfl | exact ⟨by omega, by omega⟩) ?_
  refine x_ladd k179_60 ?_
  refine x_topL (fun z11 e_z11 => ?_)
  refine x_ldc2 k179_61 (z := 96) rfl (by decide +kernel) ?_
  refine x_lsub k179_64 ?_
  refine x_topL (fun z12 e_z12 => ?_)
  refine x_lstore k179_65 (ls' := [(6, vj z12), (0, vi a), (1, vi b), (2, vi d), (3, vi e), (4, vi g), (5, vi h)]) (by decide) rfl ?_
  refine x_A k179_67 (fun _ => rfl) ?_
  refine x_if_ne k179_69 (t := 77) rfl (by first | exact x_rb b_g rfl rfl | exact ⟨by omega, by omega⟩) (fun c13 => by exfalso; omega) (fun c13 => ?_)
  refine x_A k179_72 (fun _ => rfl) ?_
  refine x_goto k179_74 (t := 91) rfl ?_
  refine x_lstore k179_91 (ls' := [(6, vj z12), (0, vi a), (1, vi b), (2, vi d), (3, vi e), (4, vi g), (5, vi h)]) (by decide) rfl ?_
  refine x_A k179_93 (fun _ => rfl) ?_
  refine x_if_ne k179_95 (t := 103) rfl (by first | exact x_rb b_h rfl rfl | exact ⟨by omega, by omega⟩) (fun c14 => by exfalso; omega) (fun c14 => ?_)
  refine x_A k179_98 (fun _ => rfl) ?_
  refine x_goto k179_100 (t := 117) rfl ?_
  exact x_lret k179_117 rfl ⟨hG0, f0, z12, rfl, ⟨by omega, by omega⟩, by omega⟩
set_option maxHeartbeats 8000000 in
theorem E_X11_code_c109_c111_c115_c116_c0_c0 (s0 : xS) (hG0 : GI s0) (a : Int) (b_a : 109 ≤ a ∧ a ≤ 109) (b : Int) (b_b : 111 ≤ b ∧ b ≤ 111) (d : Int) (b_d : 115 ≤ d ∧ d ≤ 115) (e : Int) (b_e : 116 ≤ e ∧ e ≤ 116) (g : Int) (b_g : 0 ≤ g ∧ g ≤ 0) (h : Int) (b_h : 0 ≤ h ∧ h ≤ 0) : xe none 179 0 (lv_args 0 [vi a, vi b, vi d, vi e, vi g, vi h]) [] s0 0 0 (fun s' v => GI s' ∧ FL [] s0 s' ∧ ∃ z, v = some (vj z) ∧ in64 z ∧ (z = 267347)) := by
  have f0 : FL [] s0 s0 := FL.rf
  show xe none 179 0 [(0, vi a), (1, vi b), (2, vi d), (3, vi e), (4, vi g), (5, vi h)] [] s0 0 0 _
  refine x_ldc2 k179_0 (z := 27) rfl (by decide +kernel) ?_
  refine x_A k179_3 (fun _ => rfl) ?_
  refine x_i2l k179_4 (by first | exact x_rb b_a rfl rfl | exact ⟨by omega, by omega⟩) ?_
  refine x_ldc2 k179_5 (z := 96) rfl (by decide +kernel) ?_
  refine x_lsub k179_8 ?_
  refine x_topL (fun z1 e_z1 => ?_)
  refine x_lmul k179_9 ?_
  refine x_topL (fun z2 e_z2 => ?_)
  refine x_A k179_10 (fun _ => rfl) ?_
  refine x_i2l k179_11 (by first | exact x_rb b_b rfl rfl | exact ⟨by omega, by omega⟩) ?_
  refine x_ladd k179_12 ?_
  refine x_topL (fun z3 e_z3 => ?_)
  refine x_ldc2 k179_13 (z := 96) rfl (by decide +kernel) ?_
  refine x_lsub k179_16 ?_
  refine x_topL (fun z4 e_z4 => ?_)
  refine x_lstore k179_17 (ls' := [(6, vj z4), (0, vi a), (1, vi b), (2, vi d), (3, vi e), (4, vi g), (5, vi h)]) (by decide) rfl ?_
  refine x_A k179_19 (fun _ => rfl) ?_
  refine x_if_ne k179_20 (t := 28) rfl (by first | exact x_rb b_d rfl rfl | exact ⟨by omega, by omega⟩) (fun c5 => ?_) (fun c5 => by exfalso; omega)
  refine x_ldc2 k179_28 (z := 27) rfl (by decide +kernel) ?_
  refine x_A k179_31 (fun _ => rfl) ?_
  refine x_lmul k179_33 ?_
  refine x_topL (fun z6 e_z6 => ?_)
  refine x_A k179_34 (fun _ => rfl) ?_
  refine x_i2l k179_35 (by first | exact x_rb b_d rfl rfl | exact ⟨by omega, by omega⟩) ?_
  refine x_ladd k179_36 ?_
  refine x_topL (fun z7 e_z7 => ?_)
  refine x_ldc2 k179_37 (z := 96) rfl (by decide +kernel) ?_
  refine x_lsub k179_40 ?_
  refine x_topL (fun z8 e_z8 => ?_)
  refine x_lstore k179_41 (ls' := [(6, vj z8), (0, vi a), (1, vi b), (2, vi d), (3, vi e), (4, vi g), (5, vi h)]) (by decide) rfl ?_
  refine x_A k179_43 (fun _ => rfl) ?_
  refine x_if_ne k179_44 (t := 52) rfl (by first | exact x_rb b_e rfl rfl | exact ⟨by omega, by omega⟩) (fun c9 => ?_) (fun c9 => by exfalso; omega)
  refine x_ldc2 k179_52 (z := 27) rfl (by decide +kernel) ?_
  refine x_A k179_55 (fun _ => rfl) ?_
  refine x_lmul k179_57 ?_
  refine x_topL (fun z10 e_z10 => ?_)
  refine x_A k179_58 (fun _ => rfl) ?_
  refine x_i2l k179_59 (by first | exact x_rb b_e rfl rfl | exact ⟨by omega, by omega⟩) ?_
  refine x_ladd k179_60 ?_
  refine x_topL (fun z11 e_z11 => ?_)
  refine x_ldc2 k179_61 (z := 96) rfl (by decide +kernel) ?_
  refine x_lsub k179_64 ?_
  refine x_topL (fun z12 e_z12 => ?_)
  refine x_lstore k179_65 (ls' := [(6, vj z12), (0, vi a), (1, vi b), (2, vi d), (3, vi e), (4, vi g), (5, vi h)]) (by decide) rfl ?_
  refine x_A k179_67 (fun _ => rfl) ?_
  refine x_if_ne k179_69 (t := 77) rfl (by first | exact x_rb b_g rfl rfl | exact ⟨by omega, by omega⟩) (fun c13 => by exfalso; omega) (fun c13 => ?_)
  refine x_A k179_72 (fun _ => rfl) ?_
  refine x_goto k179_74 (t := 91) rfl ?_
  refine x_lstore k179_91 (ls' := [(6, vj z12), (0, vi a), (1, vi b), (2, vi d), (3, vi e), (4, vi g), (5, vi h)]) (by decide) rfl ?_
  refine x_A k179_93 (fun _ => rfl) ?_
  refine x_if_ne k179_95 (t := 103) rfl (by first | exact x_rb b_h rfl rfl | exact ⟨by omega, by omega⟩) (fun c14 => by exfalso; omega) (fun c14 => ?_)
  refine x_A k179_98 (fun _ => rfl) ?_
  refine x_goto k179_100 (t := 117) rfl ?_
  exact x_lret k179_117 rfl ⟨hG0, f0, z12, rfl, ⟨by omega, by omega⟩, by omega⟩
