set_option maxHeartbeats 8000000 in
theorem E_X11_code_c115_c116_c114_c105_c107_c101 (s0 : xS) (hG0 : GI s0) (a : Int) (b_a : 115 ≤ a ∧ a ≤ 115) (b : Int) (b_b : 116 ≤ b ∧ b ≤ 116) (d : Int) (b_d : 114 ≤ d ∧ d ≤ 114) (e : Int) (b_e : 105 ≤ e ∧ e ≤ 105) (g : Int) (b_g : 107 ≤ g ∧ g ≤ 107) (h : Int) (b_h : 101 ≤ h ∧ h ≤ 101) : xe none 179 0 (lv_args 0 [vi a, vi b, vi d, vi e, vi g, vi h]) [] s0 0 0 (fun s' v => GI s' ∧ FL [] s0 s' ∧ ∃ z, v = some (vj z) ∧ in64 z ∧ (z = 283619210)) := by
  have f0 : FL [] s0 s0 := FL.rf
  show xe none 179 0 [(0, vi a), (1, vi b), (2, vi d), (3, vi e), (4, vi g), (5, vi h)] [] s0 0 0 _
  refine x_ldc2 k179_0 (z := 27) rfl (by decide +kernel) ?_
  refine x_A k179_3 (fun _ => rfl) ?_
  refine x_i2l k179_4 (by first | exact x_rb b_a rfl rfl | exact ⟨by omega, by omega⟩) ?_
  refine x_ldc2 k179_5 (z := 96) rfl (by decide +kernel) ?_
  refine x_lsub k179_8 ?_
  refine x_topL (fun z1 e_z1 => ?_)
  refine x_lmul k179_9 ?_
  refine x_topL (fun z2 e_z2 => ?_)
  refine x_A k179_10 (fun _ => rfl) ?_
  refine x_i2l k179_11 (by first | exact x_rb b_b rfl rfl | exact ⟨by omega, by omega⟩) ?_
  refine x_ladd k179_12 ?_
  refine x_topL (fun z3 e_z3 => ?_)
  refine x_ldc2 k179_13 (z := 96) rfl (by decide +kernel) ?_
  refine x_lsub k179_16 ?_
  refine x_topL (fun z4 e_z4 => ?_)
  refine x_lstore k179_17 (ls' := [(6, vj z4), (0, vi a), (1, vi b), (2, vi d), (3, vi e), (4, vi g), (5, vi h)]) (by decide) rfl ?_
  refine x_A k179_19 (fun _ => rfl) ?_
  refine x_if_ne k179_20 (t := 28) rfl (by first | exact x_rb b_d rfl rfl | exact ⟨by omega, by omega⟩) (fun c5 => ?_) (fun c5 => by exfalso; omega)
  refine x_ldc2 k179_28 (z := 27) rfl (by decide +kernel) ?_
  refine x_A k179_31 (fun _ => rfl) ?_
  refine x_lmul k179_33 ?_
  refine x_topL (fun z6 e_z6 => ?_)
  refine x_A k179_34 (fun _ => rfl) ?_
  refine x_i2l k179_35 (by first | exact x_rb b_d rfl rfl | exact ⟨by omega, by omega⟩) ?_
  refine x_ladd k179_36 ?_
  refine x_topL (fun z7 e_z7 => ?_)
  refine x_ldc2 k179_37 (z := 96) rfl (by decide +kernel) ?_
  refine x_lsub k179_40 ?_
  refine x_topL (fun z8 e_z8 => ?_)
  refine x_lstore k179_41 (ls' := [(6, vj z8), (0, vi a), (1, vi b), (2, vi d), (3, vi e), (4, vi g), (5, vi h)]) (by decide) rfl ?_
  refine x_A k179_43 (fun _ => rfl) ?_
  refine x_if_ne k179_44 (t := 52) rfl (by first | exact x_rb b_e rfl rfl | exact ⟨by omega, by omega⟩) (fun c9 => ?_) (fun c9 => by exfalso; omega)
  refine x_ldc2 k179_52 (z := 27) rfl (by decide +kernel) ?_
  refine x_A k179_55 (fun _ => rfl) ?_
  refine x_lmul k179_57 ?_
  refine x_topL (fun z10 e_z10 => ?_)
  refine x_A k179_58 (fun _ => rfl) ?_
  refine x_i2l k179_59 (by first | exact x_rb b_e rfl rfl | exact ⟨by omega, by omega⟩) ?_
  refine x_ladd k179_60 ?_
  refine x_topL (fun z11 e_z11 => ?_)
  refine x_ldc2 k179_61 (z := 96) rfl (by decide +kernel) ?_
  refine x_lsub k179_64 ?_
  refine x_topL (fun z12 e_z12 => ?_)
  refine x_lstore k179_65 (ls' := [(6, vj z12), (0, vi a), (1, vi b), (2, vi d), (3, vi e), (4, vi g), (5, vi h)]) (by decide) rfl ?_
  refine x_A k179_67 (fun _ => rfl) ?_
  refine x_if_ne k179_69 (t := 77) rfl (by first | exact x_rb b_g rfl rfl | exact ⟨by omega, by omega⟩) (fun c13 => ?_) (fun c13 => by exfalso; omega)
  refine x_ldc2 k179_77 (z := 27) rfl (by decide +kernel) ?_
  refine x_A k179_80 (fun _ => rfl) ?_
  refine x_lmul k179_82 ?_
  refine x_topL (fun z14 e_z14 => ?_)
  refine x_A k179_83 (fun _ => rfl) ?_
  refine x_i2l k179_85 (by first | exact x_rb b_g rfl rfl | exact ⟨by omega, by omega⟩) ?_
  refine x_ladd k179_86 ?_
  refine x_topL (fun z15 e_z15 => ?_)
  refine x_ldc2 k179_87 (z := 96) rfl (by decide +kernel) ?_
  refine x_lsub k179_90 ?_
  refine x_topL (fun z16 e_z16 => ?_)
  refine x_lstore k179_91 (ls' := [(6, vj z16), (0, vi a), (1, vi b), (2, vi d), (3, vi e), (4, vi g), (5, vi h)]) (by decide) rfl ?_
  refine x_A k179_93 (fun _ => rfl) ?_
  refine x_if_ne k179_95 (t := 103) rfl (by first | exact x_rb b_h rfl rfl | exact ⟨by omega, by omega⟩) (fun c17 => ?_) (fun c17 => by exfalso; omega)
  refine x_ldc2 k179_103 (z := 27) rfl (by decide +kernel) ?_
  refine x_A k179_106 (fun _ => rfl) ?_
  refine x_lmul k179_108 ?_
  refine x_topL (fun z18 e_z18 => ?_)
  refine x_A k179_109 (fun _ => rfl) ?_
  refine x_i2l k179_111 (by first | exact x_rb b_h rfl rfl | exact ⟨by omega, by omega⟩) ?_
  refine x_ladd k179_112 ?_
  refine x_topL (fun z19 e_z19 => ?_)
  refine x_ldc2 k179_113 (z := 96) rfl (by decide +kernel) ?_
  refine x_lsub k179_116 ?_
  refine x_topL (fun z20 e_z20 => ?_)
  exact x_lret k179_117 rfl ⟨hG0, f0, z20, rfl, ⟨by omega, by omega⟩, by omega⟩
set_option maxHeartbeats 8000000 in
theorem E_X11_code_c117_c110_c100_c101_c114_c0 (s0 : xS) (hG0 : GI s0) (a : Int) (b_a : 117 ≤ a ∧ a ≤ 117) (b : Int) (b_b : 110 ≤ b ∧ b ≤ 110) (d : Int) (b_d : 100 ≤ d ∧ d ≤ 100) (e : Int) (b_e : 101 ≤ e ∧ e ≤ 101) (g : Int) (b_g : 114 ≤ g ∧ g ≤ 114) (h : Int) (b_h : 0 ≤ h ∧ h ≤ 0) : xe none 179 0 (lv_args 0 [vi a, vi b, vi d, vi e, vi g, vi h]) [] s0 0 0 (fun s' v => GI s' ∧ FL [] s0 s' ∧ ∃ z, v = some (vj z) ∧ in64 z ∧ (z = 11438892)) := by
  have f0 : FL [] s0 s0 := FL.rf
  show xe none 179 0 [(0, vi a), (1, vi b), (2, vi d), (3, vi e), (4, vi g), (5, vi h)] [] s0 0 0 _
  refine x_ldc2 k179_0 (z := 27) rfl (by decide +kernel) ?_
  refine x_A k179_3 (fun _ => rfl) ?_
  refine x_i2l k179_4 (by first | exact x_rb b_a rfl rfl | exact ⟨by omega, by omega⟩) ?_
  refine x_ldc2 k179_5 (z := 96) rfl (by decide +kernel) ?_
  refine x_lsub k179_8 ?_
  refine x_topL (fun z1 e_z1 => ?_)
  refine x_lmul k179_9 ?_
  refine x_topL (fun z2 e_z2 => ?_)
  refine x_A k179_10 (fun _ => rfl) ?_
  refine x_i2l k179_11 (by first | exact x_rb b_b rfl rfl | exact ⟨by omega, by omega⟩) ?_
  refine x_ladd k179_12 ?_
  refine x_topL (fun z3 e_z3 => ?_)
  refine x_ldc2 k179_13 (z := 96) rfl (by decide +kernel) ?_
  refine x_lsub k179_16 ?_
  refine x_topL (fun z4 e_z4 => ?_)
  refine x_lstore k179_17 (ls' := [(6, vj z4), (0, vi a), (1, vi b), (2, vi d), (3, vi e), (4, vi g), (5, vi h)]) (by decide) rfl ?_
  refine x_A k179_19 (fun _ => rfl) ?_
  refine x_if_ne k179_20 (t := 28) rfl (by first | exact x_rb b_d rfl rfl | exact ⟨by omega, by omega⟩) (fun c5 => ?_) (fun c5 => by exfalso; omega)
  refine x_ldc2 k179_28 (z := 27) rfl (by decide +kernel) ?_
  refine x_A k179_31 (fun _ => rfl) ?_
  refine x_lmul k179_33 ?_
  refine x_topL (fun z6 e_z6 => ?_)
  refine x_A k179_34 (fun _ => rfl) ?_
  refine x_i2l k179_35 (by first | exact x_rb b_d rfl rfl | exact ⟨by omega, by omega⟩) ?_
  refine x_ladd k179_36 ?_
  refine x_topL (fun z7 e_z7 => ?_)
  refine x_ldc2 k179_37 (z := 96) rfl (by decide +kernel) ?_
  refine x_lsub k179_40 ?_
  refine x_topL (fun z8 e_z8 => ?_)
  refine x_lstore k179_41 (ls' := [(6, vj z8), (0, vi a), (1, vi b), (2, vi d), (3, vi e), (4, vi g), (5, vi h)]) (by decide) rfl ?_
  refine x_A k179_43 (fun _ => rfl) ?_
  refine x_if_ne k179_44 (t := 52) rfl (by first | exact x_rb b_e rfl rfl | exact ⟨by omega, by omega⟩) (fun c9 => ?_) (fun c9 => by exfalso; omega)
  refine x_ldc2 k179_52 (z := 27) rfl (by decide +kernel) ?_
  refine x_A k179_55 (fun _ => rfl) ?_
  refine x_lmul k179_57 ?_
  refine x_topL (fun z10 e_z10 => ?_)
  refine x_A k179_58 (fun _ => rfl) ?_
  refine x_i2l k179_59 (by first | exact x_rb b_e rfl rfl | exact ⟨by omega, by omega⟩) ?_
  refine x_ladd k179_60 ?_
  refine x_topL (fun z11 e_z11 => ?_)
  refine x_ldc2 k179_61 (z := 96) rfl (by decide +kernel) ?_
  refine x_lsub k179_64 ?_
  refine x_topL (fun z12 e_z12 => ?_)
  refine x_lstore k179_65 (ls' := [(6, vj z12), (0, vi a), (1, vi b), (2, vi d), (3, vi e), (4, vi g), (5, vi h)]) (by decide) rfl ?_
  refine x_A k179_67 (fun _ => rfl) ?_
  refine x_if_ne k179_69 (t := 77) rfl (by first | exact x_rb b_g rfl rfl | exact ⟨by omega, by omega⟩) (fun c13 => ?_) (fun c13 => by exfalso; omega)
  refine x_ldc2 k179_77 (z := 27) rfl (by decide +kernel) ?_
  refine x_A k179_80 (fun _ => rfl) ?_
  refine x_lmul k179_82 ?_
  refine x_topL (fun z14 e_z14 => ?_)
  refine x_A k179_83 (fun _ => rfl) ?_
  refine x_i2l k179_85 (by first | exact x_rb b_g rfl rfl | exact ⟨by omega, by omega⟩) ?_
  refine x_ladd k179_86 ?_
  refine x_topL (fun z15 e_z15 => ?_)
  refine x_ldc2 k179_87 (z := 96) rfl (by decide +kernel) ?_
  refine x_lsub k179_90 ?_
  refine x_topL (fun z16 e_z16 => ?_)
  refine x_lstore k179_91 (ls' := [(6, vj z16), (0, vi a), (1, vi b), (2, vi d), (3, vi e), (4, vi g), (5, vi h)]) (by decide) rfl ?_
  refine x_A k179_93 (fun _ => rfl) ?_
  refine x_if_ne k179_95 (t := 103) rfl (by first | exact x_rb b_h rfl rfl | exact ⟨by omega, by omega⟩) (fun c17 => by exfalso; omega) (fun c17 => ?_)
  refine x_A k179_98 (fun _ => rfl) ?_
  refine x_goto k179_100 (t := 117) rfl ?_
  exact x_lret k179_117 rfl ⟨hG0, f0, z16, rfl, ⟨by omega, by omega⟩, by omega⟩
set_option maxHeartbeats 8000000 in
theorem E_X11_code_c119_c105_c116_c104_c0_c0 (s0 : xS) (hG0 : GI s0) (a : Int) (b_a : 119 ≤ a ∧ a ≤ 119) (b : Int) (b_b : 105 ≤ b ∧ b ≤ 105) (d : Int) (b_d : 116 ≤ d ∧ d ≤ 116) (e : Int) (b_e : 104 ≤ e ∧ e ≤ 104) (g : Int) (b_g : 0 ≤ g ∧ g ≤ 0) (h : Int) (b_h : 0 ≤ h ∧ h ≤ 0) : xe none 179 0 (lv_args 0 [vi a, vi b, vi d, vi e, vi g, vi h]) [] s0 0 0 (fun s' v => GI s' ∧ FL [] s0 s' ∧ ∃ z, v = some (vj z) ∧ in64 z ∧ (z = 459818)) := by
  have f0 : FL [] s0 s0 := FL.rf
  show xe none 179 0 [(0, vi a), (1, vi b), (2, vi d), (3, vi e), (4, vi g), (5, vi h)] [] s0 0 0 _
  refine x_ldc2 k179_0 (z := 27) rfl (by decide +kernel) ?_
  refine x_A k179_3 (fun _ => rfl) ?_
  refine x_i2l k179_4 (by first | exact x_rb b_a rfl rfl | exact ⟨by omega, by omega⟩) ?_
  refine x_ldc2 k179_5 (z := 96) rfl (by decide +kernel) ?_
  refine x_lsub k179_8 ?_
  refine x_topL (fun z1 e_z1 => ?_)
  refine x_lmul k179_9 ?_
  refine x_topL (fun z2 e_z2 => ?_)
  refine x_A k179_10 (fun _ => rfl) ?_
  refine x_i2l k179_11 (by first | exact x_rb b_b rfl rfl | exact ⟨by omega, by omega⟩) ?_
  refine x_ladd k179_12 ?_
  refine x_topL (fun z3 e_z3 => ?_)
  refine x_ldc2 k179_13 (z := 96) rfl (by decide +kernel) ?_
  refine x_lsub k179_16 ?_
  refine x_topL (fun z4 e_z4 => ?_)
  refine x_lstore k179_17 (ls' := [(6, vj z4), (0, vi a), (1, vi b), (2, vi d), (3, vi e), (4, vi g), (5, vi h)]) (by decide) rfl ?_
  refine x_A k179_19 (fun _ => rfl) ?_
  refine x_if_ne k179_20 (t := 28) rfl (by first | exact x_rb b_d rfl rfl | exact ⟨by omega, by omega⟩) (fun c5 => ?_) (fun c5 => by exfalso; omega)
  refine x_ldc2 k179_28 (z := 27) rfl (by decide +kernel) ?_
  refine x_A k179_31 (fun _ => rfl) ?_
  refine x_lmul k179_33 ?_
  refine x_topL (fun z6 e_z6 => ?_)
  refine x_A k179_34 (fun _ => rfl) ?_
  refine x_i2l k179_35 (by first | exact x_rb b_d rfl rfl | exact ⟨by omega, by omega⟩) ?_
  refine x_ladd k179_36 ?_
  refine x_topL (fun z7 e_z7 => ?_)
  refine x_ldc2 k179_37 (z := 96) rfl (by decide +kernel) ?_
  refine x_lsub k179_40 ?_
  refine x_topL (fun z8 e_z8 => ?_)
  refine x_lstore k179_41 (ls' := [(6, vj z8), (0, vi a), (1, vi b), (2, vi d), (3, vi e), (4, vi g), (5, vi h)]) (by decide) rfl ?_
  refine x_A k179_43 (fun _ => rfl) ?_
  refine x_if_ne k179_44 (t := 52) rfl (by first | exact x_rb b_e rfl rfl | exact ⟨by omega, by omega⟩) (fun c9 => ?_) (fun c9 => by exfalso; omega)
  refine x_ldc2 k179_52 (z := 27) rfl (by decide +kernel) ?_
  refine x_A k179_55 (fun _ => rfl) ?_
  refine x_lmul k179_57 ?_
  refine x_topL (fun z10 e_z10 => ?_)
  refine x_A k179_58 (fun _ => rfl) ?_
  refine x_i2l k179_59 (by first | exact x_rb b_e rfl rfl | exact ⟨by omega, by omega⟩) ?_
  refine x_ladd k179_60 ?_
  refine x_topL (fun z11 e_z11 => ?_)
  refine x_ldc2 k179_61 (z := 96) rfl (by decide +kernel) ?_
  refine x_lsub k179_64 ?_
  refine x_topL (fun z12 e_z12 => ?_)
  refine x_lstore k179_65 (ls' := [(6, vj z12), (0, vi a), (1, vi b), (2, vi d), (3, vi e), (4, vi g), (5, vi h)]) (by decide) rfl ?_
  refine x_A k179_67 (fun _ => rfl) ?_
  refine x_if_ne k179_69 (t := 77) rfl (by first | exact x_rb b_g rfl rfl | exact ⟨by omega, by omega⟩) (fun c13 => by exfalso; omega) (fun c13 => ?_)
  refine x_A k179_72 (fun _ => rfl) ?_
  refine x_goto k179_74 (t := 91) rfl ?_
  refine x_lstore k179_91 (ls' := [(6, vj z12), (0, vi a), (1, vi b), (2, vi d), (3, vi e), (4, vi g), (5, vi h)]) (by decide) rfl ?_
  refine x_A k179_93 (fun _ => rfl) ?_
  refine x_if_ne k179_95 (t := 103) rfl (by first | exact x_rb b_h rfl rfl | exact ⟨by omega, by omega⟩) (fun c14 => by exfalso; omega) (fun c14 => ?_)
  refine x_A k179_98 (fun _ => rfl) ?_
  refine x_goto k179_100 (t := 117) rfl ?_
  exact x_lret k179_117 rfl ⟨hG0, f0, z12, rfl, ⟨by omega, by omega⟩, by omega⟩
set_option maxHeartbeats 8000000 in
theorem E_X11_senseOf_256 (s0 : xS) (hG0 : GI s0)  : xe none 182 0 (lv_args 0 [.ref 256]) [] s0 0 0 (fun s' v => GI s' ∧ FL [] s0 s' ∧ ∃ z, v = some (vi z) ∧ ((-1) ≤ z ∧ z ≤ 2) ∧ (z = snw (s0 256 37))) := by
  have f0 : FL [] s0 s0 := FL.rf
  show xe none 182 0 [(0, .ref 256)] [] s0 0 0 _
  refine x_A k182_0 (fun _ => rfl) ?_
  refine x_getJ k182_1 (f := 37) rfl (q := 256) (n := 62) (kd := 15) ⟨by decide, rfl⟩ (by decide) rfl ?_
  refine x_topL (fun z1 e_z1 => ?_)
  have b_z1 : in64 z1 := by rw [e_z1]; exact hG0 256 37
  refine x_bipush k182_4 (by decide +kernel) ?_
  refine x_bipush k182_6 (by decide +kernel) ?_
  refine x_bipush k182_8 (by decide +kernel) ?_
  refine x_bipush k182_10 (by decide +kernel) ?_
  refine x_bipush k182_12 (by decide +kernel) ?_
  refine x_A k182_14 (fun _ => rfl) ?_
  refine x_callS k182_15 (y := 179) (n := 6) (w0 := 2) (w1 := 6) (as := [vi 107, vi 101, vi 101, vi 112, vi 115, vi 0]) (rest := [vj z1]) (by decide +kernel) rfl rfl rfl rfl (xe_mono (E_X11_code_c107_c101_c101_c112_c115_c0 s0 hG0 107 ⟨by decide, by decide⟩ 101 ⟨by decide, by decide⟩ 101 ⟨by decide, by decide⟩ 112 ⟨by decide, by decide⟩ 115 ⟨by decide, by decide⟩ 0 ⟨by decide, by decide⟩) ?_)
  rintro s3 v ⟨-, t_s3, z2, rfl, b_z2, xp_z2⟩
  rw [t_s3.nil]
  try rw [t_s3.nil] at xp_z2
  show xe none 182 18 [(0, .ref 256)] [vj z2, vj z1] s0 0 0 _
  refine x_lc_ne k182_18 k182_19 (t := 26) rfl b_z1 b_z2 (fun c4 => ?_) (fun c4 => ?_)
  · skip
    refine x_A k182_26 (fun _ => rfl) ?_
    refine x_getJ k182_27 (f := 37) rfl (q := 256) (n := 62) (kd := 15) ⟨by decide, rfl⟩ (by decide) rfl ?_
    refine x_topL (fun z5 e_z5 => ?_)
    have b_z5 : in64 z5 := by rw [e_z5]; exact hG0 256 37
    refine x_bipush k182_30 (by decide +kernel) ?_
    refine x_bipush k182_32 (by decide +kernel) ?_
    refine x_bipush k182_34 (by decide +kernel) ?_
    refine x_bipush k182_36 (by decide +kernel) ?_
    refine x_bipush k182_38 (by decide +kernel) ?_
    refine x_A k182_40 (fun _ => rfl) ?_
    refine x_callS k182_41 (y := 179) (n := 6) (w0 := 2) (w1 := 6) (as := [vi 116, vi 117, vi 114, vi 110, vi 115, vi 0]) (rest := [vj z5]) (by decide +kernel) rfl rfl rfl rfl (xe_mono (E_X11_code_c116_c117_c114_c110_c115_c0 s0 hG0 116 ⟨by decide, by decide⟩ 117 ⟨by decide, by decide⟩ 114 ⟨by decide, by decide⟩ 110 ⟨by decide, by decide⟩ 115 ⟨by decide, by decide⟩ 0 ⟨by decide, by decide⟩) ?_)
    rintro s7 v ⟨-, t_s7, z6, rfl, b_z6, xp_z6⟩
    rw [t_s7.nil]
    try rw [t_s7.nil] at xp_z6
    show xe none 182 44 [(0, .ref 256)] [vj z6, vj z5] s0 0 0 _
    refine x_lc_ne k182_44 k182_45 (t := 52) rfl b_z5 b_z6 (fun c8 => ?_) (fun c8 => ?_)
    · skip
      refine x_A k182_52 (fun _ => rfl) ?_
      refine x_getJ k182_53 (f := 37) rfl (q := 256) (n := 62) (kd := 15) ⟨by decide, rfl⟩ (by decide) rfl ?_
      refine x_topL (fun z9 e_z9 => ?_)
      have b_z9 : in64 z9 := by rw [e_z9]; exact hG0 256 37
      refine x_bipush k182_56 (by decide +kernel) ?_
      refine x_bipush k182_58 (by decide +kernel) ?_
      refine x_bipush k182_60 (by decide +kernel) ?_
      refine x_bipush k182_62 (by decide +kernel) ?_
      refine x_bipush k182_64 (by decide +kernel) ?_
      refine x_bipush k182_66 (by decide +kernel) ?_
      refine x_callS k182_68 (y := 179) (n := 6) (w0 := 2) (w1 := 6) (as := [vi 114, vi 97, vi 105, vi 115, vi 101, vi 115]) (rest := [vj z9]) (by decide +kernel) rfl rfl rfl rfl (xe_mono (E_X11_code_c114_c97_c105_c115_c101_c115 s0 hG0 114 ⟨by decide, by decide⟩ 97 ⟨by decide, by decide⟩ 105 ⟨by decide, by decide⟩ 115 ⟨by decide, by decide⟩ 101 ⟨by decide, by decide⟩ 115 ⟨by decide, by decide⟩) ?_)
      rintro s11 v ⟨-, t_s11, z10, rfl, b_z10, xp_z10⟩
      rw [t_s11.nil]
      try rw [t_s11.nil] at xp_z10
      show xe none 182 71 [(0, .ref 256)] [vj z10, vj z9] s0 0 0 _
      refine x_lc_ne k182_71 k182_72 (t := 79) rfl b_z9 b_z10 (fun c12 => ?_) (fun c12 => ?_)
      · skip
        refine x_A k182_79 (fun _ => rfl) ?_
        exact x_iret k182_80 rfl ⟨hG0, f0, (-1), rfl, ⟨by decide, by decide⟩, (by have sc := snw_cs (s0 256 37); omega)⟩
      · skip
        refine x_A k182_75 (fun _ => rfl) ?_
        refine x_goto k182_76 (t := 80) rfl ?_
        exact x_iret k182_80 rfl ⟨hG0, f0, 2, rfl, ⟨by decide, by decide⟩, (by have sc := snw_cs (s0 256 37); omega)⟩
    · skip
      refine x_A k182_48 (fun _ => rfl) ?_
      refine x_goto k182_49 (t := 80) rfl ?_
      exact x_iret k182_80 rfl ⟨hG0, f0, 1, rfl, ⟨by decide, by decide⟩, (by have sc := snw_cs (s0 256 37); omega)⟩
  · skip
    refine x_A k182_22 (fun _ => rfl) ?_
    refine x_goto k182_23 (t := 80) rfl ?_
    exact x_iret k182_80 rfl ⟨hG0, f0, 0, rfl, ⟨by decide, by decide⟩, (by have sc := snw_cs (s0 256 37); omega)⟩
set_option maxHeartbeats 8000000 in
theorem E_X11_keyOf_256 (s0 : xS) (hG0 : GI s0)  : xe none 183 0 (lv_args 0 [.ref 256]) [] s0 0 0 (fun s' v => GI s' ∧ FL [] s0 s' ∧ ∃ z, v = some (vi z) ∧ ((-1) ≤ z ∧ z ≤ 5) ∧ ((z = -1 ∧ kww (s0 256 37) = -1) ∨ (0 ≤ z ∧ z + 1 = kww (s0 256 37)))) := by
  have f0 : FL [] s0 s0 := FL.rf
  show xe none 183 0 [(0, .ref 256)] [] s0 0 0 _
  refine x_A k183_0 (fun _ => rfl) ?_
  refine x_getJ k183_1 (f := 37) rfl (q := 256) (n := 62) (kd := 15) ⟨by decide, rfl⟩ (by decide) rfl ?_
  refine x_topL (fun z1 e_z1 => ?_)
  have b_z1 : in64 z1 := by rw [e_z1]; exact hG0 256 37
  refine x_bipush k183_4 (by decide +kernel) ?_
  refine x_bipush k183_6 (by decide +kernel) ?_
  refine x_bipush k183_8 (by decide +kernel) ?_
  refine x_A k183_10 (fun _ => rfl) ?_
  refine x_A k183_11 (fun _ => rfl) ?_
  refine x_A k183_12 (fun _ => rfl) ?_
  refine x_callS k183_13 (y := 179) (n := 6) (w0 := 2) (w1 := 6) (as := [vi 107, vi 101, vi 121, vi 0, vi 0, vi 0]) (rest := [vj z1]) (by decide +kernel) rfl rfl rfl rfl (xe_mono (E_X11_code_c107_c101_c121_c0_c0_c0 s0 hG0 107 ⟨by decide, by decide⟩ 101 ⟨by decide, by decide⟩ 121 ⟨by decide, by decide⟩ 0 ⟨by decide, by decide⟩ 0 ⟨by decide, by decide⟩ 0 ⟨by decide, by decide⟩) ?_)
  rintro s3 v ⟨-, t_s3, z2, rfl, b_z2, xp_z2⟩
  rw [t_s3.nil]
  try rw [t_s3.nil] at xp_z2
  show xe none 183 16 [(0, .ref 256)] [vj z2, vj z1] s0 0 0 _
  refine x_lc_ne k183_16 k183_17 (t := 24) rfl b_z1 b_z2 (fun c4 => ?_) (fun c4 => ?_)
  · skip
    refine x_A k183_24 (fun _ => rfl) ?_
    refine x_getJ k183_25 (f := 37) rfl (q := 256) (n := 62) (kd := 15) ⟨by decide, rfl⟩ (by decide) rfl ?_
    refine x_topL (fun z5 e_z5 => ?_)
    have b_z5 : in64 z5 := by rw [e_z5]; exact hG0 256 37
    refine x_bipush k183_28 (by decide +kernel) ?_
    refine x_bipush k183_30 (by decide +kernel) ?_
    refine x_bipush k183_32 (by decide +kernel) ?_
    refine x_bipush k183_34 (by decide +kernel) ?_
    refine x_bipush k183_36 (by decide +kernel) ?_
    refine x_A k183_38 (fun _ => rfl) ?_
    refine x_callS k183_39 (y := 179) (n := 6) (w0 := 2) (w1 := 6) (as := [vi 97, vi 108, vi 108, vi 111, vi 119, vi 0]) (rest := [vj z5]) (by decide +kernel) rfl rfl rfl rfl (xe_mono (E_X11_code_c97_c108_c108_c111_c119_c0 s0 hG0 97 ⟨by decide, by decide⟩ 108 ⟨by decide, by decide⟩ 108 ⟨by decide, by decide⟩ 111 ⟨by decide, by decide⟩ 119 ⟨by decide, by decide⟩ 0 ⟨by decide, by decide⟩) ?_)
    rintro s7 v ⟨-, t_s7, z6, rfl, b_z6, xp_z6⟩
    rw [t_s7.nil]
    try rw [t_s7.nil] at xp_z6
    show xe none 183 42 [(0, .ref 256)] [vj z6, vj z5] s0 0 0 _
    refine x_lc_ne k183_42 k183_43 (t := 50) rfl b_z5 b_z6 (fun c8 => ?_) (fun c8 => ?_)
    · skip
      refine x_A k183_50 (fun _ => rfl) ?_
      refine x_getJ k183_51 (f := 37) rfl (q := 256) (n := 62) (kd := 15) ⟨by decide, rfl⟩ (by decide) rfl ?_
      refine x_topL (fun z9 e_z9 => ?_)
      have b_z9 : in64 z9 := by rw [e_z9]; exact hG0 256 37
      refine x_bipush k183_54 (by decide +kernel) ?_
      refine x_bipush k183_56 (by decide +kernel) ?_
      refine x_bipush k183_58 (by decide +kernel) ?_
      refine x_A k183_60 (fun _ => rfl) ?_
      refine x_A k183_61 (fun _ => rfl) ?_
      refine x_A k183_62 (fun _ => rfl) ?_
      refine x_callS k183_63 (y := 179) (n := 6) (w0 := 2) (w1 := 6) (as := [vi 98, vi 97, vi 114, vi 0, vi 0, vi 0]) (rest := [vj z9]) (by decide +kernel) rfl rfl rfl rfl (xe_mono (E_X11_code_c98_c97_c114_c0_c0_c0 s0 hG0 98 ⟨by decide, by decide⟩ 97 ⟨by decide, by decide⟩ 114 ⟨by decide, by decide⟩ 0 ⟨by decide, by decide⟩ 0 ⟨by decide, by decide⟩ 0 ⟨by decide, by decide⟩) ?_)
      rintro s11 v ⟨-, t_s11, z10, rfl, b_z10, xp_z10⟩
      rw [t_s11.nil]
      try rw [t_s11.nil] at xp_z10
      show xe none 183 66 [(0, .ref 256)] [vj z10, vj z9] s0 0 0 _
      refine x_lc_ne k183_66 k183_67 (t := 74) rfl b_z9 b_z10 (fun c12 => ?_) (fun c12 => ?_)
      · skip
        refine x_A k183_74 (fun _ => rfl) ?_
        refine x_getJ k183_75 (f := 37) rfl (q := 256) (n := 62) (kd := 15) ⟨by decide, rfl⟩ (by decide) rfl ?_
        refine x_topL (fun z13 e_z13 => ?_)
        have b_z13 : in64 z13 := by rw [e_z13]; exact hG0 256 37
        refine x_bipush k183_78 (by decide +kernel) ?_
        refine x_bipush k183_80 (by decide +kernel) ?_
        refine x_bipush k183_82 (by decide +kernel) ?_
        refine x_bipush k183_84 (by decide +kernel) ?_
        refine x_A k183_86 (fun _ => rfl) ?_
        refine x_A k183_87 (fun _ => rfl) ?_
        refine x_callS k183_88 (y := 179) (n := 6) (w0 := 2) (w1 := 6) (as := [vi 110, vi 101, vi 101, vi 100, vi 0, vi 0]) (rest := [vj z13]) (by decide +kernel) rfl rfl rfl rfl (xe_mono (E_X11_code_c110_c101_c101_c100_c0_c0 s0 hG0 110 ⟨by decide, by decide⟩ 101 ⟨by decide, by decide⟩ 101 ⟨by decide, by decide⟩ 100 ⟨by decide, by decide⟩ 0 ⟨by decide, by decide⟩ 0 ⟨by decide, by decide⟩) ?_)
        rintro s15 v ⟨-, t_s15, z14, rfl, b_z14, xp_z14⟩
        rw [t_s15.nil]
        try rw [t_s15.nil] at xp_z14
        show xe none 183 91 [(0, .ref 256)] [vj z14, vj z13] s0 0 0 _
        refine x_lc_ne k183_91 k183_92 (t := 99) rfl b_z13 b_z14 (fun c16 => ?_) (fun c16 => ?_)
        · skip
          refine x_A k183_99 (fun _ => rfl) ?_
          refine x_getJ k183_100 (f := 37) rfl (q := 256) (n := 62) (kd := 15) ⟨by decide, rfl⟩ (by decide) rfl ?_
          refine x_topL (fun z17 e_z17 => ?_)
          have b_z17 : in64 z17 := by rw [e_z17]; exact hG0 256 37
          refine x_bipush k183_103 (by decide +kernel) ?_
          refine x_bipush k183_105 (by decide +kernel) ?_
          refine x_bipush k183_107 (by decide +kernel) ?_
          refine x_bipush k183_109 (by decide +kernel) ?_
          refine x_A k183_111 (fun _ => rfl) ?_
          refine x_A k183_112 (fun _ => rfl) ?_
          refine x_callS k183_113 (y := 179) (n := 6) (w0 := 2) (w1 := 6) (as := [vi 109, vi 111, vi 115, vi 116, vi 0, vi 0]) (rest := [vj z17]) (by decide +kernel) rfl rfl rfl rfl (xe_mono (E_X11_code_c109_c111_c115_c116_c0_c0 s0 hG0 109 ⟨by decide, by decide⟩ 111 ⟨by decide, by decide⟩ 115 ⟨by decide, by decide⟩ 116 ⟨by decide, by decide⟩ 0 ⟨by decide, by decide⟩ 0 ⟨by decide, by decide⟩) ?_)
          rintro s19 v ⟨-, t_s19, z18, rfl, b_z18, xp_z18⟩
          rw [t_s19.nil]
          try rw [t_s19.nil] at xp_z18
          show xe none 183 116 [(0, .ref 256)] [vj z18, vj z17] s0 0 0 _
          refine x_lc_ne k183_116 k183_117 (t := 124) rfl b_z17 b_z18 (fun c20 => ?_) (fun c20 => ?_)
          · skip
            refine x_A k183_124 (fun _ => rfl) ?_
            refine x_getJ k183_125 (f := 37) rfl (q := 256) (n := 62) (kd := 15) ⟨by decide, rfl⟩ (by decide) rfl ?_
            refine x_topL (fun z21 e_z21 => ?_)
            have b_z21 : in64 z21 := by rw [e_z21]; exact hG0 256 37
            refine x_bipush k183_128 (by decide +kernel) ?_
            refine x_bipush k183_130 (by decide +kernel) ?_
            refine x_bipush k183_132 (by decide +kernel) ?_
            refine x_bipush k183_134 (by decide +kernel) ?_
            refine x_bipush k183_136 (by decide +kernel) ?_
            refine x_bipush k183_138 (by decide +kernel) ?_
            refine x_callS k183_140 (y := 179) (n := 6) (w0 := 2) (w1 := 6) (as := [vi 115, vi 116, vi 114, vi 105, vi 107, vi 101]) (rest := [vj z21]) (by decide +kernel) rfl rfl rfl rfl (xe_mono (E_X11_code_c115_c116_c114_c105_c107_c101 s0 hG0 115 ⟨by decide, by decide⟩ 116 ⟨by decide, by decide⟩ 114 ⟨by decide, by decide⟩ 105 ⟨by decide, by decide⟩ 107 ⟨by decide, by decide⟩ 101 ⟨by decide, by decide⟩) ?_)
            rintro s23 v ⟨-, t_s23, z22, rfl, b_z22, xp_z22⟩
            rw [t_s23.nil]
            try rw [t_s23.nil] at xp_z22
            show xe none 183 143 [(0, .ref 256)] [vj z22, vj z21] s0 0 0 _
            refine x_lc_ne k183_143 k183_144 (t := 151) rfl b_z21 b_z22 (fun c24 => ?_) (fun c24 => ?_)
            · skip
              refine x_A k183_151 (fun _ => rfl) ?_
              exact x_iret k183_152 rfl ⟨hG0, f0, (-1), rfl, ⟨by decide, by decide⟩, (by have kc := kww_cs (s0 256 37); omega)⟩
            · skip
              refine x_A k183_147 (fun _ => rfl) ?_
              refine x_goto k183_148 (t := 152) rfl ?_
              exact x_iret k183_152 rfl ⟨hG0, f0, 5, rfl, ⟨by decide, by decide⟩, (by have kc := kww_cs (s0 256 37); omega)⟩
          · skip
            refine x_A k183_120 (fun _ => rfl) ?_
            refine x_goto k183_121 (t := 152) rfl ?_
            exact x_iret k183_152 rfl ⟨hG0, f0, 4, rfl, ⟨by decide, by decide⟩, (by have kc := kww_cs (s0 256 37); omega)⟩
        · skip
          refine x_A k183_95 (fun _ => rfl) ?_
          refine x_goto k183_96 (t := 152) rfl ?_
          exact x_iret k183_152 rfl ⟨hG0, f0, 3, rfl, ⟨by decide, by decide⟩, (by have kc := kww_cs (s0 256 37); omega)⟩
      · skip
        refine x_A k183_70 (fun _ => rfl) ?_
        refine x_goto k183_71 (t := 152) rfl ?_
        exact x_iret k183_152 rfl ⟨hG0, f0, 2, rfl, ⟨by decide, by decide⟩, (by have kc := kww_cs (s0 256 37); omega)⟩
    · skip
      refine x_A k183_46 (fun _ => rfl) ?_
      refine x_goto k183_47 (t := 152) rfl ?_
      exact x_iret k183_152 rfl ⟨hG0, f0, 1, rfl, ⟨by decide, by decide⟩, (by have kc := kww_cs (s0 256 37); omega)⟩
  · skip
    refine x_A k183_20 (fun _ => rfl) ?_
    refine x_goto k183_21 (t := 152) rfl ?_
    exact x_iret k183_152 rfl ⟨hG0, f0, 0, rfl, ⟨by decide, by decide⟩, (by have kc := kww_cs (s0 256 37); omega)⟩
set_option maxHeartbeats 8000000 in
theorem E_X11_needs_256 (s0 : xS) (hG0 : GI s0) (a : Int) (b_a : in64 a) (pa : s0 256 36 ≤ s0 256 34) (pz : a ≠ 0) : xe none 181 0 (lv_args 0 [.ref 256, vj a]) [] s0 0 0 (fun s' v => GI s' ∧ FL [4133, 4134, 4135, 4132] s0 s' ∧ ∃ z, v = some (vi z) ∧ (0 ≤ z ∧ z ≤ 1) ∧ (((wv (s0 283) (s0 256 34) (sk (s0 283) (s0 256 34) (s0 256 36)) = a ∧ z = 0 ∧ s' 256 36 = te (s0 283) (s0 256 34) (sk (s0 283) (s0 256 34) (s0 256 36)) ∧ s' 256 35 = s0 256 35) ∨ (wv (s0 283) (s0 256 34) (sk (s0 283) (s0 256 34) (s0 256 36)) ≠ a ∧ z = 1 ∧ s' 256 35 = sk (s0 283) (s0 256 34) (s0 256 36))) ∧ s0 256 36 ≤ s' 256 36 ∧ s' 256 36 ≤ s0 256 34)) := by
  have f0 : FL [4133, 4134, 4135, 4132] s0 s0 := FL.rf
  show xe none 181 0 [(0, .ref 256), (1, vj a)] [] s0 0 0 _
  obtain ⟨z1, e_z1⟩ : ∃ z, z = s0 256 34 := ⟨_, rfl⟩
  have g_z1 : (0 : Int) ≤ s0 256 34 ∧ s0 256 34 ≤ 160 := hG0 256 34
  obtain ⟨z2, e_z2⟩ : ∃ z, z = s0 256 35 := ⟨_, rfl⟩
  have g_z2 : (-2147483648) ≤ s0 256 35 ∧ s0 256 35 ≤ 2147483647 := hG0 256 35
  refine x_A k181_0 (fun _ => rfl) ?_
  refine x_callV k181_1 (y := 178) (n := 0) (w0 := 0) (w1 := 0) (as := []) (rest := []) (by decide +kernel) (q := 256) (nq := 62) (kq := 15) ⟨by decide, rfl⟩ rfl rfl rfl rfl (xe_mono (E_X11_readWord_256 s0 hG0 (by omega)) ?_)
  rintro s4 v ⟨hG_s4, t_s4, rfl, xp_z3⟩
  have f_s4 : FL [4133, 4134, 4135, 4132] s0 s4 := f0.tr t_s4 (by decide +kernel)
  have q5 : s4 256 34 = z1 := (t_s4 256 34 (show 4131 ∉ [4133, 4134, 4135] from by decide +kernel)).trans e_z1.symm
  have q6 : s4 256 35 = z2 := (t_s4 256 35 (show 4132 ∉ [4133, 4134, 4135] from by decide +kernel)).trans e_z2.symm
  obtain ⟨z7, e_z7⟩ : ∃ z, z = s4 256 36 := ⟨_, rfl⟩
  have g_z7 : (0 : Int) ≤ s4 256 36 ∧ s4 256 36 ≤ 160 := hG_s4 256 36
  obtain ⟨z8, e_z8⟩ : ∃ z, z = s4 256 38 := ⟨_, rfl⟩
  have g_z8 : (0 : Int) ≤ s4 256 38 ∧ s4 256 38 ≤ 160 := hG_s4 256 38
  show xe none 181 4 [(0, .ref 256), (1, vj a)] [] s4 0 0 _
  have wk : wv (s0 283) (s0 256 34) (sk (s0 283) (s0 256 34) (s0 256 36)) ≠ 0 → _ := wv_kd (T := s0 283) (n := s0 256 34) (p := sk (s0 283) (s0 256 34) (s0 256 36))
  have tl := te_le (T := s0 283) (n := s0 256 34) (p := sk (s0 283) (s0 256 34) (s0 256 36))
  have sl := sk_le (T := s0 283) (n := s0 256 34) (p := s0 256 36)
  refine x_A k181_4 (fun _ => rfl) ?_
  refine x_getJ k181_5 (f := 37) rfl (q := 256) (n := 62) (kd := 15) ⟨by decide, rfl⟩ (by decide) rfl ?_
  refine x_topL (fun z9 e_z9 => ?_)
  have b_z9 : in64 z9 := by rw [e_z9]; exact hG_s4 256 37
  refine x_A k181_8 (fun _ => rfl) ?_
  refine x_lc_eq k181_9 k181_10 (t := 23) rfl b_z9 b_a (fun c10 => ?_) (fun c10 => ?_)
  · skip
    refine x_A k181_23 (fun _ => rfl) ?_
    refine x_A k181_24 (fun _ => rfl) ?_
    refine x_getI k181_25 (f := 38) rfl (q := 256) (n := 62) (kd := 15) ⟨by decide, rfl⟩ (by decide) rfl ?_
    refine x_rw (e_z8.symm) ?_
    refine x_putI k181_28 (f := 36) rfl (q := 256) (n := 62) (kd := 15) ⟨by decide, rfl⟩ rfl rfl rfl ?_
    refine x_nh (fun s11 e_s11 => ?_)
    have hG_s11 : GI s11 := by rw [e_s11]; exact hG_s4.up (show 0 ≤ z8 ∧ z8 ≤ 160 from (by first | exact x_rbe e_z8 g_z8 rfl rfl | exact x_rb g_z8 rfl rfl | exact ⟨by omega, by omega⟩))
    have f_s11 : FL [4133, 4134, 4135, 4132] s0 s11 := by rw [e_s11]; exact f_s4.up (show 4133 ∈ [4133, 4134, 4135, 4132] from by decide +kernel)
    have q12 : s11 256 34 = z1 := by rw [e_s11, x_up_i (by decide)]; exact q5
    have q13 : s11 256 35 = z2 := by rw [e_s11, x_up_i (by decide)]; exact q6
    have q14 : s11 256 38 = z8 := by rw [e_s11, x_up_i (by decide)]; exact e_z8.symm
    have q15 : s11 256 36 = z8 := by rw [e_s11]; exact x_up_same
    refine x_A k181_31 (fun _ => rfl) ?_
    exact x_iret k181_32 rfl ⟨hG_s11, f_s11, 0, rfl, ⟨by decide, by decide⟩, by omega⟩
  · skip
    refine x_A k181_13 (fun _ => rfl) ?_
    refine x_A k181_14 (fun _ => rfl) ?_
    refine x_A k181_15 (fun _ => rfl) ?_
    refine x_getI k181_16 (f := 36) rfl (q := 256) (n := 62) (kd := 15) ⟨by decide, rfl⟩ (by decide) rfl ?_
    refine x_rw (e_z7.symm) ?_
    refine x_callV k181_19 (y := 177) (n := 2) (w0 := 0) (w1 := 2) (as := [vi 1, vi z7]) (rest := []) (by decide +kernel) (q := 256) (nq := 62) (kq := 15) ⟨by decide, rfl⟩ rfl rfl rfl rfl (xe_mono (E_X11_fails_256 s4 hG_s4 1 ⟨by decide, by decide⟩ z7 (by first | exact x_rbe e_z7 g_z7 rfl rfl | exact x_rb g_z7 rfl rfl | exact ⟨by omega, by omega⟩)) ?_)
    rintro s17 v ⟨hG_s17, t_s17, z16, rfl, g_z16, xp_z16⟩
    have f_s17 : FL [4133, 4134, 4135, 4132] s0 s17 := f_s4.tr t_s17 (by decide +kernel)
    have q18 : s17 256 34 = z1 := (t_s17 256 34 (show 4131 ∉ [4132] from by decide +kernel)).trans q5
    have q19 : s17 256 36 = z7 := (t_s17 256 36 (show 4133 ∉ [4132] from by decide +kernel)).trans e_z7.symm
    have q20 : s17 256 38 = z8 := (t_s17 256 38 (show 4135 ∉ [4132] from by decide +kernel)).trans e_z8.symm
    obtain ⟨z21, e_z21⟩ : ∃ z, z = s17 256 35 := ⟨_, rfl⟩
    have g_z21 : (-2147483648) ≤ s17 256 35 ∧ s17 256 35 ≤ 2147483647 := hG_s17 256 35
    show xe none 181 22 [(0, .ref 256), (1, vj a)] [vi z16] s17 0 0 _
    exact x_iret k181_22 rfl ⟨hG_s17, f_s17, z16, rfl, (by first | exact x_rbe e_z16 g_z16 rfl rfl | exact x_rb g_z16 rfl rfl | exact ⟨by omega, by omega⟩), by omega⟩
