theorem pm_f11 : ∀ w ∈ (pm_flds 11).map (pm_wf 11), w ∈ pm_ws := pm_subg [1090, 1091, 1092, 1093, 1095, 1096, 1097, 1099, 1100, 1101, 1102, 1103, 1104, 1106, 1107, 1109, 1110, 1111, 1112, 1113, 1115, 1116, 1117, 1118, 1119, 1120, 1121, 1123, 1129, 1130, 1132, 1133, 1134, 1137, 1140, 1145, 1147, 1148, 1149, 1089, 1088, 1094, 1098, 1105, 1114, 1108, 1122, 1128, 1131, 1146, 1124, 1125, 1126, 1127, 1135, 1136, 1139, 1138, 1141, 1142, 1143, 1144] (by decide +kernel) (by decide +kernel)
theorem pm_fb11 : ∀ e ∈ pm_flds 11, e.2.1 < 12 ∧ e.2.2 < (pm_cl.getD e.2.1 ("", fun _ => ("", "", "", false), 0)).2.2 := by decide +kernel
theorem pm_f12 : ∀ w ∈ (pm_flds 12).map (pm_wf 12), w ∈ pm_ws := pm_subg [] (by decide +kernel) (by decide +kernel)
theorem pm_fb12 : ∀ e ∈ pm_flds 12, e.2.1 < 12 ∧ e.2.2 < (pm_cl.getD e.2.1 ("", fun _ => ("", "", "", false), 0)).2.2 := by decide +kernel
theorem pm_f13 : ∀ w ∈ (pm_flds 13).map (pm_wf 13), w ∈ pm_ws := pm_subg [] (by decide +kernel) (by decide +kernel)
theorem pm_fb13 : ∀ e ∈ pm_flds 13, e.2.1 < 12 ∧ e.2.2 < (pm_cl.getD e.2.1 ("", fun _ => ("", "", "", false), 0)).2.2 := by decide +kernel
theorem pm_f14 : ∀ w ∈ (pm_flds 14).map (pm_wf 14), w ∈ pm_ws := pm_subg [] (by decide +kernel) (by decide +kernel)
theorem pm_fb14 : ∀ e ∈ pm_flds 14, e.2.1 < 12 ∧ e.2.2 < (pm_cl.getD e.2.1 ("", fun _ => ("", "", "", false), 0)).2.2 := by decide +kernel
theorem pm_f15 : ∀ w ∈ (pm_flds 15).map (pm_wf 15), w ∈ pm_ws := pm_subg [] (by decide +kernel) (by decide +kernel)
theorem pm_fb15 : ∀ e ∈ pm_flds 15, e.2.1 < 12 ∧ e.2.2 < (pm_cl.getD e.2.1 ("", fun _ => ("", "", "", false), 0)).2.2 := by decide +kernel
theorem pm_f16 : ∀ w ∈ (pm_flds 16).map (pm_wf 16), w ∈ pm_ws := pm_subg [] (by decide +kernel) (by decide +kernel)
theorem pm_fb16 : ∀ e ∈ pm_flds 16, e.2.1 < 12 ∧ e.2.2 < (pm_cl.getD e.2.1 ("", fun _ => ("", "", "", false), 0)).2.2 := by decide +kernel
theorem pm_f17 : ∀ w ∈ (pm_flds 17).map (pm_wf 17), w ∈ pm_ws := pm_subg [] (by decide +kernel) (by decide +kernel)
theorem pm_fb17 : ∀ e ∈ pm_flds 17, e.2.1 < 12 ∧ e.2.2 < (pm_cl.getD e.2.1 ("", fun _ => ("", "", "", false), 0)).2.2 := by decide +kernel
theorem pm_f18 : ∀ w ∈ (pm_flds 18).map (pm_wf 18), w ∈ pm_ws := pm_subg [] (by decide +kernel) (by decide +kernel)
theorem pm_fb18 : ∀ e ∈ pm_flds 18, e.2.1 < 12 ∧ e.2.2 < (pm_cl.getD e.2.1 ("", fun _ => ("", "", "", false), 0)).2.2 := by decide +kernel
theorem pm_fA : ∀ k : Nat, ∀ w ∈ (pm_flds k).map (pm_wf k), w ∈ pm_ws := fun k => match k with
  | 0 => pm_f0
  | 1 => pm_f1
  | 2 => pm_f2
  | 3 => pm_f3
  | 4 => pm_f4
  | 5 => pm_f5
  | 6 => pm_f6
  | 7 => pm_f7
  | 8 => pm_f8
  | 9 => pm_f9
  | 10 => pm_f10
  | 11 => pm_f11
  | 12 => pm_f12
  | 13 => pm_f13
  | 14 => pm_f14
  | 15 => pm_f15
  | 16 => pm_f16
  | 17 => pm_f17
  | 18 => pm_f18
  | _ + 19 => fun w h => by simp [pm_flds] at h
theorem pm_fB : ∀ k : Nat, ∀ e ∈ pm_flds k, e.2.1 < 12 ∧ e.2.2 < (pm_cl.getD e.2.1 ("", fun _ => ("", "", "", false), 0)).2.2 := fun k => match k with
  | 0 => pm_fb0
  | 1 => pm_fb1
  | 2 => pm_fb2
  | 3 => pm_fb3
  | 4 => pm_fb4
  | 5 => pm_fb5
  | 6 => pm_fb6
  | 7 => pm_fb7
  | 8 => pm_fb8
  | 9 => pm_fb9
  | 10 => pm_fb10
  | 11 => pm_fb11
  | 12 => pm_fb12
  | 13 => pm_fb13
  | 14 => pm_fb14
  | 15 => pm_fb15
  | 16 => pm_fb16
  | 17 => pm_fb17
  | 18 => pm_fb18
  | _ + 19 => fun w h => by simp [pm_flds] at h
def pm_wc (k : Nat) (e : Nat × Nat × Nat × Nat) : List Cond := if e.2.2.1 = 3 then [.methodLink (pm_own k) e.1 objectInit, .instanceMethod objectInit, .code objectInit ⟨#[0xb1]⟩ 1 none] else
  ([.initialized (pm_y e.2.1).cls] ++ (if e.2.2.1 < 10 then [.methodLink (pm_own k) e.1 (pm_y e.2.1)] else [])) ++ (match e.2.2.1 % 10 with
    | 0 => [.instanceMethod (pm_y e.2.1), .selects (pm_y e.2.1).cls (pm_y e.2.1) (pm_y e.2.1)]
    | 1 => [.static (pm_y e.2.1)]
    | _ => [.instanceMethod (pm_y e.2.1)])
def pm_chkc (e : Nat × Nat × Nat × Nat) : Bool := e.2.2.1 == 3 || (decide ((pm_y e.2.1).cls ≠ "java/lang/invoke/MethodHandle" ∧ (pm_y e.2.1).cls ≠ "java/lang/invoke/VarHandle" ∧ (parseMethodDescriptor (pm_y e.2.1).desc).map (fun d => d.parameters.length) = some e.2.2.2) && (!(e.2.2.1 % 10 == 2) || (decide ((pm_y e.2.1).name = "<init>") && decide (pm_ret e.2.1 = none))))
theorem pm_c0 : ∀ w ∈ (pm_calls 0).flatMap (pm_wc 0), w ∈ pm_ws := pm_subg [328, 97, 98, 77, 906, 744, 745, 81, 907, 909, 9, 81, 924, 926, 12, 81, 944, 946, 14, 81, 952, 954, 16, 77, 911, 858, 859, 81, 912, 914, 10, 77, 922, 767, 768, 81, 917, 919, 11, 77, 923, 748, 749, 77, 916, 824, 825, 81, 928, 929, 81, 936, 937, 81, 940, 942, 13, 77, 939, 832, 833, 81, 948, 950, 15, 81, 957, 959, 17] (by decide +kernel) (by decide +kernel)
theorem pm_cc0 : ∀ e ∈ pm_calls 0, pm_chkc e = true := by decide +kernel
theorem pm_c1 : ∀ w ∈ (pm_calls 1).flatMap (pm_wc 1), w ∈ pm_ws := pm_subg [269, 97, 98, 74, 566, 108, 74, 567, 568, 79, 562, 564, 1, 78, 570, 571, 572, 79, 574, 576, 2, 79, 578, 580, 3, 79, 592, 593] (by decide +kernel) (by decide +kernel)
theorem pm_cc1 : ∀ e ∈ pm_calls 1, pm_chkc e = true := by decide +kernel
theorem pm_c2 : ∀ w ∈ (pm_calls 2).flatMap (pm_wc 2), w ∈ pm_ws := pm_subg [157, 97, 98, 74, 675, 108, 76, 612, 613, 614] (by decide +kernel) (by decide +kernel)
theorem pm_cc2 : ∀ e ∈ pm_calls 2, pm_chkc e = true := by decide +kernel
theorem pm_c3 : ∀ w ∈ (pm_calls 3).flatMap (pm_wc 3), w ∈ pm_ws := pm_subg [136, 97, 98, 75, 663, 653, 654, 72, 524] (by decide +kernel) (by decide +kernel)
theorem pm_cc3 : ∀ e ∈ pm_calls 3, pm_chkc e = true := by decide +kernel
theorem pm_c4 : ∀ w ∈ (pm_calls 4).flatMap (pm_wc 4), w ∈ pm_ws := pm_subg [236, 97, 98, 77, 743, 744, 745, 78, 758, 760, 7, 77, 766, 767, 768, 78, 762, 763, 77, 823, 824, 825, 77, 827, 748, 749, 78, 828, 829, 78, 837, 838, 77, 853, 854, 855, 77, 831, 832, 833, 78, 840, 841, 77, 847, 848, 849] (by decide +kernel) (by decide +kernel)
theorem pm_cc4 : ∀ e ∈ pm_calls 4, pm_chkc e = true := by decide +kernel
