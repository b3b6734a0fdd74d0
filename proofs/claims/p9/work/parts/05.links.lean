def pm_ws : List Cond := lw_tbl.filter goodWord
theorem pm_wsin {w : Cond} (h : w ∈ lw_tbl) (hg : goodWord w = true) : w ∈ pm_ws := List.mem_filter.mpr ⟨h, hg⟩
theorem pm_wstbl {w : Cond} (h : w ∈ pm_ws) : w ∈ lw_tbl := (List.mem_filter.mp h).1
theorem pm_wsgood {w : Cond} (h : w ∈ pm_ws) : goodWord w = true := (List.mem_filter.mp h).2
theorem pm_look_mem {α : Type} : ∀ {l : List (Nat × α)} {i : Nat} {a : α}, pm_look l i = some a → (i, a) ∈ l
  | [], _, _, h => by simp [pm_look] at h
  | (j, b) :: r, i, a, h => by
    unfold pm_look at h
    split at h
    · next e => cases h; subst e; exact List.mem_cons_self
    · exact List.mem_cons_of_mem _ (pm_look_mem h)
/-- of all elements of a list: a word at its place among the tables', good -/
theorem pm_subg {ws : List Cond} (ps : List Nat) (h : decide (ws.map some = ps.map (fun i => lw_tbl[i]?)) = true) (hg : ws.all goodWord = true) : ∀ w ∈ ws, w ∈ pm_ws := fun w hw => pm_wsin (pm_sub ps h w hw) (List.all_eq_true.mp hg w hw)
theorem pm_iteP {α : Type} {P : α → Prop} {c : Prop} [Decidable c] {a b : α} (ha : P a) (hb : P b) : P (if c then a else b) := by split <;> assumption
def pm_wf (k : Nat) (e : Nat × Nat × Nat) : Cond := .fieldLink (pm_own k) e.1 (((pm_cl.getD e.2.1 ("", fun _ => ("", "", "", false), 0)).2.1 e.2.2).1) (((pm_cl.getD e.2.1 ("", fun _ => ("", "", "", false), 0)).2.1 e.2.2).2.1) (((pm_cl.getD e.2.1 ("", fun _ => ("", "", "", false), 0)).2.1 e.2.2).2.2.1)
theorem pm_f0 : ∀ w ∈ (pm_flds 0).map (pm_wf 0), w ∈ pm_ws := pm_subg [330, 332, 334, 336, 339, 337, 338, 212, 207, 205] (by decide +kernel) (by decide +kernel)
theorem pm_fb0 : ∀ e ∈ pm_flds 0, e.2.1 < 12 ∧ e.2.2 < (pm_cl.getD e.2.1 ("", fun _ => ("", "", "", false), 0)).2.2 := by decide +kernel
theorem pm_f1 : ∀ w ∈ (pm_flds 1).map (pm_wf 1), w ∈ pm_ws := pm_subg [273, 275, 276, 277, 270, 279, 281, 283, 249, 239, 241, 243, 245, 247] (by decide +kernel) (by decide +kernel)
theorem pm_fb1 : ∀ e ∈ pm_flds 1, e.2.1 < 12 ∧ e.2.2 < (pm_cl.getD e.2.1 ("", fun _ => ("", "", "", false), 0)).2.2 := by decide +kernel
theorem pm_f2 : ∀ w ∈ (pm_flds 2).map (pm_wf 2), w ∈ pm_ws := pm_subg [159, 162, 165, 168, 171, 174, 176] (by decide +kernel) (by decide +kernel)
theorem pm_fb2 : ∀ e ∈ pm_flds 2, e.2.1 < 12 ∧ e.2.2 < (pm_cl.getD e.2.1 ("", fun _ => ("", "", "", false), 0)).2.2 := by decide +kernel
theorem pm_f3 : ∀ w ∈ (pm_flds 3).map (pm_wf 3), w ∈ pm_ws := pm_subg [137, 138, 139, 141] (by decide +kernel) (by decide +kernel)
theorem pm_fb3 : ∀ e ∈ pm_flds 3, e.2.1 < 12 ∧ e.2.2 < (pm_cl.getD e.2.1 ("", fun _ => ("", "", "", false), 0)).2.2 := by decide +kernel
theorem pm_f4 : ∀ w ∈ (pm_flds 4).map (pm_wf 4), w ∈ pm_ws := pm_subg [238, 240, 242, 244, 246, 248, 210, 203, 206] (by decide +kernel) (by decide +kernel)
theorem pm_fb4 : ∀ e ∈ pm_flds 4, e.2.1 < 12 ∧ e.2.2 < (pm_cl.getD e.2.1 ("", fun _ => ("", "", "", false), 0)).2.2 := by decide +kernel
theorem pm_f5 : ∀ w ∈ (pm_flds 5).map (pm_wf 5), w ∈ pm_ws := pm_subg [365, 367, 368, 370] (by decide +kernel) (by decide +kernel)
theorem pm_fb5 : ∀ e ∈ pm_flds 5, e.2.1 < 12 ∧ e.2.2 < (pm_cl.getD e.2.1 ("", fun _ => ("", "", "", false), 0)).2.2 := by decide +kernel
theorem pm_f6 : ∀ w ∈ (pm_flds 6).map (pm_wf 6), w ∈ pm_ws := pm_subg [200, 201, 211, 214, 209, 208, 204] (by decide +kernel) (by decide +kernel)
theorem pm_fb6 : ∀ e ∈ pm_flds 6, e.2.1 < 12 ∧ e.2.2 < (pm_cl.getD e.2.1 ("", fun _ => ("", "", "", false), 0)).2.2 := by decide +kernel
theorem pm_f7 : ∀ w ∈ (pm_flds 7).map (pm_wf 7), w ∈ pm_ws := pm_subg [110, 112, 114, 116, 117] (by decide +kernel) (by decide +kernel)
theorem pm_fb7 : ∀ e ∈ pm_flds 7, e.2.1 < 12 ∧ e.2.2 < (pm_cl.getD e.2.1 ("", fun _ => ("", "", "", false), 0)).2.2 := by decide +kernel
theorem pm_f8 : ∀ w ∈ (pm_flds 8).map (pm_wf 8), w ∈ pm_ws := pm_subg [392, 393, 394, 395, 396, 398, 400, 402, 389, 390, 391, 404, 405, 177, 172, 169, 160, 163, 271, 167, 278] (by decide +kernel) (by decide +kernel)
theorem pm_fb8 : ∀ e ∈ pm_flds 8, e.2.1 < 12 ∧ e.2.2 < (pm_cl.getD e.2.1 ("", fun _ => ("", "", "", false), 0)).2.2 := by decide +kernel
theorem pm_f9 : ∀ w ∈ (pm_flds 9).map (pm_wf 9), w ∈ pm_ws := pm_subg [309, 310, 311, 312] (by decide +kernel) (by decide +kernel)
theorem pm_fb9 : ∀ e ∈ pm_flds 9, e.2.1 < 12 ∧ e.2.2 < (pm_cl.getD e.2.1 ("", fun _ => ("", "", "", false), 0)).2.2 := by decide +kernel
theorem pm_f10 : ∀ w ∈ (pm_flds 10).map (pm_wf 10), w ∈ pm_ws := pm_subg [434, 435, 436, 437, 438, 439, 440, 441, 442, 443, 444, 445, 113, 115, 111, 166, 175, 161, 164, 170, 173, 397, 399, 401, 178, 118, 142, 250, 202, 313, 340, 371, 272, 280, 282, 284, 274, 403, 140, 366, 369, 213, 215, 335, 331, 333] (by decide +kernel) (by decide +kernel)
theorem pm_fb10 : ∀ e ∈ pm_flds 10, e.2.1 < 12 ∧ e.2.2 < (pm_cl.getD e.2.1 ("", fun _ => ("", "", "", false), 0)).2.2 := by decide +kernel
theorem pm_f11 : ∀ w ∈ (pm_flds 11).map (pm_wf 11), w ∈ pm_ws := pm_subg [1090, 1091, 1092, 1093, 1095, 1096, 1097, 1099, 1100, 1101, 1102, 1103, 1104, 1106, 1107, 1109, 1110, 1111, 1112, 1113, 1115, 1116, 1117, 1118, 1119, 1120, 1121, 1123, 1129, 1130, 1132, 1133, 1134, 1137, 1140, 1145, 1147, 1148, 1149, 1089, 1088, 1094, 1098, 1105, 1114, 1108, 1122, 1128, 1131, 1146, 1124, 1125, 1126, 1127, 1135, 1136, 1139, 1138, 1141, 1142, 1143, 1144] (by decide +kernel) (by decide +kernel)
theorem pm_fb11 : ∀ e ∈ pm_flds 11, e.2.1 < 12 ∧ e.2.2 < (pm_cl.getD e.2.1 ("", fun _ => ("", "", "", false), 0)).2.2 := by decide +kernel
theorem pm_f12 : ∀ w ∈ (pm_flds 12).map (pm_wf 12), w ∈ pm_ws := pm_subg [] (by decide +kernel) (by decide +kernel)
theorem pm_fb12 : ∀ e ∈ pm_flds 12, e.2.1 < 12 ∧ e.2.2 < (pm_cl.getD e.2.1 ("", fun _ => ("", "", "", false), 0)).2.2 := by decide +kernel
theorem pm_f13 : ∀ w ∈ (pm_flds 13).map (pm_wf 13), w ∈ pm_ws := pm_subg [] (by decide +kernel) (by decide +kernel)
theorem pm_fb13 : ∀ e ∈ pm_flds 13, e.2.1 < 12 ∧ e.2.2 < (pm_cl.getD e.2.1 ("", fun _ => ("", "", "", false), 0)).2.2 := by decide +kernel
theorem pm_f14 : ∀ w ∈ (pm_flds 14).map (pm_wf 14), w ∈ pm_ws := pm_subg [] (by decide +kernel) (by decide +kernel)
theorem pm_fb14 : ∀ e ∈ pm_flds 14, e.2.1 < 12 ∧ e.2.2 < (pm_cl.getD e.2.1 ("", fun _ => ("", "", "", false), 0)).2.2 := by decide +kernel
theorem pm_f15 : ∀ w ∈ (pm_flds 15).map (pm_wf 15), w ∈ pm_ws := pm_subg [] (by decide +kernel) (by decide +kernel)
theorem pm_fb15 : ∀ e ∈ pm_flds 15, e.2.1 < 12 ∧ e.2.2 < (pm_cl.getD e.2.1 ("", fun _ => ("", "", "", false), 0)).2.2 := by decide +kernel
theorem pm_f16 : ∀ w ∈ (pm_flds 16).map (pm_wf 16), w ∈ pm_ws := pm_subg [] (by decide +kernel) (by decide +kernel)
theorem pm_fb16 : ∀ e ∈ pm_flds 16, e.2.1 < 12 ∧ e.2.2 < (pm_cl.getD e.2.1 ("", fun _ => ("", "", "", false), 0)).2.2 := by decide +kernel
theorem pm_f17 : ∀ w ∈ (pm_flds 17).map (pm_wf 17), w ∈ pm_ws := pm_subg [] (by decide +kernel) (by decide +kernel)
theorem pm_fb17 : ∀ e ∈ pm_flds 17, e.2.1 < 12 ∧ e.2.2 < (pm_cl.getD e.2.1 ("", fun _ => ("", "", "", false), 0)).2.2 := by decide +kernel
theorem pm_f18 : ∀ w ∈ (pm_flds 18).map (pm_wf 18), w ∈ pm_ws := pm_subg [] (by decide +kernel) (by decide +kernel)
theorem pm_fb18 : ∀ e ∈ pm_flds 18, e.2.1 < 12 ∧ e.2.2 < (pm_cl.getD e.2.1 ("", fun _ => ("", "", "", false), 0)).2.2 := by decide +kernel
theorem pm_fA : ∀ k : Nat, ∀ w ∈ (pm_flds k).map (pm_wf k), w ∈ pm_ws := fun k => match k with
  | 0 => pm_f0
  | 1 => pm_f1
  | 2 => pm_f2
  | 3 => pm_f3
  | 4 => pm_f4
  | 5 => pm_f5
  | 6 => pm_f6
  | 7 => pm_f7
  | 8 => pm_f8
  | 9 => pm_f9
  | 10 => pm_f10
  | 11 => pm_f11
  | 12 => pm_f12
  | 13 => pm_f13
  | 14 => pm_f14
  | 15 => pm_f15
  | 16 => pm_f16
  | 17 => pm_f17
  | 18 => pm_f18
  | _ + 19 => fun w h => by simp [pm_flds] at h
theorem pm_fB : ∀ k : Nat, ∀ e ∈ pm_flds k, e.2.1 < 12 ∧ e.2.2 < (pm_cl.getD e.2.1 ("", fun _ => ("", "", "", false), 0)).2.2 := fun k => match k with
  | 0 => pm_fb0
  | 1 => pm_fb1
  | 2 => pm_fb2
  | 3 => pm_fb3
  | 4 => pm_fb4
  | 5 => pm_fb5
  | 6 => pm_fb6
  | 7 => pm_fb7
  | 8 => pm_fb8
  | 9 => pm_fb9
  | 10 => pm_fb10
  | 11 => pm_fb11
  | 12 => pm_fb12
  | 13 => pm_fb13
  | 14 => pm_fb14
  | 15 => pm_fb15
  | 16 => pm_fb16
  | 17 => pm_fb17
  | 18 => pm_fb18
  | _ + 19 => fun w h => by simp [pm_flds] at h
def pm_wc (k : Nat) (e : Nat × Nat × Nat × Nat) : List Cond := if e.2.2.1 = 3 then [.methodLink (pm_own k) e.1 objectInit, .instanceMethod objectInit, .code objectInit ⟨#[0xb1]⟩ 1 none] else
  ([.initialized (pm_y e.2.1).cls] ++ (if e.2.2.1 < 10 then [.methodLink (pm_own k) e.1 (pm_y e.2.1)] else [])) ++ (match e.2.2.1 % 10 with
    | 0 => [.instanceMethod (pm_y e.2.1), .selects (pm_y e.2.1).cls (pm_y e.2.1) (pm_y e.2.1)]
    | 1 => [.static (pm_y e.2.1)]
    | _ => [.instanceMethod (pm_y e.2.1)])
def pm_chkc (e : Nat × Nat × Nat × Nat) : Bool := e.2.2.1 == 3 || (decide ((pm_y e.2.1).cls ≠ "java/lang/invoke/MethodHandle" ∧ (pm_y e.2.1).cls ≠ "java/lang/invoke/VarHandle" ∧ (parseMethodDescriptor (pm_y e.2.1).desc).map (fun d => d.parameters.length) = some e.2.2.2) && (!(e.2.2.1 % 10 == 2) || (decide ((pm_y e.2.1).name = "<init>") && decide (pm_ret e.2.1 = none))))
theorem pm_c0 : ∀ w ∈ (pm_calls 0).flatMap (pm_wc 0), w ∈ pm_ws := pm_subg [328, 97, 98, 77, 906, 744, 745, 81, 907, 909, 9, 81, 924, 926, 12, 81, 944, 946, 14, 81, 952, 954, 16, 77, 911, 858, 859, 81, 912, 914, 10, 77, 922, 767, 768, 81, 917, 919, 11, 77, 923, 748, 749, 77, 916, 824, 825, 81, 928, 929, 81, 936, 937, 81, 940, 942, 13, 77, 939, 832, 833, 81, 948, 950, 15, 81, 957, 959, 17] (by decide +kernel) (by decide +kernel)
theorem pm_cc0 : ∀ e ∈ pm_calls 0, pm_chkc e = true := by decide +kernel
theorem pm_c1 : ∀ w ∈ (pm_calls 1).flatMap (pm_wc 1), w ∈ pm_ws := pm_subg [269, 97, 98, 74, 566, 108, 74, 567, 568, 79, 562, 564, 1, 78, 570, 571, 572, 79, 574, 576, 2, 79, 578, 580, 3, 79, 592, 593] (by decide +kernel) (by decide +kernel)
theorem pm_cc1 : ∀ e ∈ pm_calls 1, pm_chkc e = true := by decide +kernel
theorem pm_c2 : ∀ w ∈ (pm_calls 2).flatMap (pm_wc 2), w ∈ pm_ws := pm_subg [157, 97, 98, 74, 675, 108, 76, 612, 613, 614] (by decide +kernel) (by decide +kernel)
theorem pm_cc2 : ∀ e ∈ pm_calls 2, pm_chkc e = true := by decide +kernel
theorem pm_c3 : ∀ w ∈ (pm_calls 3).flatMap (pm_wc 3), w ∈ pm_ws := pm_subg [136, 97, 98, 75, 663, 653, 654, 72, 524] (by decide +kernel) (by decide +kernel)
theorem pm_cc3 : ∀ e ∈ pm_calls 3, pm_chkc e = true := by decide +kernel
theorem pm_c4 : ∀ w ∈ (pm_calls 4).flatMap (pm_wc 4), w ∈ pm_ws := pm_subg [236, 97, 98, 77, 743, 744, 745, 78, 758, 760, 7, 77, 766, 767, 768, 78, 762, 763, 77, 823, 824, 825, 77, 827, 748, 749, 78, 828, 829, 78, 837, 838, 77, 853, 854, 855, 77, 831, 832, 833, 78, 840, 841, 77, 847, 848, 849] (by decide +kernel) (by decide +kernel)
theorem pm_cc4 : ∀ e ∈ pm_calls 4, pm_chkc e = true := by decide +kernel
theorem pm_c5 : ∀ w ∈ (pm_calls 5).flatMap (pm_wc 5), w ∈ pm_ws := pm_subg [361, 97, 98] (by decide +kernel) (by decide +kernel)
theorem pm_cc5 : ∀ e ∈ pm_calls 5, pm_chkc e = true := by decide +kernel
theorem pm_c6 : ∀ w ∈ (pm_calls 6).flatMap (pm_wc 6), w ∈ pm_ws := pm_subg [199, 97, 98, 77, 747, 748, 749, 77, 751, 753, 6, 77, 755, 756, 87, 770, 771, 772, 87, 780, 781, 782, 77, 851, 767, 768, 77, 835, 824, 825, 77, 857, 858, 859, 72, 524] (by decide +kernel) (by decide +kernel)
theorem pm_cc6 : ∀ e ∈ pm_calls 6, pm_chkc e = true := by decide +kernel
theorem pm_c7 : ∀ w ∈ (pm_calls 7).flatMap (pm_wc 7), w ∈ pm_ws := pm_subg [104, 97, 98, 74, 107, 108, 73, 500, 501, 502, 73, 487, 480, 481, 85, 504, 505, 72, 524, 73, 488, 489, 490, 73, 519, 520, 521, 73, 515, 516, 517, 73, 536, 512, 513, 73, 625, 484, 485] (by decide +kernel) (by decide +kernel)
theorem pm_cc7 : ∀ e ∈ pm_calls 7, pm_chkc e = true := by decide +kernel
theorem pm_c8 : ∀ w ∈ (pm_calls 8).flatMap (pm_wc 8), w ∈ pm_ws := pm_subg [386, 97, 98, 79, 267, 74, 557, 108, 79, 558, 559, 560, 83, 582, 584, 4, 79, 599, 600, 601, 73, 586, 484, 485, 73, 587, 516, 517, 79, 588, 589, 590, 79, 595, 596, 597, 83, 553, 554, 555, 74, 603, 568, 83, 604, 606, 5, 76, 608, 609, 610, 73, 616, 617, 618, 73, 620, 489, 490, 73, 621, 622, 623, 73, 626, 627, 628, 83, 634, 635, 636, 73, 705, 512, 513, 83, 1008, 702, 703, 83, 726, 693, 694] (by decide +kernel) (by decide +kernel)
theorem pm_cc8 : ∀ e ∈ pm_calls 8, pm_chkc e = true := by decide +kernel
theorem pm_c9 : ∀ w ∈ (pm_calls 9).flatMap (pm_wc 9), w ∈ pm_ws := pm_subg [308, 97, 98, 80, 889, 882, 883, 86, 890, 639] (by decide +kernel) (by decide +kernel)
theorem pm_cc9 : ∀ e ∈ pm_calls 9, pm_chkc e = true := by decide +kernel
theorem pm_c10 : ∀ w ∈ (pm_calls 10).flatMap (pm_wc 10), w ∈ pm_ws := pm_subg [96, 97, 98, 73, 101, 102, 75, 134, 76, 155, 77, 197, 78, 234, 79, 267, 80, 306, 81, 326, 82, 359, 83, 383, 384, 73, 479, 480, 481, 73, 483, 484, 485, 83, 492, 493, 494, 73, 496, 497, 498, 73, 511, 512, 513, 73, 526, 520, 521, 73, 527, 501, 502, 73, 532, 533, 534, 72, 541, 543, 0, 72, 545, 524, 72, 546, 547, 83, 549, 550, 551, 83, 630, 631, 632, 86, 638, 639, 75, 652, 653, 654, 72, 656, 657, 75, 659, 660, 661, 72, 668, 669, 76, 671, 672, 673, 76, 680, 613, 614, 76, 681, 609, 610, 83, 686, 554, 555, 79, 691, 559, 560, 83, 692, 693, 694, 83, 701, 702, 703, 73, 710, 711, 712, 83, 714, 715, 716, 83, 718, 719, 720, 83, 722, 723, 724, 77, 731, 732, 733, 78, 739, 740, 741, 72, 861, 863, 8, 72, 878, 879, 80, 881, 882, 883, 80, 885, 886, 887, 85, 895, 896, 81, 902, 903, 904, 81, 966, 967, 968, 72, 970, 972, 18, 72, 997, 998, 76, 979, 980, 981, 83, 1004, 1005, 1006, 72, 1009, 1010, 75, 983, 984, 985, 72, 1016, 1017, 72, 1023, 1025, 20, 83, 1035, 1036, 1037, 82, 1049, 1050, 1051, 82, 1057, 1058, 1059, 82, 1061, 1062, 1063, 72, 1027, 1029, 21, 85, 1073, 505, 72, 974, 976, 19, 75, 992, 993, 994, 83, 978, 635, 636, 75, 988, 989, 990] (by decide +kernel) (by decide +kernel)
theorem pm_cc10 : ∀ e ∈ pm_calls 10, pm_chkc e = true := by decide +kernel
theorem pm_c11 : ∀ w ∈ (pm_calls 11).flatMap (pm_wc 11), w ∈ pm_ws := pm_subg [1079, 97, 98, 84, 1080, 1082, 22, 84, 1287, 1288, 84, 1084, 1086, 23, 84, 1283, 1285, 24, 84, 1294, 1296, 26, 84, 1302, 1304, 27, 84, 1290, 1292, 25, 84, 1310, 1312, 28, 84, 1318, 1320, 29, 84, 1323, 1325, 30, 84, 1383, 1385, 43, 84, 1393, 1394, 84, 1402, 1404, 44, 84, 1367, 1369, 41, 84, 1331, 1333, 32, 84, 1339, 1341, 34, 84, 1355, 1357, 38, 84, 1351, 1353, 37, 84, 1347, 1349, 36, 84, 1359, 1361, 39, 84, 1335, 1337, 33, 84, 1343, 1345, 35, 84, 1363, 1365, 40, 84, 1327, 1329, 31, 84, 1371, 1373, 42, 84, 1415, 1417, 45, 84, 1437, 1439, 46, 84, 1462, 1464, 50, 84, 1445, 1447, 48, 84, 1459, 1460, 84, 1470, 1472, 52, 84, 1477, 1479, 53, 84, 1485, 1487, 55, 84, 1455, 1457, 49, 84, 1466, 1468, 51, 84, 1481, 1483, 54, 84, 1441, 1443, 47, 84, 1501, 1502, 84, 1506, 1508, 56, 84, 1530, 1532, 60, 84, 1534, 1536, 61, 84, 1522, 1524, 58, 84, 1526, 1528, 59, 84, 1518, 1520, 57, 84, 1538, 1540, 62, 84, 1550, 1552, 64, 84, 1554, 1556, 65, 84, 1546, 1548, 63, 84, 1563, 1565, 66, 84, 1571, 1573, 67, 84, 1583, 1585, 69, 84, 1579, 1581, 68, 84, 1597, 1599, 70] (by decide +kernel) (by decide +kernel)
theorem pm_cc11 : ∀ e ∈ pm_calls 11, pm_chkc e = true := by decide +kernel
theorem pm_c12 : ∀ w ∈ (pm_calls 12).flatMap (pm_wc 12), w ∈ pm_ws := pm_subg [87, 774, 775, 776, 87, 784, 785, 786, 88, 788, 789, 89, 796, 797] (by decide +kernel) (by decide +kernel)
theorem pm_cc12 : ∀ e ∈ pm_calls 12, pm_chkc e = true := by decide +kernel
theorem pm_c13 : ∀ w ∈ (pm_calls 13).flatMap (pm_wc 13), w ∈ pm_ws := pm_subg [87, 791, 792] (by decide +kernel) (by decide +kernel)
theorem pm_cc13 : ∀ e ∈ pm_calls 13, pm_chkc e = true := by decide +kernel
theorem pm_c14 : ∀ w ∈ (pm_calls 14).flatMap (pm_wc 14), w ∈ pm_ws := pm_subg [] (by decide +kernel) (by decide +kernel)
theorem pm_cc14 : ∀ e ∈ pm_calls 14, pm_chkc e = true := by decide +kernel
theorem pm_c15 : ∀ w ∈ (pm_calls 15).flatMap (pm_wc 15), w ∈ pm_ws := pm_subg [] (by decide +kernel) (by decide +kernel)
theorem pm_cc15 : ∀ e ∈ pm_calls 15, pm_chkc e = true := by decide +kernel
theorem pm_c16 : ∀ w ∈ (pm_calls 16).flatMap (pm_wc 16), w ∈ pm_ws := pm_subg [] (by decide +kernel) (by decide +kernel)
theorem pm_cc16 : ∀ e ∈ pm_calls 16, pm_chkc e = true := by decide +kernel
theorem pm_c17 : ∀ w ∈ (pm_calls 17).flatMap (pm_wc 17), w ∈ pm_ws := pm_subg [] (by decide +kernel) (by decide +kernel)
theorem pm_cc17 : ∀ e ∈ pm_calls 17, pm_chkc e = true := by decide +kernel
theorem pm_c18 : ∀ w ∈ (pm_calls 18).flatMap (pm_wc 18), w ∈ pm_ws := pm_subg [72, 93, 94, 84, 1076, 1077, 72, 471, 472, 473, 84, 1275, 1276, 1277, 72, 475, 476, 477, 84, 1279, 1280, 1281, 72, 507, 508, 509, 84, 1298, 1299, 1300, 72, 528, 529, 530, 84, 1306, 1307, 1308, 72, 537, 538, 539, 84, 1314, 1315, 1316, 72, 644, 645, 646, 84, 1375, 1376, 1377, 72, 648, 649, 650, 84, 1379, 1380, 1381, 72, 664, 665, 666, 84, 1389, 1390, 1391, 72, 676, 677, 678, 84, 1398, 1399, 1400, 72, 682, 683, 684, 84, 1406, 1407, 1408, 72, 687, 688, 689, 84, 1410, 1411, 1412, 72, 697, 698, 699, 84, 1419, 1420, 1421, 72, 706, 707, 708, 84, 1423, 1424, 1425, 72, 727, 728, 729, 84, 1427, 1428, 1429, 72, 735, 736, 737, 84, 1433, 1434, 1435, 72, 866, 867, 868, 84, 1489, 1490, 1491, 72, 870, 871, 872, 84, 1493, 1494, 1495, 72, 874, 875, 876, 84, 1497, 1498, 1499, 72, 891, 892, 893, 84, 1510, 1511, 1512, 72, 898, 899, 900, 84, 1514, 1515, 1516, 72, 962, 963, 964, 84, 1542, 1543, 1544, 72, 1000, 1001, 1002, 84, 1558, 1559, 1560, 72, 1012, 1013, 1014, 84, 1567, 1568, 1569, 72, 1019, 1020, 1021, 84, 1575, 1576, 1577, 72, 1031, 1032, 1033, 84, 1587, 1588, 1589, 72, 1039, 1040, 1041, 84, 1591, 1592, 1593, 72, 1045, 1046, 1047, 84, 1601, 1602, 1603, 72, 1053, 1054, 1055, 84, 1605, 1606, 1607, 72, 1065, 1066, 1067, 84, 1609, 1610, 1611, 72, 1069, 1070, 1071, 84, 1613, 1614, 1615] (by decide +kernel) (by decide +kernel)
theorem pm_cc18 : ∀ e ∈ pm_calls 18, pm_chkc e = true := by decide +kernel
theorem pm_cA : ∀ k : Nat, ∀ w ∈ (pm_calls k).flatMap (pm_wc k), w ∈ pm_ws := fun k => match k with
  | 0 => pm_c0
  | 1 => pm_c1
  | 2 => pm_c2
  | 3 => pm_c3
  | 4 => pm_c4
  | 5 => pm_c5
  | 6 => pm_c6
  | 7 => pm_c7
  | 8 => pm_c8
  | 9 => pm_c9
  | 10 => pm_c10
  | 11 => pm_c11
  | 12 => pm_c12
  | 13 => pm_c13
  | 14 => pm_c14
  | 15 => pm_c15
  | 16 => pm_c16
  | 17 => pm_c17
  | 18 => pm_c18
  | _ + 19 => fun w h => by simp [pm_calls] at h
theorem pm_cB : ∀ k : Nat, ∀ e ∈ pm_calls k, pm_chkc e = true := fun k => match k with
  | 0 => pm_cc0
  | 1 => pm_cc1
  | 2 => pm_cc2
  | 3 => pm_cc3
  | 4 => pm_cc4
  | 5 => pm_cc5
  | 6 => pm_cc6
  | 7 => pm_cc7
  | 8 => pm_cc8
  | 9 => pm_cc9
  | 10 => pm_cc10
  | 11 => pm_cc11
  | 12 => pm_cc12
  | 13 => pm_cc13
  | 14 => pm_cc14
  | 15 => pm_cc15
  | 16 => pm_cc16
  | 17 => pm_cc17
  | 18 => pm_cc18
  | _ + 19 => fun w h => by simp [pm_calls] at h
def pm_nest : List (Nat × Nat × Nat) := [(3, 29, 121), (6, 65, 121), (7, 50, 121), (8, 11, 14), (10, 18, 28), (10, 25, 23), (10, 32, 46), (10, 39, 34), (10, 46, 14), (10, 53, 87), (10, 60, 0), (10, 67, 42)]
def pm_wn (e : Nat × Nat × Nat) : Cond := .methodLinkNest (pm_own e.1) e.2.1 (pm_y e.2.2) "MarkTree"
theorem pm_nA : ∀ w ∈ pm_nest.map pm_wn, w ∈ lw_tbl := pm_sub [987, 836, 523, 388, 133, 154, 196, 233, 266, 305, 325, 358] (by decide +kernel)
theorem pm_nB : ∀ k : Nat, ∀ e ∈ pm_calls k, ¬ e.2.2.1 < 10 → (k, e.1, e.2.1) ∈ pm_nest := fun k => match k with
  | 0 => by decide +kernel
  | 1 => by decide +kernel
  | 2 => by decide +kernel
  | 3 => by decide +kernel
  | 4 => by decide +kernel
  | 5 => by decide +kernel
  | 6 => by decide +kernel
  | 7 => by decide +kernel
  | 8 => by decide +kernel
  | 9 => by decide +kernel
  | 10 => by decide +kernel
  | 11 => by decide +kernel
  | 12 => by decide +kernel
  | 13 => by decide +kernel
  | 14 => by decide +kernel
  | 15 => by decide +kernel
  | 16 => by decide +kernel
  | 17 => by decide +kernel
  | 18 => by decide +kernel
  | _ + 19 => fun w h => by simp [pm_calls] at h
def pm_wxf (k : Nat) (e : Nat × Nat) : Cond := match e.2 with
  | 0 => .fieldLink (pm_own k) e.1 "java/lang/String" "value" "[B"
  | _ => .fieldLink (pm_own k) e.1 "java/lang/String" "coder" "B"
def pm_wxs (k : Nat) (e : Nat × Nat) : Cond := match e.2 with
  | 0 => .fieldLink (pm_own k) e.1 "java/lang/String" "COMPACT_STRINGS" "Z"
  | _ => .fieldLink (pm_own k) e.1 "jdk/internal/util/Preconditions" "SIOOBE_FORMATTER" "Ljava/util/function/BiFunction;"
theorem pm_xf0 : ∀ w ∈ (pm_xfl 0).map (pm_wxf 0), w ∈ pm_ws := pm_subg [] (by decide +kernel) (by decide +kernel)
theorem pm_xf1 : ∀ w ∈ (pm_xfl 1).map (pm_wxf 1), w ∈ pm_ws := pm_subg [] (by decide +kernel) (by decide +kernel)
theorem pm_xf2 : ∀ w ∈ (pm_xfl 2).map (pm_wxf 2), w ∈ pm_ws := pm_subg [] (by decide +kernel) (by decide +kernel)
theorem pm_xf3 : ∀ w ∈ (pm_xfl 3).map (pm_wxf 3), w ∈ pm_ws := pm_subg [] (by decide +kernel) (by decide +kernel)
theorem pm_xf4 : ∀ w ∈ (pm_xfl 4).map (pm_wxf 4), w ∈ pm_ws := pm_subg [] (by decide +kernel) (by decide +kernel)
theorem pm_xf5 : ∀ w ∈ (pm_xfl 5).map (pm_wxf 5), w ∈ pm_ws := pm_subg [] (by decide +kernel) (by decide +kernel)
theorem pm_xf6 : ∀ w ∈ (pm_xfl 6).map (pm_wxf 6), w ∈ pm_ws := pm_subg [] (by decide +kernel) (by decide +kernel)
theorem pm_xf7 : ∀ w ∈ (pm_xfl 7).map (pm_wxf 7), w ∈ pm_ws := pm_subg [] (by decide +kernel) (by decide +kernel)
theorem pm_xf8 : ∀ w ∈ (pm_xfl 8).map (pm_wxf 8), w ∈ pm_ws := pm_subg [] (by decide +kernel) (by decide +kernel)
theorem pm_xf9 : ∀ w ∈ (pm_xfl 9).map (pm_wxf 9), w ∈ pm_ws := pm_subg [] (by decide +kernel) (by decide +kernel)
theorem pm_xf10 : ∀ w ∈ (pm_xfl 10).map (pm_wxf 10), w ∈ pm_ws := pm_subg [] (by decide +kernel) (by decide +kernel)
theorem pm_xf11 : ∀ w ∈ (pm_xfl 11).map (pm_wxf 11), w ∈ pm_ws := pm_subg [] (by decide +kernel) (by decide +kernel)
theorem pm_xf12 : ∀ w ∈ (pm_xfl 12).map (pm_wxf 12), w ∈ pm_ws := pm_subg [1618, 1619] (by decide +kernel) (by decide +kernel)
theorem pm_xf13 : ∀ w ∈ (pm_xfl 13).map (pm_wxf 13), w ∈ pm_ws := pm_subg [] (by decide +kernel) (by decide +kernel)
theorem pm_xf14 : ∀ w ∈ (pm_xfl 14).map (pm_wxf 14), w ∈ pm_ws := pm_subg [] (by decide +kernel) (by decide +kernel)
theorem pm_xf15 : ∀ w ∈ (pm_xfl 15).map (pm_wxf 15), w ∈ pm_ws := pm_subg [] (by decide +kernel) (by decide +kernel)
theorem pm_xf16 : ∀ w ∈ (pm_xfl 16).map (pm_wxf 16), w ∈ pm_ws := pm_subg [] (by decide +kernel) (by decide +kernel)
theorem pm_xf17 : ∀ w ∈ (pm_xfl 17).map (pm_wxf 17), w ∈ pm_ws := pm_subg [] (by decide +kernel) (by decide +kernel)
theorem pm_xf18 : ∀ w ∈ (pm_xfl 18).map (pm_wxf 18), w ∈ pm_ws := pm_subg [] (by decide +kernel) (by decide +kernel)
theorem pm_xfA : ∀ k : Nat, ∀ w ∈ (pm_xfl k).map (pm_wxf k), w ∈ pm_ws := fun k => match k with
  | 0 => pm_xf0
  | 1 => pm_xf1
  | 2 => pm_xf2
  | 3 => pm_xf3
  | 4 => pm_xf4
  | 5 => pm_xf5
  | 6 => pm_xf6
  | 7 => pm_xf7
  | 8 => pm_xf8
  | 9 => pm_xf9
  | 10 => pm_xf10
  | 11 => pm_xf11
  | 12 => pm_xf12
  | 13 => pm_xf13
  | 14 => pm_xf14
  | 15 => pm_xf15
  | 16 => pm_xf16
  | 17 => pm_xf17
  | 18 => pm_xf18
  | _ + 19 => fun w h => by simp [pm_xfl] at h
theorem pm_xs0 : ∀ w ∈ (pm_xst 0).map (pm_wxs 0), w ∈ pm_ws := pm_subg [] (by decide +kernel) (by decide +kernel)
theorem pm_xs1 : ∀ w ∈ (pm_xst 1).map (pm_wxs 1), w ∈ pm_ws := pm_subg [] (by decide +kernel) (by decide +kernel)
theorem pm_xs2 : ∀ w ∈ (pm_xst 2).map (pm_wxs 2), w ∈ pm_ws := pm_subg [] (by decide +kernel) (by decide +kernel)
theorem pm_xs3 : ∀ w ∈ (pm_xst 3).map (pm_wxs 3), w ∈ pm_ws := pm_subg [] (by decide +kernel) (by decide +kernel)
theorem pm_xs4 : ∀ w ∈ (pm_xst 4).map (pm_wxs 4), w ∈ pm_ws := pm_subg [] (by decide +kernel) (by decide +kernel)
theorem pm_xs5 : ∀ w ∈ (pm_xst 5).map (pm_wxs 5), w ∈ pm_ws := pm_subg [] (by decide +kernel) (by decide +kernel)
theorem pm_xs6 : ∀ w ∈ (pm_xst 6).map (pm_wxs 6), w ∈ pm_ws := pm_subg [] (by decide +kernel) (by decide +kernel)
theorem pm_xs7 : ∀ w ∈ (pm_xst 7).map (pm_wxs 7), w ∈ pm_ws := pm_subg [] (by decide +kernel) (by decide +kernel)
theorem pm_xs8 : ∀ w ∈ (pm_xst 8).map (pm_wxs 8), w ∈ pm_ws := pm_subg [] (by decide +kernel) (by decide +kernel)
theorem pm_xs9 : ∀ w ∈ (pm_xst 9).map (pm_wxs 9), w ∈ pm_ws := pm_subg [] (by decide +kernel) (by decide +kernel)
theorem pm_xs10 : ∀ w ∈ (pm_xst 10).map (pm_wxs 10), w ∈ pm_ws := pm_subg [] (by decide +kernel) (by decide +kernel)
theorem pm_xs11 : ∀ w ∈ (pm_xst 11).map (pm_wxs 11), w ∈ pm_ws := pm_subg [] (by decide +kernel) (by decide +kernel)
theorem pm_xs12 : ∀ w ∈ (pm_xst 12).map (pm_wxs 12), w ∈ pm_ws := pm_subg [778, 794] (by decide +kernel) (by decide +kernel)
theorem pm_xs13 : ∀ w ∈ (pm_xst 13).map (pm_wxs 13), w ∈ pm_ws := pm_subg [] (by decide +kernel) (by decide +kernel)
theorem pm_xs14 : ∀ w ∈ (pm_xst 14).map (pm_wxs 14), w ∈ pm_ws := pm_subg [] (by decide +kernel) (by decide +kernel)
theorem pm_xs15 : ∀ w ∈ (pm_xst 15).map (pm_wxs 15), w ∈ pm_ws := pm_subg [] (by decide +kernel) (by decide +kernel)
theorem pm_xs16 : ∀ w ∈ (pm_xst 16).map (pm_wxs 16), w ∈ pm_ws := pm_subg [] (by decide +kernel) (by decide +kernel)
theorem pm_xs17 : ∀ w ∈ (pm_xst 17).map (pm_wxs 17), w ∈ pm_ws := pm_subg [] (by decide +kernel) (by decide +kernel)
theorem pm_xs18 : ∀ w ∈ (pm_xst 18).map (pm_wxs 18), w ∈ pm_ws := pm_subg [] (by decide +kernel) (by decide +kernel)
theorem pm_xsA : ∀ k : Nat, ∀ w ∈ (pm_xst k).map (pm_wxs k), w ∈ pm_ws := fun k => match k with
  | 0 => pm_xs0
  | 1 => pm_xs1
  | 2 => pm_xs2
  | 3 => pm_xs3
  | 4 => pm_xs4
  | 5 => pm_xs5
  | 6 => pm_xs6
  | 7 => pm_xs7
  | 8 => pm_xs8
  | 9 => pm_xs9
  | 10 => pm_xs10
  | 11 => pm_xs11
  | 12 => pm_xs12
  | 13 => pm_xs13
  | 14 => pm_xs14
  | 15 => pm_xs15
  | 16 => pm_xs16
  | 17 => pm_xs17
  | 18 => pm_xs18
  | _ + 19 => fun w h => by simp [pm_xst] at h
def pm_wnw (k : Nat) (e : Nat × Nat) : Cond := .classLink (pm_own k) e.1 (pm_own e.2)
theorem pm_w0 : ∀ w ∈ (pm_news 0).map (pm_wnw 0), w ∈ pm_ws := pm_subg [] (by decide +kernel) (by decide +kernel)
theorem pm_w1 : ∀ w ∈ (pm_news 1).map (pm_wnw 1), w ∈ pm_ws := pm_subg [] (by decide +kernel) (by decide +kernel)
theorem pm_w2 : ∀ w ∈ (pm_news 2).map (pm_wnw 2), w ∈ pm_ws := pm_subg [] (by decide +kernel) (by decide +kernel)
theorem pm_w3 : ∀ w ∈ (pm_news 3).map (pm_wnw 3), w ∈ pm_ws := pm_subg [] (by decide +kernel) (by decide +kernel)
theorem pm_w4 : ∀ w ∈ (pm_news 4).map (pm_wnw 4), w ∈ pm_ws := pm_subg [] (by decide +kernel) (by decide +kernel)
theorem pm_w5 : ∀ w ∈ (pm_news 5).map (pm_wnw 5), w ∈ pm_ws := pm_subg [] (by decide +kernel) (by decide +kernel)
theorem pm_w6 : ∀ w ∈ (pm_news 6).map (pm_wnw 6), w ∈ pm_ws := pm_subg [] (by decide +kernel) (by decide +kernel)
theorem pm_w7 : ∀ w ∈ (pm_news 7).map (pm_wnw 7), w ∈ pm_ws := pm_subg [] (by decide +kernel) (by decide +kernel)
theorem pm_w8 : ∀ w ∈ (pm_news 8).map (pm_wnw 8), w ∈ pm_ws := pm_subg [387] (by decide +kernel) (by decide +kernel)
theorem pm_w9 : ∀ w ∈ (pm_news 9).map (pm_wnw 9), w ∈ pm_ws := pm_subg [] (by decide +kernel) (by decide +kernel)
theorem pm_w10 : ∀ w ∈ (pm_news 10).map (pm_wnw 10), w ∈ pm_ws := pm_subg [99, 131, 152, 194, 231, 264, 303, 323, 356, 381] (by decide +kernel) (by decide +kernel)
theorem pm_w11 : ∀ w ∈ (pm_news 11).map (pm_wnw 11), w ∈ pm_ws := pm_subg [] (by decide +kernel) (by decide +kernel)
theorem pm_w12 : ∀ w ∈ (pm_news 12).map (pm_wnw 12), w ∈ pm_ws := pm_subg [] (by decide +kernel) (by decide +kernel)
theorem pm_w13 : ∀ w ∈ (pm_news 13).map (pm_wnw 13), w ∈ pm_ws := pm_subg [] (by decide +kernel) (by decide +kernel)
theorem pm_w14 : ∀ w ∈ (pm_news 14).map (pm_wnw 14), w ∈ pm_ws := pm_subg [] (by decide +kernel) (by decide +kernel)
theorem pm_w15 : ∀ w ∈ (pm_news 15).map (pm_wnw 15), w ∈ pm_ws := pm_subg [] (by decide +kernel) (by decide +kernel)
theorem pm_w16 : ∀ w ∈ (pm_news 16).map (pm_wnw 16), w ∈ pm_ws := pm_subg [] (by decide +kernel) (by decide +kernel)
theorem pm_w17 : ∀ w ∈ (pm_news 17).map (pm_wnw 17), w ∈ pm_ws := pm_subg [] (by decide +kernel) (by decide +kernel)
theorem pm_w18 : ∀ w ∈ (pm_news 18).map (pm_wnw 18), w ∈ pm_ws := pm_subg [91, 1074] (by decide +kernel) (by decide +kernel)
theorem pm_wA : ∀ k : Nat, ∀ w ∈ (pm_news k).map (pm_wnw k), w ∈ pm_ws := fun k => match k with
  | 0 => pm_w0
  | 1 => pm_w1
  | 2 => pm_w2
  | 3 => pm_w3
  | 4 => pm_w4
  | 5 => pm_w5
  | 6 => pm_w6
  | 7 => pm_w7
  | 8 => pm_w8
  | 9 => pm_w9
  | 10 => pm_w10
  | 11 => pm_w11
  | 12 => pm_w12
  | 13 => pm_w13
  | 14 => pm_w14
  | 15 => pm_w15
  | 16 => pm_w16
  | 17 => pm_w17
  | 18 => pm_w18
  | _ + 19 => fun w h => by simp [pm_news] at h
def pm_wmn (k : Nat) (e : Nat × Nat) : Cond := .classLink (pm_own k) e.1 (if e.2 = 20 then "[[I" else "[[J")
theorem pm_mn0 : ∀ w ∈ (pm_mnas 0).map (pm_wmn 0), w ∈ pm_ws := pm_subg [329] (by decide +kernel) (by decide +kernel)
theorem pm_mn1 : ∀ w ∈ (pm_mnas 1).map (pm_wmn 1), w ∈ pm_ws := pm_subg [] (by decide +kernel) (by decide +kernel)
theorem pm_mn2 : ∀ w ∈ (pm_mnas 2).map (pm_wmn 2), w ∈ pm_ws := pm_subg [158] (by decide +kernel) (by decide +kernel)
theorem pm_mn3 : ∀ w ∈ (pm_mnas 3).map (pm_wmn 3), w ∈ pm_ws := pm_subg [] (by decide +kernel) (by decide +kernel)
theorem pm_mn4 : ∀ w ∈ (pm_mnas 4).map (pm_wmn 4), w ∈ pm_ws := pm_subg [237] (by decide +kernel) (by decide +kernel)
theorem pm_mn5 : ∀ w ∈ (pm_mnas 5).map (pm_wmn 5), w ∈ pm_ws := pm_subg [362, 363] (by decide +kernel) (by decide +kernel)
theorem pm_mn6 : ∀ w ∈ (pm_mnas 6).map (pm_wmn 6), w ∈ pm_ws := pm_subg [] (by decide +kernel) (by decide +kernel)
theorem pm_mn7 : ∀ w ∈ (pm_mnas 7).map (pm_wmn 7), w ∈ pm_ws := pm_subg [105] (by decide +kernel) (by decide +kernel)
theorem pm_mn8 : ∀ w ∈ (pm_mnas 8).map (pm_wmn 8), w ∈ pm_ws := pm_subg [] (by decide +kernel) (by decide +kernel)
theorem pm_mn9 : ∀ w ∈ (pm_mnas 9).map (pm_wmn 9), w ∈ pm_ws := pm_subg [] (by decide +kernel) (by decide +kernel)
theorem pm_mn10 : ∀ w ∈ (pm_mnas 10).map (pm_wmn 10), w ∈ pm_ws := pm_subg [] (by decide +kernel) (by decide +kernel)
theorem pm_mn11 : ∀ w ∈ (pm_mnas 11).map (pm_wmn 11), w ∈ pm_ws := pm_subg [] (by decide +kernel) (by decide +kernel)
theorem pm_mn12 : ∀ w ∈ (pm_mnas 12).map (pm_wmn 12), w ∈ pm_ws := pm_subg [] (by decide +kernel) (by decide +kernel)
theorem pm_mn13 : ∀ w ∈ (pm_mnas 13).map (pm_wmn 13), w ∈ pm_ws := pm_subg [] (by decide +kernel) (by decide +kernel)
theorem pm_mn14 : ∀ w ∈ (pm_mnas 14).map (pm_wmn 14), w ∈ pm_ws := pm_subg [] (by decide +kernel) (by decide +kernel)
theorem pm_mn15 : ∀ w ∈ (pm_mnas 15).map (pm_wmn 15), w ∈ pm_ws := pm_subg [] (by decide +kernel) (by decide +kernel)
theorem pm_mn16 : ∀ w ∈ (pm_mnas 16).map (pm_wmn 16), w ∈ pm_ws := pm_subg [] (by decide +kernel) (by decide +kernel)
theorem pm_mn17 : ∀ w ∈ (pm_mnas 17).map (pm_wmn 17), w ∈ pm_ws := pm_subg [] (by decide +kernel) (by decide +kernel)
theorem pm_mn18 : ∀ w ∈ (pm_mnas 18).map (pm_wmn 18), w ∈ pm_ws := pm_subg [] (by decide +kernel) (by decide +kernel)
theorem pm_mnA : ∀ k : Nat, ∀ w ∈ (pm_mnas k).map (pm_wmn k), w ∈ pm_ws := fun k => match k with
  | 0 => pm_mn0
  | 1 => pm_mn1
  | 2 => pm_mn2
  | 3 => pm_mn3
  | 4 => pm_mn4
  | 5 => pm_mn5
  | 6 => pm_mn6
  | 7 => pm_mn7
  | 8 => pm_mn8
  | 9 => pm_mn9
  | 10 => pm_mn10
  | 11 => pm_mn11
  | 12 => pm_mn12
  | 13 => pm_mn13
  | 14 => pm_mn14
  | 15 => pm_mn15
  | 16 => pm_mn16
  | 17 => pm_mn17
  | 18 => pm_mn18
  | _ + 19 => fun w h => by simp [pm_mnas] at h
def pm_strs : List (Nat × Nat × String) := [(0, 67, "not"), (0, 97, "mark"), (0, 99, "word"), (0, 101, "hand"), (0, 103, "before"), (0, 105, "at"), (0, 117, "and"), (0, 122, "or"), (4, 47, "key"), (4, 53, "allow"), (4, 55, "bar"), (4, 57, "need"), (4, 59, "most"), (4, 61, "strike"), (4, 95, "under"), (4, 101, "with"), (4, 103, "keeps"), (4, 105, "turns"), (4, 107, "raises")]
def pm_wk (k : Nat) (e : Nat × Value) : List Cond := match e.2 with
  | .int v => [.constant (pm_own k) e.1 v]
  | .long v => [.constantLong (pm_own k) e.1 v]
  | _ => []
def pm_chk (k : Nat) (e : Nat × Value) : Bool := match e.2 with
  | .int _ => true
  | .long _ => true
  | .ref j => decide (2001 ≤ j) && (match pm_strs[j - 2001]? with
    | some q => decide (q.1 = k ∧ q.2.1 = e.1)
    | none => false)
  | _ => false
theorem pm_k0 : ∀ w ∈ (pm_cons 0).flatMap (pm_wk 0), w ∈ pm_ws := pm_subg [] (by decide +kernel) (by decide +kernel)
theorem pm_kc0 : ∀ e ∈ pm_cons 0, pm_chk 0 e = true := by decide +kernel
theorem pm_k1 : ∀ w ∈ (pm_cons 1).flatMap (pm_wk 1), w ∈ pm_ws := pm_subg [] (by decide +kernel) (by decide +kernel)
theorem pm_kc1 : ∀ e ∈ pm_cons 1, pm_chk 1 e = true := by decide +kernel
theorem pm_k2 : ∀ w ∈ (pm_cons 2).flatMap (pm_wk 2), w ∈ pm_ws := pm_subg [] (by decide +kernel) (by decide +kernel)
theorem pm_kc2 : ∀ e ∈ pm_cons 2, pm_chk 2 e = true := by decide +kernel
theorem pm_k3 : ∀ w ∈ (pm_cons 3).flatMap (pm_wk 3), w ∈ pm_ws := pm_subg [] (by decide +kernel) (by decide +kernel)
theorem pm_kc3 : ∀ e ∈ pm_cons 3, pm_chk 3 e = true := by decide +kernel
theorem pm_k4 : ∀ w ∈ (pm_cons 4).flatMap (pm_wk 4), w ∈ pm_ws := pm_subg [] (by decide +kernel) (by decide +kernel)
theorem pm_kc4 : ∀ e ∈ pm_cons 4, pm_chk 4 e = true := by decide +kernel
theorem pm_k5 : ∀ w ∈ (pm_cons 5).flatMap (pm_wk 5), w ∈ pm_ws := pm_subg [] (by decide +kernel) (by decide +kernel)
theorem pm_kc5 : ∀ e ∈ pm_cons 5, pm_chk 5 e = true := by decide +kernel
theorem pm_k6 : ∀ w ∈ (pm_cons 6).flatMap (pm_wk 6), w ∈ pm_ws := pm_subg [] (by decide +kernel) (by decide +kernel)
theorem pm_kc6 : ∀ e ∈ pm_cons 6, pm_chk 6 e = true := by decide +kernel
theorem pm_k7 : ∀ w ∈ (pm_cons 7).flatMap (pm_wk 7), w ∈ pm_ws := pm_subg [] (by decide +kernel) (by decide +kernel)
theorem pm_kc7 : ∀ e ∈ pm_cons 7, pm_chk 7 e = true := by decide +kernel
theorem pm_k8 : ∀ w ∈ (pm_cons 8).flatMap (pm_wk 8), w ∈ pm_ws := pm_subg [696] (by decide +kernel) (by decide +kernel)
theorem pm_kc8 : ∀ e ∈ pm_cons 8, pm_chk 8 e = true := by decide +kernel
theorem pm_k9 : ∀ w ∈ (pm_cons 9).flatMap (pm_wk 9), w ∈ pm_ws := pm_subg [] (by decide +kernel) (by decide +kernel)
theorem pm_kc9 : ∀ e ∈ pm_cons 9, pm_chk 9 e = true := by decide +kernel
theorem pm_k10 : ∀ w ∈ (pm_cons 10).flatMap (pm_wk 10), w ∈ pm_ws := pm_subg [1043, 1044, 996] (by decide +kernel) (by decide +kernel)
theorem pm_kc10 : ∀ e ∈ pm_cons 10, pm_chk 10 e = true := by decide +kernel
theorem pm_k11 : ∀ w ∈ (pm_cons 11).flatMap (pm_wk 11), w ∈ pm_ws := pm_subg [1322, 1396, 1387, 1388, 1397, 1414, 1431, 1432, 1449, 1450, 1451, 1452, 1453, 1454, 1474, 1475, 1476, 1504, 1505, 1562, 1595, 1596] (by decide +kernel) (by decide +kernel)
theorem pm_kc11 : ∀ e ∈ pm_cons 11, pm_chk 11 e = true := by decide +kernel
theorem pm_k12 : ∀ w ∈ (pm_cons 12).flatMap (pm_wk 12), w ∈ pm_ws := pm_subg [] (by decide +kernel) (by decide +kernel)
theorem pm_kc12 : ∀ e ∈ pm_cons 12, pm_chk 12 e = true := by decide +kernel
theorem pm_k13 : ∀ w ∈ (pm_cons 13).flatMap (pm_wk 13), w ∈ pm_ws := pm_subg [] (by decide +kernel) (by decide +kernel)
theorem pm_kc13 : ∀ e ∈ pm_cons 13, pm_chk 13 e = true := by decide +kernel
theorem pm_k14 : ∀ w ∈ (pm_cons 14).flatMap (pm_wk 14), w ∈ pm_ws := pm_subg [641, 642, 643] (by decide +kernel) (by decide +kernel)
theorem pm_kc14 : ∀ e ∈ pm_cons 14, pm_chk 14 e = true := by decide +kernel
theorem pm_k15 : ∀ w ∈ (pm_cons 15).flatMap (pm_wk 15), w ∈ pm_ws := pm_subg [] (by decide +kernel) (by decide +kernel)
theorem pm_kc15 : ∀ e ∈ pm_cons 15, pm_chk 15 e = true := by decide +kernel
theorem pm_k16 : ∀ w ∈ (pm_cons 16).flatMap (pm_wk 16), w ∈ pm_ws := pm_subg [] (by decide +kernel) (by decide +kernel)
theorem pm_kc16 : ∀ e ∈ pm_cons 16, pm_chk 16 e = true := by decide +kernel
theorem pm_k17 : ∀ w ∈ (pm_cons 17).flatMap (pm_wk 17), w ∈ pm_ws := pm_subg [] (by decide +kernel) (by decide +kernel)
theorem pm_kc17 : ∀ e ∈ pm_cons 17, pm_chk 17 e = true := by decide +kernel
theorem pm_k18 : ∀ w ∈ (pm_cons 18).flatMap (pm_wk 18), w ∈ pm_ws := pm_subg [1617] (by decide +kernel) (by decide +kernel)
theorem pm_kc18 : ∀ e ∈ pm_cons 18, pm_chk 18 e = true := by decide +kernel
theorem pm_kA : ∀ k : Nat, ∀ w ∈ (pm_cons k).flatMap (pm_wk k), w ∈ pm_ws := fun k => match k with
  | 0 => pm_k0
  | 1 => pm_k1
  | 2 => pm_k2
  | 3 => pm_k3
  | 4 => pm_k4
  | 5 => pm_k5
  | 6 => pm_k6
  | 7 => pm_k7
  | 8 => pm_k8
  | 9 => pm_k9
  | 10 => pm_k10
  | 11 => pm_k11
  | 12 => pm_k12
  | 13 => pm_k13
  | 14 => pm_k14
  | 15 => pm_k15
  | 16 => pm_k16
  | 17 => pm_k17
  | 18 => pm_k18
  | _ + 19 => fun w h => by simp [pm_cons] at h
theorem pm_kB : ∀ k : Nat, ∀ e ∈ pm_cons k, pm_chk k e = true := fun k => match k with
  | 0 => pm_kc0
  | 1 => pm_kc1
  | 2 => pm_kc2
  | 3 => pm_kc3
  | 4 => pm_kc4
  | 5 => pm_kc5
  | 6 => pm_kc6
  | 7 => pm_kc7
  | 8 => pm_kc8
  | 9 => pm_kc9
  | 10 => pm_kc10
  | 11 => pm_kc11
  | 12 => pm_kc12
  | 13 => pm_kc13
  | 14 => pm_kc14
  | 15 => pm_kc15
  | 16 => pm_kc16
  | 17 => pm_kc17
  | 18 => pm_kc18
  | _ + 19 => fun w h => by simp [pm_cons] at h
theorem pm_sA : ∀ w ∈ pm_strs.map (fun q => Cond.stringRef (pm_own q.1) q.2.1 q.2.2), w ∈ lw_tbl := pm_sub [921, 931, 932, 933, 934, 935, 956, 961, 765, 818, 819, 820, 821, 822, 846, 852, 843, 844, 845] (by decide +kernel)
def pm_okc (ci : Nat) (q : vw_C) : Prop := (∀ w ∈ u_ws q.1 q.2.1 q.2.2, w ∈ pm_ws) ∧ (∀ k, k < q.2.2 → parseFieldDescriptor (q.2.1 k).2.2.1 = some (pm_ty ci k)) ∧ (∀ a, a < q.2.2 → ∀ b, b < q.2.2 → a ≠ b → (q.2.1 a).2.1 ≠ (q.2.1 b).2.1) ∧ pm_own ci = q.1 ∧ (∀ k, pm_fin ci k = (q.2.1 k).2.2.2) ∧ (Cond.instantiable q.1 q.2.2 ∈ pm_ws ∧ Cond.initialized q.1 ∈ pm_ws) ∧ (∀ k, k < q.2.2 → (q.2.1 k).1 = q.1)
theorem pm_usg {C : String} {T : u_T} {N : Nat} (h : ∀ w ∈ u_ws C T N, w ∈ lw_tbl) : ∀ w ∈ u_ws C T N, w ∈ pm_ws := fun w hw => pm_wsin (h w hw) (by
  obtain ⟨k, -, rfl⟩ := List.mem_map.mp hw
  unfold u_lay
  split <;> rfl)
theorem pm_okc0 : pm_okc 0 (RX0, TX0, 7) := ⟨pm_usg wiX0, tyX0_ok, nmX0, rfl, fun _ => rfl, ⟨pm_wsin (List.mem_of_getElem? (i := 324) (by decide +kernel)) rfl, pm_wsin (List.mem_of_getElem? (i := 81) (by decide +kernel)) rfl⟩, by decide +kernel⟩
theorem pm_okc1 : pm_okc 1 (RX1, TX1, 8) := ⟨pm_usg wiX1, tyX1_ok, nmX1, rfl, fun _ => rfl, ⟨pm_wsin (List.mem_of_getElem? (i := 265) (by decide +kernel)) rfl, pm_wsin (List.mem_of_getElem? (i := 79) (by decide +kernel)) rfl⟩, by decide +kernel⟩
theorem pm_okc2 : pm_okc 2 (RX2, TX2, 7) := ⟨pm_usg wiX2, tyX2_ok, nmX2, rfl, fun _ => rfl, ⟨pm_wsin (List.mem_of_getElem? (i := 153) (by decide +kernel)) rfl, pm_wsin (List.mem_of_getElem? (i := 76) (by decide +kernel)) rfl⟩, by decide +kernel⟩
theorem pm_okc3 : pm_okc 3 (RX3, TX3, 4) := ⟨pm_usg wiX3, tyX3_ok, nmX3, rfl, fun _ => rfl, ⟨pm_wsin (List.mem_of_getElem? (i := 132) (by decide +kernel)) rfl, pm_wsin (List.mem_of_getElem? (i := 75) (by decide +kernel)) rfl⟩, by decide +kernel⟩
theorem pm_okc4 : pm_okc 4 (RX4, TX4, 6) := ⟨pm_usg wiX4, tyX4_ok, nmX4, rfl, fun _ => rfl, ⟨pm_wsin (List.mem_of_getElem? (i := 232) (by decide +kernel)) rfl, pm_wsin (List.mem_of_getElem? (i := 78) (by decide +kernel)) rfl⟩, by decide +kernel⟩
theorem pm_okc5 : pm_okc 5 (RX5, TX5, 4) := ⟨pm_usg wiX5, tyX5_ok, nmX5, rfl, fun _ => rfl, ⟨pm_wsin (List.mem_of_getElem? (i := 357) (by decide +kernel)) rfl, pm_wsin (List.mem_of_getElem? (i := 82) (by decide +kernel)) rfl⟩, by decide +kernel⟩
theorem pm_okc6 : pm_okc 6 (RX6, TX6, 7) := ⟨pm_usg wiX6, tyX6_ok, nmX6, rfl, fun _ => rfl, ⟨pm_wsin (List.mem_of_getElem? (i := 195) (by decide +kernel)) rfl, pm_wsin (List.mem_of_getElem? (i := 77) (by decide +kernel)) rfl⟩, by decide +kernel⟩
theorem pm_okc7 : pm_okc 7 (RX7, TX7, 5) := ⟨pm_usg wiX7, tyX7_ok, nmX7, rfl, fun _ => rfl, ⟨pm_wsin (List.mem_of_getElem? (i := 100) (by decide +kernel)) rfl, pm_wsin (List.mem_of_getElem? (i := 73) (by decide +kernel)) rfl⟩, by decide +kernel⟩
theorem pm_okc8 : pm_okc 8 (RX8, TX8, 13) := ⟨pm_usg wiX8, tyX8_ok, nmX8, rfl, fun _ => rfl, ⟨pm_wsin (List.mem_of_getElem? (i := 382) (by decide +kernel)) rfl, pm_wsin (List.mem_of_getElem? (i := 83) (by decide +kernel)) rfl⟩, by decide +kernel⟩
theorem pm_okc9 : pm_okc 9 (RX9, TX9, 4) := ⟨pm_usg wiX9, tyX9_ok, nmX9, rfl, fun _ => rfl, ⟨pm_wsin (List.mem_of_getElem? (i := 304) (by decide +kernel)) rfl, pm_wsin (List.mem_of_getElem? (i := 80) (by decide +kernel)) rfl⟩, by decide +kernel⟩
theorem pm_okc10 : pm_okc 10 (RX10, TX10, 12) := ⟨pm_usg wiX10, tyX10_ok, nmX10, rfl, fun _ => rfl, ⟨pm_wsin (List.mem_of_getElem? (i := 92) (by decide +kernel)) rfl, pm_wsin (List.mem_of_getElem? (i := 72) (by decide +kernel)) rfl⟩, by decide +kernel⟩
theorem pm_okc11 : pm_okc 11 (RX11, TX11, 62) := ⟨pm_usg wiX11, tyX11_ok, nmX11, rfl, fun _ => rfl, ⟨pm_wsin (List.mem_of_getElem? (i := 1075) (by decide +kernel)) rfl, pm_wsin (List.mem_of_getElem? (i := 84) (by decide +kernel)) rfl⟩, by decide +kernel⟩
theorem pm_clok : ∀ (ci : Nat) (q : vw_C), pm_cl[ci]? = some q → pm_okc ci q := fun ci q h => match ci, h with
  | 0, h => by cases h; exact pm_okc0
  | 1, h => by cases h; exact pm_okc1
  | 2, h => by cases h; exact pm_okc2
  | 3, h => by cases h; exact pm_okc3
  | 4, h => by cases h; exact pm_okc4
  | 5, h => by cases h; exact pm_okc5
  | 6, h => by cases h; exact pm_okc6
  | 7, h => by cases h; exact pm_okc7
  | 8, h => by cases h; exact pm_okc8
  | 9, h => by cases h; exact pm_okc9
  | 10, h => by cases h; exact pm_okc10
  | 11, h => by cases h; exact pm_okc11
  | n + 12, h => by simp [pm_cl] at h
