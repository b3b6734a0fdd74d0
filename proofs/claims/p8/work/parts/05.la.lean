def pm_ws : List Cond := lw_tbl.filter goodWord
theorem pm_wsin {w : Cond} (h : w ∈ lw_tbl) (hg : goodWord w = true) : w ∈ pm_ws := List.mem_filter.mpr ⟨h, hg⟩
theorem pm_wstbl {w : Cond} (h : w ∈ pm_ws) : w ∈ lw_tbl := (List.mem_filter.mp h).1
theorem pm_wsgood {w : Cond} (h : w ∈ pm_ws) : goodWord w = true := (List.mem_filter.mp h).2
theorem pm_look_mem {α : Type} : ∀ {l : List (Nat × α)} {i : Nat} {a : α}, pm_look l i = some a → (i, a) ∈ l
  | [], _, _, h => by simp [pm_look] at h
  | (j, b) :: r, i, a, h => by
    unfold pm_look at h
    split at h
    · next e => cases h; subst e; exact List.mem_cons_self
    · exact List.mem_cons_of_mem _ (pm_look_mem h)
/-- of all elements of a list: a word at its place among the tables', good -/
theorem pm_subg {ws : List Cond} (ps : List Nat) (h : decide (ws.map some = ps.map (fun i => lw_tbl[i]?)) = true) (hg : ws.all goodWord = true) : ∀ w ∈ ws, w ∈ pm_ws := fun w hw => pm_wsin (pm_sub ps h w hw) (List.all_eq_true.mp hg w hw)
theorem pm_iteP {α : Type} {P : α → Prop} {c : Prop} [Decidable c] {a b : α} (ha : P a) (hb : P b) : P (if c then a else b) := by split <;> assumption
def pm_wf (k : Nat) (e : Nat × Nat × Nat) : Cond := .fieldLink (pm_own k) e.1 (((pm_cl.getD e.2.1 ("", fun _ => ("", "", "", false), 0)).2.1 e.2.2).1) (((pm_cl.getD e.2.1 ("", fun _ => ("", "", "", false), 0)).2.1 e.2.2).2.1) (((pm_cl.getD e.2.1 ("", fun _ => ("", "", "", false), 0)).2.1 e.2.2).2.2.1)
theorem pm_f0 : ∀ w ∈ (pm_flds 0).map (pm_wf 0), w ∈ pm_ws := pm_subg [330, 332, 334, 336, 339, 337, 338, 212, 207, 205] (by decide +kernel) (by decide +kernel)
theorem pm_fb0 : ∀ e ∈ pm_flds 0, e.2.1 < 12 ∧ e.2.2 < (pm_cl.getD e.2.1 ("", fun _ => ("", "", "", false), 0)).2.2 := by decide +kernel
theorem pm_f1 : ∀ w ∈ (pm_flds 1).map (pm_wf 1), w ∈ pm_ws := pm_subg [273, 275, 276, 277, 270, 279, 281, 283, 249, 239, 241, 243, 245, 247] (by decide +kernel) (by decide +kernel)
theorem pm_fb1 : ∀ e ∈ pm_flds 1, e.2.1 < 12 ∧ e.2.2 < (pm_cl.getD e.2.1 ("", fun _ => ("", "", "", false), 0)).2.2 := by decide +kernel
theorem pm_f2 : ∀ w ∈ (pm_flds 2).map (pm_wf 2), w ∈ pm_ws := pm_subg [159, 162, 165, 168, 171, 174, 176] (by decide +kernel) (by decide +kernel)
theorem pm_fb2 : ∀ e ∈ pm_flds 2, e.2.1 < 12 ∧ e.2.2 < (pm_cl.getD e.2.1 ("", fun _ => ("", "", "", false), 0)).2.2 := by decide +kernel
theorem pm_f3 : ∀ w ∈ (pm_flds 3).map (pm_wf 3), w ∈ pm_ws := pm_subg [137, 138, 139, 141] (by decide +kernel) (by decide +kernel)
theorem pm_fb3 : ∀ e ∈ pm_flds 3, e.2.1 < 12 ∧ e.2.2 < (pm_cl.getD e.2.1 ("", fun _ => ("", "", "", false), 0)).2.2 := by decide +kernel
theorem pm_f4 : ∀ w ∈ (pm_flds 4).map (pm_wf 4), w ∈ pm_ws := pm_subg [238, 240, 242, 244, 246, 248, 210, 203, 206] (by decide +kernel) (by decide +kernel)
theorem pm_fb4 : ∀ e ∈ pm_flds 4, e.2.1 < 12 ∧ e.2.2 < (pm_cl.getD e.2.1 ("", fun _ => ("", "", "", false), 0)).2.2 := by decide +kernel
theorem pm_f5 : ∀ w ∈ (pm_flds 5).map (pm_wf 5), w ∈ pm_ws := pm_subg [365, 367, 368, 370] (by decide +kernel) (by decide +kernel)
theorem pm_fb5 : ∀ e ∈ pm_flds 5, e.2.1 < 12 ∧ e.2.2 < (pm_cl.getD e.2.1 ("", fun _ => ("", "", "", false), 0)).2.2 := by decide +kernel
theorem pm_f6 : ∀ w ∈ (pm_flds 6).map (pm_wf 6), w ∈ pm_ws := pm_subg [200, 201, 211, 214, 209, 208, 204] (by decide +kernel) (by decide +kernel)
theorem pm_fb6 : ∀ e ∈ pm_flds 6, e.2.1 < 12 ∧ e.2.2 < (pm_cl.getD e.2.1 ("", fun _ => ("", "", "", false), 0)).2.2 := by decide +kernel
theorem pm_f7 : ∀ w ∈ (pm_flds 7).map (pm_wf 7), w ∈ pm_ws := pm_subg [110, 112, 114, 116, 117] (by decide +kernel) (by decide +kernel)
theorem pm_fb7 : ∀ e ∈ pm_flds 7, e.2.1 < 12 ∧ e.2.2 < (pm_cl.getD e.2.1 ("", fun _ => ("", "", "", false), 0)).2.2 := by decide +kernel
theorem pm_f8 : ∀ w ∈ (pm_flds 8).map (pm_wf 8), w ∈ pm_ws := pm_subg [392, 393, 394, 395, 396, 398, 400, 402, 389, 390, 391, 404, 405, 177, 172, 169, 160, 163, 271, 167, 278] (by decide +kernel) (by decide +kernel)
theorem pm_fb8 : ∀ e ∈ pm_flds 8, e.2.1 < 12 ∧ e.2.2 < (pm_cl.getD e.2.1 ("", fun _ => ("", "", "", false), 0)).2.2 := by decide +kernel
theorem pm_f9 : ∀ w ∈ (pm_flds 9).map (pm_wf 9), w ∈ pm_ws := pm_subg [309, 310, 311, 312] (by decide +kernel) (by decide +kernel)
theorem pm_fb9 : ∀ e ∈ pm_flds 9, e.2.1 < 12 ∧ e.2.2 < (pm_cl.getD e.2.1 ("", fun _ => ("", "", "", false), 0)).2.2 := by decide +kernel
theorem pm_f10 : ∀ w ∈ (pm_flds 10).map (pm_wf 10), w ∈ pm_ws := pm_subg [434, 435, 436, 437, 438, 439, 440, 441, 442, 443, 444, 445, 113, 115, 111, 166, 175, 161, 164, 170, 173, 397, 399, 401, 178, 118, 142, 250, 202, 313, 340, 371, 272, 280, 282, 284, 274, 403, 140, 366, 369, 213, 215, 335, 331, 333] (by decide +kernel) (by decide +kernel)
theorem pm_fb10 : ∀ e ∈ pm_flds 10, e.2.1 < 12 ∧ e.2.2 < (pm_cl.getD e.2.1 ("", fun _ => ("", "", "", false), 0)).2.2 := by decide +kernel
theorem pm_f11 : ∀ w ∈ (pm_flds 11).map (pm_wf 11), w ∈ pm_ws := pm_subg [1090, 1091, 1092, 1093, 1095, 1096, 1097, 1099, 1100, 1101, 1102, 1103, 1104, 1106, 1107, 1109, 1110, 1111, 1112, 1113, 1115, 1116, 1117, 1118, 1119, 1120, 1121, 1123, 1129, 1130, 1132, 1133, 1134, 1137, 1140, 1145, 1147, 1148, 1149, 1089, 1088, 1094, 1098, 1105, 1114, 1108, 1122, 1128, 1131, 1146, 1124, 1125, 1126, 1127, 1135, 1136, 1139, 1138, 1141, 1142, 1143, 1144] (by decide +kernel) (by decide +kernel)
theorem pm_fb11 : ∀ e ∈ pm_flds 11, e.2.1 < 12 ∧ e.2.2 < (pm_cl.getD e.2.1 ("", fun _ => ("", "", "", false), 0)).2.2 := by decide +kernel
theorem pm_f12 : ∀ w ∈ (pm_flds 12).map (pm_wf 12), w ∈ pm_ws := pm_subg [] (by decide +kernel) (by decide +kernel)
theorem pm_fb12 : ∀ e ∈ pm_flds 12, e.2.1 < 12 ∧ e.2.2 < (pm_cl.getD e.2.1 ("", fun _ => ("", "", "", false), 0)).2.2 := by decide +kernel
theorem pm_f13 : ∀ w ∈ (pm_flds 13).map (pm_wf 13), w ∈ pm_ws := pm_subg [] (by decide +kernel) (by decide +kernel)
theorem pm_fb13 : ∀ e ∈ pm_flds 13, e.2.1 < 12 ∧ e.2.2 < (pm_cl.getD e.2.1 ("", fun _ => ("", "", "", false), 0)).2.2 := by decide +kernel
theorem pm_f14 : ∀ w ∈ (pm_flds 14).map (pm_wf 14), w ∈ pm_ws := pm_subg [] (by decide +kernel) (by decide +kernel)
theorem pm_fb14 : ∀ e ∈ pm_flds 14, e.2.1 < 12 ∧ e.2.2 < (pm_cl.getD e.2.1 ("", fun _ => ("", "", "", false), 0)).2.2 := by decide +kernel
theorem pm_f15 : ∀ w ∈ (pm_flds 15).map (pm_wf 15), w ∈ pm_ws := pm_subg [] (by decide +kernel) (by decide +kernel)
theorem pm_fb15 : ∀ e ∈ pm_flds 15, e.2.1 < 12 ∧ e.2.2 < (pm_cl.getD e.2.1 ("", fun _ => ("", "", "", false), 0)).2.2 := by decide +kernel
theorem pm_f16 : ∀ w ∈ (pm_flds 16).map (pm_wf 16), w ∈ pm_ws := pm_subg [] (by decide +kernel) (by decide +kernel)
theorem pm_fb16 : ∀ e ∈ pm_flds 16, e.2.1 < 12 ∧ e.2.2 < (pm_cl.getD e.2.1 ("", fun _ => ("", "", "", false), 0)).2.2 := by decide +kernel
theorem pm_f17 : ∀ w ∈ (pm_flds 17).map (pm_wf 17), w ∈ pm_ws := pm_subg [] (by decide +kernel) (by decide +kernel)
theorem pm_fb17 : ∀ e ∈ pm_flds 17, e.2.1 < 12 ∧ e.2.2 < (pm_cl.getD e.2.1 ("", fun _ => ("", "", "", false), 0)).2.2 := by decide +kernel
theorem pm_f18 : ∀ w ∈ (pm_flds 18).map (pm_wf 18), w ∈ pm_ws := pm_subg [] (by decide +kernel) (by decide +kernel)
theorem pm_fb18 : ∀ e ∈ pm_flds 18, e.2.1 < 12 ∧ e.2.2 < (pm_cl.getD e.2.1 ("", fun _ => ("", "", "", false), 0)).2.2 := by decide +kernel
theorem pm_fA : ∀ k : Nat, ∀ w ∈ (pm_flds k).map (pm_wf k), w ∈ pm_ws := fun k => match k with
  | 0 => pm_f0
  | 1 => pm_f1
  | 2 => pm_f2
  | 3 => pm_f3
  | 4 => pm_f4
  | 5 => pm_f5
  | 6 => pm_f6
  | 7 => pm_f7
  | 8 => pm_f8
  | 9 => pm_f9
  | 10 => pm_f10
  | 11 => pm_f11
  | 12 => pm_f12
  | 13 => pm_f13
  | 14 => pm_f14
  | 15 => pm_f15
  | 16 => pm_f16
  | 17 => pm_f17
  | 18 => pm_f18
  | _ + 19 => fun w h => by simp [pm_flds] at h
theorem pm_fB : ∀ k : Nat, ∀ e ∈ pm_flds k, e.2.1 < 12 ∧ e.2.2 < (pm_cl.getD e.2.1 ("", fun _ => ("", "", "", false), 0)).2.2 := fun k => match k with
  | 0 => pm_fb0
  | 1 => pm_fb1
  | 2 => pm_fb2
  | 3 => pm_fb3
  | 4 => pm_fb4
  | 5 => pm_fb5
  | 6 => pm_fb6
  | 7 => pm_fb7
  | 8 => pm_fb8
  | 9 => pm_fb9
  | 10 => pm_fb10
  | 11 => pm_fb11
  | 12 => pm_fb12
  | 13 => pm_fb13
  | 14 => pm_fb14
  | 15 => pm_fb15
  | 16 => pm_fb16
  | 17 => pm_fb17
  | 18 => pm_fb18
  | _ + 19 => fun w h => by simp [pm_flds] at h
def pm_wc (k : Nat) (e : Nat × Nat × Nat × Nat) : List Cond := if e.2.2.1 = 3 then [.methodLink (pm_own k) e.1 objectInit, .instanceMethod objectInit, .code objectInit ⟨#[0xb1]⟩ 1 none] else
  ([.initialized (pm_y e.2.1).cls] ++ (if e.2.2.1 < 10 then [.methodLink (pm_own k) e.1 (pm_y e.2.1)] else [])) ++ (match e.2.2.1 % 10 with
    | 0 => [.instanceMethod (pm_y e.2.1), .selects (pm_y e.2.1).cls (pm_y e.2.1) (pm_y e.2.1)]
    | 1 => [.static (pm_y e.2.1)]
    | _ => [.instanceMethod (pm_y e.2.1)])
def pm_chkc (e : Nat × Nat × Nat × Nat) : Bool := e.2.2.1 == 3 || (decide ((pm_y e.2.1).cls ≠ "java/lang/invoke/MethodHandle" ∧ (pm_y e.2.1).cls ≠ "java/lang/invoke/VarHandle" ∧ (parseMethodDescriptor (pm_y e.2.1).desc).map (fun d => d.parameters.length) = some e.2.2.2) && (!(e.2.2.1 % 10 == 2) || (decide ((pm_y e.2.1).name = "<init>") && decide (pm_ret e.2.1 = none))))
