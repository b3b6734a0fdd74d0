def pm_ws : List Cond := lw_tbl.filter goodWord
theorem pm_wsin {w : Cond} (h : w ∈ lw_tbl) (hg : goodWord w = true) : w ∈ pm_ws := List.mem_filter.mpr ⟨h, hg⟩
theorem pm_wstbl {w : Cond} (h : w ∈ pm_ws) : w ∈ lw_tbl := (List.mem_filter.mp h).1
theorem pm_wsgood {w : Cond} (h : w ∈ pm_ws) : goodWord w = true := (List.mem_filter.mp h).2
theorem pm_look_mem {α : Type} : ∀ {l : List (Nat × α)} {i : Nat} {a : α}, pm_look l i = some a → (i, a) ∈ l
  | [], _, _, h => by simp [pm_look] at h
  | (j, b) :: r, i, a, h => by
    unfold pm_look at h
    split at h
    · next e => cases h; subst e; exact List.mem_cons_self
    · exact List.mem_cons_of_mem _ (pm_look_mem h)
/-- of all elements of a list: a word at its place among the tables', good -/
theorem pm_subg {ws : List Cond} (ps : List Nat) (h : decide (ws.map some = ps.map (fun i => lw_tbl[i]?)) = true) (hg : ws.all goodWord = true) : ∀ w ∈ ws, w ∈ pm_ws := fun w hw => pm_wsin (pm_sub ps h w hw) (List.all_eq_true.mp hg w hw)
theorem pm_iteP {α : Type} {P : α → Prop} {c : Prop} [Decidable c] {a b : α} (ha : P a) (hb : P b) : P (if c then a else b) := by split <;> assumption
def pm_wf (k : Nat) (e : Nat × Nat × Nat) : Cond := .fieldLink (pm_own k) e.1 (((pm_cl.getD e.2.1 ("", fun _ => ("", "", "", false), 0)).2.1 e.2.2).1) (((pm_cl.getD e.2.1 ("", fun _ => ("", "", "", false), 0)).2.1 e.2.2).2.1) (((pm_cl.getD e.2.1 ("", fun _ => ("", "", "", false), 0)).2.1 e.2.2).2.2.1)
theorem pm_f0 : ∀ w ∈ (pm_flds 0).map (pm_wf 0), w ∈ pm_ws := pm_subg [330, 332, 334, 336, 339, 337, 338, 212, 207, 205] (by decide +kernel) (by decide +kernel)
theorem pm_fb0 : ∀ e ∈ pm_flds 0, e.2.1 < 12 ∧ e.2.2 < (pm_cl.getD e.2.1 ("", fun _ => ("", "", "", false), 0)).2.2 := by decide +kernel
theorem pm_f1 : ∀ w ∈ (pm_flds 1).map (pm_wf 1), w ∈ pm_ws := pm_subg [273, 275, 276, 277, 270, 279, 281, 283, 249, 239, 241, 243, 245, 247] (by decide +kernel) (by decide +kernel)
theorem pm_fb1 : ∀ e ∈ pm_flds 1, e.2.1 < 12 ∧ e.2.2 < (pm_cl.getD e.2.1 ("", fun _ => ("", "", "", false), 0)).2.2 := by decide +kernel
theorem pm_f2 : ∀ w ∈ (pm_flds 2).map (pm_wf 2), w ∈ pm_ws := pm_subg [159, 162, 165, 168, 171, 174, 176] (by decide +kernel) (by decide +kernel)
theorem pm_fb2 : ∀ e ∈ pm_flds 2, e.2.1 < 12 ∧ e.2.2 < (pm_cl.getD e.2.1 ("", fun _ => ("", "", "", false), 0)).2.2 := by decide +kernel
theorem pm_f3 : ∀ w ∈ (pm_flds 3).map (pm_wf 3), w ∈ pm_ws := pm_subg [137, 138, 139, 141] (by decide +kernel) (by decide +kernel)
theorem pm_fb3 : ∀ e ∈ pm_flds 3, e.2.1 < 12 ∧ e.2.2 < (pm_cl.getD e.2.1 ("", fun _ => ("", "", "", false), 0)).2.2 := by decide +kernel
theorem pm_f4 : ∀ w ∈ (pm_flds 4).map (pm_wf 4), w ∈ pm_ws := pm_subg [238, 240, 242, 244, 246, 248, 210, 203, 206] (by decide +kernel) (by decide +kernel)
theorem pm_fb4 : ∀ e ∈ pm_flds 4, e.2.1 < 12 ∧ e.2.2 < (pm_cl.getD e.2.1 ("", fun _ => ("", "", "", false), 0)).2.2 := by decide +kernel
theorem pm_f5 : ∀ w ∈ (pm_flds 5).map (pm_wf 5), w ∈ pm_ws := pm_subg [365, 367, 368, 370] (by decide +kernel) (by decide +kernel)
theorem pm_fb5 : ∀ e ∈ pm_flds 5, e.2.1 < 12 ∧ e.2.2 < (pm_cl.getD e.2.1 ("", fun _ => ("", "", "", false), 0)).2.2 := by decide +kernel
theorem pm_f6 : ∀ w ∈ (pm_flds 6).map (pm_wf 6), w ∈ pm_ws := pm_subg [200, 201, 211, 214, 209, 208, 204] (by decide +kernel) (by decide +kernel)
theorem pm_fb6 : ∀ e ∈ pm_flds 6, e.2.1 < 12 ∧ e.2.2 < (pm_cl.getD e.2.1 ("", fun _ => ("", "", "", false), 0)).2.2 := by decide +kernel
theorem pm_f7 : ∀ w ∈ (pm_flds 7).map (pm_wf 7), w ∈ pm_ws := pm_subg [110, 112, 114, 116, 117] (by decide +kernel) (by decide +kernel)
theorem pm_fb7 : ∀ e ∈ pm_flds 7, e.2.1 < 12 ∧ e.2.2 < (pm_cl.getD e.2.1 ("", fun _ => ("", "", "", false), 0)).2.2 := by decide +kernel
theorem pm_f8 : ∀ w ∈ (pm_flds 8).map (pm_wf 8), w ∈ pm_ws := pm_subg [392, 393, 394, 395, 396, 398, 400, 402, 389, 390, 391, 404, 405, 177, 172, 169, 160, 163, 271, 167, 278] (by decide +kernel) (by decide +kernel)
theorem pm_fb8 : ∀ e ∈ pm_flds 8, e.2.1 < 12 ∧ e.2.2 < (pm_cl.getD e.2.1 ("", fun _ => ("", "", "", false), 0)).2.2 := by decide +kernel
theorem pm_f9 : ∀ w ∈ (pm_flds 9).map (pm_wf 9), w ∈ pm_ws := pm_subg [309, 310, 311, 312] (by decide +kernel) (by decide +kernel)
theorem pm_fb9 : ∀ e ∈ pm_flds 9, e.2.1 < 12 ∧ e.2.2 < (pm_cl.getD e.2.1 ("", fun _ => ("", "", "", false), 0)).2.2 := by decide +kernel
theorem pm_f10 : ∀ w ∈ (pm_flds 10).map (pm_wf 10), w ∈ pm_ws := pm_subg [434, 435, 436, 437, 438, 439, 440, 441, 442, 443, 444, 445, 113, 115, 111, 166, 175, 161, 164, 170, 173, 397, 399, 401, 178, 118, 142, 250, 202, 313, 340, 371, 272, 280, 282, 284, 274, 403, 140, 366, 369, 213, 215, 335, 331, 333] (by decide +kernel) (by decide +kernel)
theorem pm_fb10 : ∀ e ∈ pm_flds 10, e.2.1 < 12 ∧ e.2.2 < (pm_cl.getD e.2.1 ("", fun _ => ("", "", "", false), 0)).2.2 := by decide +kernel
