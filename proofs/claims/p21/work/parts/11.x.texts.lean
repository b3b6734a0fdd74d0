/-! the texts' world: nothing of it is written -/
def pm_T (b : Nat) (sa : Nat → Nat) (U : State) : Prop :=
  (∀ i : Nat, i < 19 → va_O "java/lang/String" (sa (i + 1)) (fun q => b ≤ q) U U.heap ∧ va_OF "java/lang/String" "coder" "B" (.int 0) (sa (i + 1)) (fun q => b ≤ q) U U.heap ∧ va_OF "java/lang/String" "value" "[B" (.ref (sa (i + 101))) (sa (i + 1)) (fun q => b ≤ q) U U.heap ∧ va_T .byte (sa (i + 101)) (pm_stx.getD i []).length (fun j => .int ((pm_stx.getD i []).getD j 0)) (fun q => b ≤ q) U U.heap) ∧
  va_Z "java/lang/String" "COMPACT_STRINGS" "Z" (.int 1) (fun q => b ≤ q) U U.heap ∧ va_Z "jdk/internal/util/Preconditions" "SIOOBE_FORMATTER" "Ljava/util/function/BiFunction;" (if sa 201 = 0 then .null else .ref (sa 200)) (fun q => b ≤ q) U U.heap
theorem pm_T.go {b : Nat} {sa : Nat → Nat} {u U : State} (hal : u.vm.Alike U.vm) (hq : ∀ q : Nat, q < b → U.heap[q]? = u.heap[q]?) (h : pm_T b sa u) : pm_T b sa U := by
  have hk : ∀ a : Nat, a < u.heap.size → ¬ b ≤ a → U.heap[a]? = u.heap[a]? := fun a _ ha => hq a (Nat.not_le.mp ha)
  exact ⟨fun i hi => ⟨((h.1 i hi).1.kept hk).moved hal, ((h.1 i hi).2.1.kept hk).moved hal, ((h.1 i hi).2.2.1.kept hk).moved hal, ((h.1 i hi).2.2.2.kept hk).moved hal⟩, (h.2.1.kept hk).moved hal, (h.2.2.kept hk).moved hal⟩
theorem pm_T.call {b : Nat} {sa : Nat → Nat} {U : State} {g : JFrame} {mk : MethodId} {a : Array Value} (h : pm_T b sa U) : pm_T b sa (U.calling g mk a) := h.go (Vm.Alike.refl U.vm) (fun _ _ => rfl)
theorem pm_ad_tx (b : Nat) (sa : Nat → Nat) {q : Nat} (h : 2000 ≤ q) : pm_ad b sa q = sa (q - 2000) := by
  unfold pm_ad
  rw [if_neg (by omega)]
section PMX
variable {p : Program} {l : Launch} {e : Env} {R : Room} {s : State} {mi : MethodId} {args : Array Value} {below : List Frame} {meth : Method} {co : Code} {H : Heap} {locs : List Loc} {Q : State → Prop}
variable {b : Nat} {sa : Nat → Nat} {m pc j q c k : Nat} {r : List Value} {ls : Array Slot} {cc : ByteArray}
theorem pm_x_val (hx : p.tables.exec = Jvm.exec) (hb : co.code = cc) (hts : ∀ w ∈ pm_ws, w.before args s = true) (hown : s.vm.findClass (pm_own (pm_oc m)) = some mi.cls) (hT : pm_T b sa s) (hSv : pm_Sv b s.heap H locs) (hl : pm_look (pm_xfl (pm_oc m)) j = some 0) (h1 : 2001 ≤ q) (h2 : q < 2020) (hdec : decode cc pc = .ok (.getfield j, 3))
    (kk : W p l e R s mi args below meth co H locs c k Q (F0 mi (pc + 3) ls (pm_cv b sa (.ref (q + 100)) :: r))) : W p l e R s mi args below meth co H locs c k Q (F0 mi pc ls (pm_cv b sa (.ref q) :: r)) := by
  have hlk := hts _ (pm_xfA _ _ (List.mem_map.mpr ⟨_, pm_look_mem hl, rfl⟩))
  obtain ⟨i, rfl⟩ : ∃ i : Nat, q = 2001 + i := ⟨q - 2001, by omega⟩
  obtain ⟨cf, kf, fi, f, cell, g1, g2, g3, g4, g5, -⟩ := (hT.1 i (by omega)).2.2.1.kept (fun a _ ha => hSv.1 a (Nat.not_le.mp ha))
  have e1 : pm_cv b sa (.ref (2001 + i)) = .ref (sa (i + 1)) := congrArg Value.ref ((pm_ad_tx b sa (by omega)).trans (congrArg sa (by omega)))
  have e2 : pm_cv b sa (.ref (2001 + i + 100)) = .ref (sa (i + 101)) := congrArg Value.ref ((pm_ad_tx b sa (by omega)).trans (congrArg sa (by omega)))
  rw [e1]
  rw [e2] at kk
  exact W.getf hx hb hown hlk g1 g2 g3 g4 (v := .ref (sa (i + 101))) g5 rfl rfl hdec kk
theorem pm_x_cod (hx : p.tables.exec = Jvm.exec) (hb : co.code = cc) (hts : ∀ w ∈ pm_ws, w.before args s = true) (hown : s.vm.findClass (pm_own (pm_oc m)) = some mi.cls) (hT : pm_T b sa s) (hSv : pm_Sv b s.heap H locs) (hl : pm_look (pm_xfl (pm_oc m)) j = some 1) (h1 : 2001 ≤ q) (h2 : q < 2020) (hdec : decode cc pc = .ok (.getfield j, 3))
    (kk : W p l e R s mi args below meth co H locs c k Q (F0 mi (pc + 3) ls (.int 0 :: r))) : W p l e R s mi args below meth co H locs c k Q (F0 mi pc ls (pm_cv b sa (.ref q) :: r)) := by
  have hlk := hts _ (pm_xfA _ _ (List.mem_map.mpr ⟨_, pm_look_mem hl, rfl⟩))
  obtain ⟨i, rfl⟩ : ∃ i : Nat, q = 2001 + i := ⟨q - 2001, by omega⟩
  obtain ⟨cf, kf, fi, f, cell, g1, g2, g3, g4, g5, -⟩ := (hT.1 i (by omega)).2.1.kept (fun a _ ha => hSv.1 a (Nat.not_le.mp ha))
  have e1 : pm_cv b sa (.ref (2001 + i)) = .ref (sa (i + 1)) := congrArg Value.ref ((pm_ad_tx b sa (by omega)).trans (congrArg sa (by omega)))
  rw [e1]
  exact W.getf hx hb hown hlk g1 g2 g3 g4 (v := .int 0) g5 rfl rfl hdec kk
theorem pm_x_st0 (hx : p.tables.exec = Jvm.exec) (hb : co.code = cc) (hts : ∀ w ∈ pm_ws, w.before args s = true) (hown : s.vm.findClass (pm_own (pm_oc m)) = some mi.cls) (hT : pm_T b sa s) (hSv : pm_Sv b s.heap H locs) (hl : pm_look (pm_xst (pm_oc m)) j = some 0) (hdec : decode cc pc = .ok (.getstatic j, 3))
    (kk : W p l e R s mi args below meth co H locs c k Q (F0 mi (pc + 3) ls (.int 1 :: r))) : W p l e R s mi args below meth co H locs c k Q (F0 mi pc ls r) := by
  have hlk := hts _ (pm_xsA _ _ (List.mem_map.mpr ⟨_, pm_look_mem hl, rfl⟩))
  obtain ⟨cf, kf, fi, f, a, cell, g1, g2, g3, g4, g5, g6, g7, -⟩ := hT.2.1.kept (fun a _ ha => hSv.1 a (Nat.not_le.mp ha))
  exact W.gets hx hb hown hlk g1 g2 g3 g4 g5 (fun z => by rw [z] at g6; cases g6) g7 rfl hdec kk
theorem pm_x_st1 (hx : p.tables.exec = Jvm.exec) (hb : co.code = cc) (hts : ∀ w ∈ pm_ws, w.before args s = true) (hown : s.vm.findClass (pm_own (pm_oc m)) = some mi.cls) (hT : pm_T b sa s) (hSv : pm_Sv b s.heap H locs) (hl : pm_look (pm_xst (pm_oc m)) j = some 1) (hdec : decode cc pc = .ok (.getstatic j, 3))
    (kk : W p l e R s mi args below meth co H locs c k Q (F0 mi (pc + 3) ls (pm_cv b sa (.retAddr 0) :: r))) : W p l e R s mi args below meth co H locs c k Q (F0 mi pc ls r) := by
  have hlk := hts _ (pm_xsA _ _ (List.mem_map.mpr ⟨_, pm_look_mem hl, rfl⟩))
  obtain ⟨cf, kf, fi, f, a, cell, g1, g2, g3, g4, g5, g6, g7, -⟩ := hT.2.2.kept (fun a _ ha => hSv.1 a (Nat.not_le.mp ha))
  exact W.gets hx hb hown hlk g1 g2 g3 g4 g5 (fun z => by rw [z] at g6; cases g6) g7 rfl hdec kk
theorem pm_x_txt {q : Nat} {t : List Int32} (hq : pm_stx[q]? = some t) : q < 19 ∧ pm_stx.getD q [] = t := by
  refine ⟨(List.getElem?_eq_some_iff.mp hq).1, ?_⟩
  rw [List.getD_eq_getElem?_getD, hq]
  rfl
theorem pm_x_len {t : List Int32} (hx : p.tables.exec = Jvm.exec) (hb : co.code = cc) (hT : pm_T b sa s) (hSv : pm_Sv b s.heap H locs) (h1 : 2101 ≤ q) (hq : pm_stx[q - 2101]? = some t) (hdec : decode cc pc = .ok (.arraylength, 1))
    (kk : W p l e R s mi args below meth co H locs c k Q (F0 mi (pc + 1) ls (.int (Int32.ofNat t.length) :: r))) : W p l e R s mi args below meth co H locs c k Q (F0 mi pc ls (pm_cv b sa (.ref q) :: r)) := by
  obtain ⟨i, rfl⟩ : ∃ i : Nat, q = 2101 + i := ⟨q - 2101, by omega⟩
  rw [show 2101 + i - 2101 = i by omega] at hq
  obtain ⟨hi, ht⟩ := pm_x_txt hq
  have hA := (hT.1 i hi).2.2.2.kept (fun a _ ha => hSv.1 a (Nat.not_le.mp ha))
  rw [ht] at hA
  obtain ⟨cell, g1, g2, g3, g4, g5, g6, -⟩ := hA
  have e1 : pm_cv b sa (.ref (2101 + i)) = .ref (sa (i + 101)) := congrArg Value.ref ((pm_ad_tx b sa (by omega)).trans (congrArg sa (by omega)))
  rw [e1]
  exact W.alen hx hb g1 g2 g5 rfl rfl hdec kk
theorem pm_x_bald {t : List Int32} {x : Int32} (hx : p.tables.exec = Jvm.exec) (hb : co.code = cc) (hT : pm_T b sa s) (hSv : pm_Sv b s.heap H locs) (h1 : 2101 ≤ q) (hq : pm_stx[q - 2101]? = some t) (hj : pm_ix x t.length = true) (hdec : decode cc pc = .ok (.baload, 1))
    (kk : W p l e R s mi args below meth co H locs c k Q (F0 mi (pc + 1) ls (.int (t.getD x.toNatClampNeg 0) :: r))) : W p l e R s mi args below meth co H locs c k Q (F0 mi pc ls (.int x :: pm_cv b sa (.ref q) :: r)) := by
  obtain ⟨i, rfl⟩ : ∃ i : Nat, q = 2101 + i := ⟨q - 2101, by omega⟩
  rw [show 2101 + i - 2101 = i by omega] at hq
  obtain ⟨hi, ht⟩ := pm_x_txt hq
  have hA := (hT.1 i hi).2.2.2.kept (fun a _ ha => hSv.1 a (Nat.not_le.mp ha))
  rw [ht] at hA
  obtain ⟨cell, g1, g2, g3, g4, g5, g6, -⟩ := hA
  have e1 : pm_cv b sa (.ref (2101 + i)) = .ref (sa (i + 101)) := congrArg Value.ref ((pm_ad_tx b sa (by omega)).trans (congrArg sa (by omega)))
  rw [e1]
  refine W.bald hx hb g1 g2 g3 (fun z => ?_) (g6 _ (pm_ix_lt hj)) rfl rfl hdec kk
  rcases z with z | z
  · exact pm_ix_ok hj (Or.inl z)
  · exact pm_ix_ok hj (Or.inr (Nat.le_trans g4 z))
end PMX
