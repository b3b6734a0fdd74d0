/-! THE WORLD AT THE LAW'S ENTRY -/
theorem pm_strE {s : State} {args : Array Value} {own tx : String} {k : Nat} (h : (Cond.stringRef own k tx).before args s = true) : ∃ a, vk_R own k tx a s := by
  cases hc : s.vm.findClass own with
  | none => simp [Cond.before, Cond.holds, Cond.value, hc] at h
  | some cc =>
    obtain ⟨_, _, _, a, -, -, -, -, -, he⟩ := Cond.stringRef_spec hc h
    exact ⟨a, vk_R.of h he⟩
theorem pm_arrC {s : State} {args : Array Value} {ty : FieldType} (h : (Cond.arrayClass ty).before args s = true) : ∃ c : ClassId, ArrOfT s c ty ∧ s.vm.findClass ("[" ++ ty.toString) = some c := by
  obtain ⟨c, k, comp, h1, h2, h3⟩ := Cond.arrayClass_spec h
  exact ⟨c, fun n z => ⟨fun q hq => (by cases hq), k, h2, comp, h3⟩, h1⟩
theorem pm_arrO2 {s : State} {args : Array Value} {ty : FieldType} (h : (Cond.arrayOver (.array ty)).before args s = true) : ∃ c : ClassId, ArrOfT s c (.array ty) ∧ s.vm.findClass ("[" ++ (FieldType.array ty).toString) = some c := by
  obtain ⟨comp, c, k, -, h2, h3, h4⟩ := Cond.arrayOver_specA h
  exact ⟨c, fun n z => ⟨fun q hq => (by cases hq), k, h2, comp, h3⟩, h4⟩
theorem pm_ovI : Cond.arrayOver (.array (pm_aty 20)) ∈ lw_tbl := List.mem_of_getElem? (i := 106) (by decide +kernel)
theorem pm_ovJ : Cond.arrayOver (.array (pm_aty 21)) ∈ lw_tbl := List.mem_of_getElem? (i := 364) (by decide +kernel)
theorem pm_wI0 : Cond.initialized "java/lang/String" ∈ lw_tbl := List.mem_of_getElem? (i := 87) (by decide +kernel)
theorem pm_wI1 : Cond.initialized "jdk/internal/util/Preconditions" ∈ lw_tbl := List.mem_of_getElem? (i := 89) (by decide +kernel)
theorem pm_wL0 : Cond.laysStatic "java/lang/String" "COMPACT_STRINGS" "Z" ∈ lw_tbl := List.mem_of_getElem? (i := 779) (by decide +kernel)
theorem pm_wL1 : Cond.laysStatic "jdk/internal/util/Preconditions" "SIOOBE_FORMATTER" "Ljava/util/function/BiFunction;" ∈ lw_tbl := List.mem_of_getElem? (i := 795) (by decide +kernel)
theorem pm_Kof {s : State} {args : Array Value} (hts : ∀ w ∈ lw_tbl, w.before args s = true) (scr : Nat) : ∃ (D : va_G) (cA : Nat → ClassId) (sa : Nat → Nat), sa 0 = scr ∧ pm_K D cA sa s := by
  have hw : ∀ w ∈ pm_ws, w.before args s = true := fun w h => hts w (pm_wstbl h)
  have H1 : ∀ c : Nat, ∃ d : ClassId × (Nat → Nat), ∀ q, pm_cl[c]? = some q → u_Kn s q.1 q.2.1 q.2.2 d.1 d.2 := by
    intro c
    cases hq : pm_cl[c]? with
    | none => exact ⟨((0 : Nat), fun _ => 0), fun q h => by cases h⟩
    | some q =>
      have ok := pm_clok c q hq
      obtain ⟨cC, iS, h⟩ := u_known hw ok.1 (hw _ ok.2.2.2.2.2.1.1)
      exact ⟨(cC, iS), fun q' h' => by cases h'; exact h⟩
  have H2 : ∀ t : Nat, ∃ c : ClassId, 20 ≤ t → t < 25 → ArrOfT s c (pm_aty t) ∧ s.vm.findClass ("[" ++ (pm_aty t).toString) = some c := by
    intro t
    by_cases ht : 20 ≤ t ∧ t < 25
    · have : t = 20 ∨ t = 21 ∨ t = 22 ∨ t = 23 ∨ t = 24 := by omega
      rcases this with rfl | rfl | rfl | rfl | rfl
      · obtain ⟨c, h⟩ := pm_arrC (hw _ pm_acI); exact ⟨c, fun _ _ => h⟩
      · obtain ⟨c, h⟩ := pm_arrC (hw _ pm_acJ); exact ⟨c, fun _ _ => h⟩
      · obtain ⟨c, h⟩ := pm_arrC (hw _ pm_acZ); exact ⟨c, fun _ _ => h⟩
      · obtain ⟨c, h⟩ := pm_arrO2 (hts _ pm_ovI); exact ⟨c, fun _ _ => h⟩
      · obtain ⟨c, h⟩ := pm_arrO2 (hts _ pm_ovJ); exact ⟨c, fun _ _ => h⟩
    · exact ⟨(0 : Nat), fun a b => absurd ⟨a, b⟩ ht⟩
  have H5 : ∀ j : Nat, ∃ a : Nat, ∀ q, pm_strs[j]? = some q → vk_R (pm_own q.1) q.2.1 q.2.2 a s := by
    intro j
    cases hq : pm_strs[j]? with
    | none => exact ⟨0, fun q h => by cases h⟩
    | some q =>
      obtain ⟨a, h⟩ := pm_strE (hts _ (pm_sA _ (List.mem_map.mpr ⟨q, List.mem_of_getElem? hq, rfl⟩)))
      exact ⟨a, fun q' h' => by cases h'; exact h⟩
  refine ⟨(fun c => (H1 c).choose.1, fun c => (H1 c).choose.2), fun t => (H2 t).choose, fun j => if j = 0 then scr else (H5 (j - 1)).choose, rfl, ?_, ?_, ?_, ?_, ?_⟩
  · intro c q hq
    exact (H1 c).choose_spec q hq
  · intro t a b
    exact (H2 t).choose_spec a b
  · intro e he
    exact va_Nw.of rfl (hts _ (pm_nA _ (List.mem_map.mpr ⟨e, he, rfl⟩)))
  · intro t
    by_cases ht : t = 20 ∨ t = 21
    · left
      rcases ht with rfl | rfl
      · exact hts _ pm_ovI
      · exact hts _ pm_ovJ
    · exact Or.inr ht
  · intro j q hq
    show vk_R (pm_own q.1) q.2.1 q.2.2 (if j + 1 = 0 then scr else (H5 (j + 1 - 1)).choose) s
    rw [if_neg (Nat.succ_ne_zero j)]
    exact (H5 j).choose_spec q hq
/-- what is said of a text -/
def pm_txl (i : Nat) : List Cond :=
  Cond.exactly (Term.string (pm_own (pm_strs.getD i (0, 0, "")).1) (pm_strs.getD i (0, 0, "")).2.1) "java/lang/String" ::
  Cond.eq (.field (Term.string (pm_own (pm_strs.getD i (0, 0, "")).1) (pm_strs.getD i (0, 0, "")).2.1) "java/lang/String" "coder" "B") (.int 0) ::
  Cond.arrayOf (.field (Term.string (pm_own (pm_strs.getD i (0, 0, "")).1) (pm_strs.getD i (0, 0, "")).2.1) "java/lang/String" "value" "[B") .byte ::
  Cond.eq (.length (.field (Term.string (pm_own (pm_strs.getD i (0, 0, "")).1) (pm_strs.getD i (0, 0, "")).2.1) "java/lang/String" "value" "[B")) (.int (Int32.ofNat (pm_stx.getD i []).length)) ::
  (List.range (pm_stx.getD i []).length).map (fun j => Cond.eq (.elem (.field (Term.string (pm_own (pm_strs.getD i (0, 0, "")).1) (pm_strs.getD i (0, 0, "")).2.1) "java/lang/String" "value" "[B") (.int (Int32.ofNat j))) (.int ((pm_stx.getD i []).getD j 0)))
theorem pm_txN : pm_strs.length = 19 ∧ ∀ i, i < 19 → (pm_stx.getD i []).length < 2 ^ 31 := by decide +kernel
theorem pm_txm : ∀ i, i < 19 → ∀ w ∈ pm_txl i, w ∈ flatC (Jvm.Cond.and given_1 narrow_1) := by decide +kernel
theorem pm_txl_of {s : State} {args : Array Value} (hgv : (Jvm.Cond.and given_1 narrow_1).before args s = true) : ∀ i, i < 19 → ∀ w ∈ pm_txl i, w.before args s = true := by
  have hs := flat_of_before _ hgv
  exact fun i hi w hw => hs w (pm_txm i hi w hw)
theorem pm_tx1 {s : State} {args : Array Value} {A : Nat → Prop} (hA : ∀ a : Nat, a < s.heap.size → ¬ A a) {i a : Nat} (hi : i < 19) (hw : ∀ w ∈ pm_txl i, w.before args s = true) (ha : (Term.string (pm_own (pm_strs.getD i (0, 0, "")).1) (pm_strs.getD i (0, 0, "")).2.1).eval args s none [] s = some (.ref a)) :
    ∃ v : Nat, va_O "java/lang/String" a A s s.heap ∧ va_OF "java/lang/String" "coder" "B" (.int 0) a A s s.heap ∧ va_OF "java/lang/String" "value" "[B" (.ref v) a A s s.heap ∧ va_T .byte v (pm_stx.getD i []).length (fun j => .int ((pm_stx.getD i []).getD j 0)) A s s.heap := by
  unfold pm_txl at hw
  generalize (Term.string (pm_own (pm_strs.getD i (0, 0, "")).1) (pm_strs.getD i (0, 0, "")).2.1) = tm at hw ha
  have hex := hw _ List.mem_cons_self
  have hco := hw _ (List.mem_cons_of_mem _ List.mem_cons_self)
  have har := hw _ (List.mem_cons_of_mem _ (List.mem_cons_of_mem _ List.mem_cons_self))
  have hle := hw _ (List.mem_cons_of_mem _ (List.mem_cons_of_mem _ (List.mem_cons_of_mem _ List.mem_cons_self)))
  have hel : ∀ j : Nat, j < (pm_stx.getD i []).length → (Cond.eq (.elem (.field tm "java/lang/String" "value" "[B") (.int (Int32.ofNat j))) (.int ((pm_stx.getD i []).getD j 0))).before args s = true := fun j hj => hw _ (List.mem_cons_of_mem _ (List.mem_cons_of_mem _ (List.mem_cons_of_mem _ (List.mem_cons_of_mem _ (List.mem_map.mpr ⟨j, List.mem_range.mpr hj, rfl⟩)))))
  obtain ⟨a', c, cA, kA, q1, q2, q3, q4, q5, q6, -⟩ := Cond.exactly_spec (args := args) (first := s) (o := none) (s := s) (idx := []) (t := tm) (cls := "java/lang/String") hex
  have e : a' = a := by
    rw [ha] at q1
    injection q1 with q1
    injection q1 with q1
    exact q1.symm
  subst e
  obtain ⟨v, hv, hT⟩ := va_Tof (f := fun j => .int ((pm_stx.getD i []).getD j 0)) (A := A) (pm_txN.2 i hi) har (va_eqt hle) (fun j hj => va_eqt (hel j hj)) hA
  exact ⟨v, ⟨cA, q3, q5, by rw [q6]; exact q2, hA a' (Array.getElem?_eq_some_iff.mp q3).1⟩, vk_OFof q1 (va_eqt hco) hA, vk_OFof q1 hv hA, hT⟩
theorem pm_KTof {s : State} {scr : Nat} (hts : ∀ w ∈ lw_tbl, w.before #[Value.ref scr] s = true) (hgv : (Jvm.Cond.and given_1 narrow_1).before #[Value.ref scr] s = true) : ∃ (D : va_G) (cA : Nat → ClassId) (sa : Nat → Nat), sa 0 = scr ∧ pm_K D cA sa s ∧ pm_T s.heap.size sa s := by
  obtain ⟨D, cA, sa, h0, hK⟩ := pm_Kof hts scr
  have hA : ∀ a : Nat, a < s.heap.size → ¬ (fun q => s.heap.size ≤ q) a := fun a ha => Nat.not_le.mpr ha
  have hs := flat_of_before _ hgv
  have hC : va_Z "java/lang/String" "COMPACT_STRINGS" "Z" (.int 1) (fun q => s.heap.size ≤ q) s s.heap := va_Zof (hts _ pm_wL0) (hts _ pm_wI0) (va_eqi (hs (Cond.eq (.static "java/lang/String" "COMPACT_STRINGS" "Z") (.int 1)) (by decide +kernel))) hA
  have hF : va_Zq "jdk/internal/util/Preconditions" "SIOOBE_FORMATTER" "Ljava/util/function/BiFunction;" (fun q => s.heap.size ≤ q) s s.heap := va_Zqof (hts _ pm_wL1) (hts _ pm_wI1) (hs (Cond.isRef (.static "jdk/internal/util/Preconditions" "SIOOBE_FORMATTER" "Ljava/util/function/BiFunction;")) (by decide +kernel)) hA
  have hV : ∀ i : Nat, ∃ v : Nat, i < 19 → va_O "java/lang/String" (sa (i + 1)) (fun q => s.heap.size ≤ q) s s.heap ∧ va_OF "java/lang/String" "coder" "B" (.int 0) (sa (i + 1)) (fun q => s.heap.size ≤ q) s s.heap ∧ va_OF "java/lang/String" "value" "[B" (.ref v) (sa (i + 1)) (fun q => s.heap.size ≤ q) s s.heap ∧ va_T .byte v (pm_stx.getD i []).length (fun j => .int ((pm_stx.getD i []).getD j 0)) (fun q => s.heap.size ≤ q) s s.heap := by
    intro i
    by_cases hi : i < 19
    · have hq : pm_strs[i]? = some (pm_strs.getD i (0, 0, "")) := by
        rw [List.getD_eq_getElem?_getD, List.getElem?_eq_getElem (show i < pm_strs.length by rw [pm_txN.1]; exact hi)]
        rfl
      obtain ⟨v, h⟩ := pm_tx1 hA hi (pm_txl_of hgv i hi) (hK.2.2.2.2 i _ hq).2
      exact ⟨v, fun _ => h⟩
    · exact ⟨0, fun h => absurd h hi⟩
  obtain ⟨aV, haV⟩ := Classical.axiomOfChoice hV
  obtain ⟨fl, fa, hfa⟩ : ∃ fl fa : Nat, va_Z "jdk/internal/util/Preconditions" "SIOOBE_FORMATTER" "Ljava/util/function/BiFunction;" (if fl = 0 then .null else .ref fa) (fun q => s.heap.size ≤ q) s s.heap := by
    rcases hF with h | ⟨t, h⟩
    · exact ⟨0, 0, h⟩
    · exact ⟨1, t, h⟩
  refine ⟨D, cA, fun j => if j = 201 then fl else if j = 200 then fa else if 101 ≤ j then aV (j - 101) else sa j, h0, ⟨hK.1, hK.2.1, hK.2.2.1, hK.2.2.2.1, fun j q hq => ?_⟩, fun i hi => ?_, hC, hfa⟩
  · have hj : j < pm_strs.length := (List.getElem?_eq_some_iff.mp hq).1
    rw [pm_txN.1] at hj
    show vk_R (pm_own q.1) q.2.1 q.2.2 (if j + 1 = 201 then fl else if j + 1 = 200 then fa else if 101 ≤ j + 1 then aV (j + 1 - 101) else sa (j + 1)) s
    rw [if_neg (by omega), if_neg (by omega), if_neg (by omega)]
    exact hK.2.2.2.2 j q hq
  · show va_O "java/lang/String" (if i + 1 = 201 then fl else if i + 1 = 200 then fa else if 101 ≤ i + 1 then aV (i + 1 - 101) else sa (i + 1)) (fun q => s.heap.size ≤ q) s s.heap ∧ va_OF "java/lang/String" "coder" "B" (.int 0) (if i + 1 = 201 then fl else if i + 1 = 200 then fa else if 101 ≤ i + 1 then aV (i + 1 - 101) else sa (i + 1)) (fun q => s.heap.size ≤ q) s s.heap ∧ va_OF "java/lang/String" "value" "[B" (.ref (if i + 101 = 201 then fl else if i + 101 = 200 then fa else if 101 ≤ i + 101 then aV (i + 101 - 101) else sa (i + 101))) (if i + 1 = 201 then fl else if i + 1 = 200 then fa else if 101 ≤ i + 1 then aV (i + 1 - 101) else sa (i + 1)) (fun q => s.heap.size ≤ q) s s.heap ∧ va_T .byte (if i + 101 = 201 then fl else if i + 101 = 200 then fa else if 101 ≤ i + 101 then aV (i + 101 - 101) else sa (i + 101)) (pm_stx.getD i []).length (fun j => .int ((pm_stx.getD i []).getD j 0)) (fun q => s.heap.size ≤ q) s s.heap
    rw [if_neg (show ¬ i + 1 = 201 by omega), if_neg (show ¬ i + 1 = 200 by omega), if_neg (show ¬ 101 ≤ i + 1 by omega), if_neg (show ¬ i + 101 = 201 by omega), if_neg (show ¬ i + 101 = 200 by omega), if_pos (show 101 ≤ i + 101 by omega), show i + 101 - 101 = i by omega]
    exact haV i hi
