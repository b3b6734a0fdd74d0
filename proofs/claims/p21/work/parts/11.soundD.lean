section PMD
variable {p : Program} {l : Launch} {e : Env} {R : Room} {s : State} {mi : MethodId} {args : Array Value} {below : List Frame} {meth : Method} {co : Code} {H H0 : Heap} {locs : List Loc} {Q : State → Prop}
variable {D : va_G} {cA : Nat → ClassId} {b : Nat} {sa : Nat → Nat} {m pc len : Nat} {r : List Value} {h : pmH} {c k : Nat} {ls : Array Slot} {cc : ByteArray}
theorem pm_outer (cl : ClassId) (N h0 : Nat) : ∀ i : Nat, Jvm.Free.Multi.outerC cl N h0 i = arrV cl N (fun j => if j < i then .ref (h0 + 1 + j) else .null)
  | 0 => by
    show ({ cls := cl, slots := Array.replicate N .null, vm := .none } : Cell) = _
    rw [arrV_new]
    refine congrArg (arrV cl N) (funext fun j => ?_)
    simp
  | i + 1 => by
    show (Jvm.Free.Multi.outerC cl N h0 i).setSlot i (.ref (h0 + 1 + i)) = _
    rw [pm_outer cl N h0 i, arrV_store]
    refine congrArg (arrV cl N) (funext fun j => ?_)
    by_cases e : j = i
    · subst e
      simp [updV]
    · by_cases hj : j < i
      · simp [updV, e, hj, Nat.lt_succ_of_lt hj]
      · simp [updV, e, hj, show ¬ j < i + 1 by omega]
theorem pm_arrV_ext {cl : ClassId} {N : Nat} {f g : Nat → Value} (h : ∀ j, j < N → f j = g j) : arrV cl N f = arrV cl N g := by
  unfold arrV
  congr 1
  congr 1
  funext j
  exact h j.val j.isLt
theorem pm_g_mna {j t : Nat} {n1 k1 : Int32} (hx : p.tables.exec = Jvm.exec) (hb : co.code = cc) (hts : ∀ w ∈ pm_ws, w.before args s = true) (hown : s.vm.findClass (pm_own (pm_oc m)) = some mi.cls) (hK : pm_K D cA sa s) (hW : pm_Wd D cA b sa h H) (hSv : pm_Sv b H0 H locs)
    (hl : pm_look (pm_mnas (pm_oc m)) j = some t) (ht : t = 20 ∨ t = 21) (hac : Cond.arrayClass (pm_aty t) ∈ pm_ws) (hn : 0 ≤ n1) (hk : 0 ≤ k1) (hN : n1.toNatClampNeg ≤ 1000) (hM : k1.toNatClampNeg ≤ 1000) (hcells : c + (1 + n1.toNatClampNeg) ≤ R.cells) (hslots : k + (n1.toNatClampNeg + n1.toNatClampNeg * k1.toNatClampNeg) ≤ R.slots) (hlen : h.length < 900) (hdec : decode cc pc = .ok (.multianewarray j 2, 4))
    (kk : ∀ (H1 : Heap) (locs1 : List Loc), pm_Wd D cA b sa (h ++ (pm_rows (t + 3) n1.toNatClampNeg (h.length + 1) :: List.replicate n1.toNatClampNeg (pm_mk t k1.toNatClampNeg (if t = 20 then .int 0 else .long 0)))) H1 → pm_Sv b H0 H1 locs1 → W p l e R s mi args below meth co H1 locs1 (c + 1 + n1.toNatClampNeg) (k + n1.toNatClampNeg + n1.toNatClampNeg * k1.toNatClampNeg) Q (F0 mi (pc + 4) ls (pm_cv b sa (.ref h.length) :: r))) : W p l e R s mi args below meth co H locs c k Q (F0 mi pc ls (.int k1 :: .int n1 :: r)) := by
  have hn0 : ¬ n1 < 0 := by
    rw [Int32.le_iff_toInt_le] at hn
    rw [Int32.lt_iff_toInt_lt]
    omega
  have hk0 : ¬ k1 < 0 := by
    rw [Int32.le_iff_toInt_le] at hk
    rw [Int32.lt_iff_toInt_lt]
    omega
  generalize hNe : n1.toNatClampNeg = N at *
  generalize hMe : k1.toNatClampNeg = M at *
  have hlk := hts _ (pm_mnA _ _ (List.mem_map.mpr ⟨_, pm_look_mem hl, rfl⟩))
  have hlk2 : (Cond.classLink (pm_own (pm_oc m)) j ("[" ++ (FieldType.array (pm_aty t)).toString)).before args s = true := by
    rcases ht with rfl | rfl
    · exact hlk
    · exact hlk
  have hover : (Cond.arrayOver (.array (pm_aty t))).before args s = true := by
    rcases hK.2.2.2.1 t with h1 | h1
    · exact h1
    · exact absurd ht h1
  have hbM : M * componentBytes (pm_aty t) ≤ 536870912 := by
    have : componentBytes (pm_aty t) ≤ 8 := by rcases ht with rfl | rfl <;> decide
    calc M * componentBytes (pm_aty t) ≤ 1000 * 8 := Nat.mul_le_mul hM this
      _ ≤ 536870912 := by decide
  intro T hT Xs
  obtain ⟨vm₁, cB, comp, -, fA, fC, -, -, X', step⟩ := Xs.multianewarray2F hx hown hlk2 hover (hts _ hac) (g := F0 mi pc ls (.int k1 :: .int n1 :: r)) rfl (by rw [hb]; exact hdec) rfl hn0 hk0 (by rw [hNe]; omega) (by rw [hMe]; exact hbM) (by rw [hMe]; omega) (by rcases ht with rfl | rfl <;> rfl) (by rcases ht with rfl | rfl <;> rfl) (by rw [hNe]; exact hcells) (by rw [hNe, hMe]; exact hslots)
  rw [hNe, hMe] at X' step
  generalize hF : Jvm.Free.Multi.fill (T.setVm vm₁) cB comp N M (defaultValue (pm_aty t)) N = F at X' step
  have hTh : (T.setVm vm₁).heap = H := hT
  obtain ⟨f1, f2, -, -⟩ := Jvm.Free.Multi.fill_facts (T.setVm vm₁) cB comp N M (defaultValue (pm_aty t)) N
  rw [hF, hTh] at f1 f2
  have hold : ∀ x : Nat, x < H.size → F.heap[x]? = H[x]? := fun x hx => by
    have := Jvm.Free.Multi.fill_old (T.setVm vm₁) cB comp N M (defaultValue (pm_aty t)) (a := x) (by rw [hTh]; exact hx) N
    rw [hF, hTh] at this
    exact this
  have hrow : ∀ i : Nat, i < N → F.heap[H.size + 1 + i]? = some (Jvm.Free.Multi.innerC comp M (defaultValue (pm_aty t))) := fun i hi => by
    have := Jvm.Free.Multi.fill_inner (T.setVm vm₁) cB comp N M (defaultValue (pm_aty t)) N i hi
    rw [hF, hTh] at this
    exact this
  have hcB : cB = cA (t + 3) := by
    have h2 := (hK.2.1 (t + 3) (by omega) (by omega)).2
    rcases ht with rfl | rfl
    · exact Option.some.inj (fA.symm.trans h2)
    · exact Option.some.inj (fA.symm.trans h2)
  have hcomp : comp = cA t := by
    have h2 := (hK.2.1 t (by omega) (by omega)).2
    rcases ht with rfl | rfl
    · exact Option.some.inj (fC.symm.trans h2)
    · exact Option.some.inj (fC.symm.trans h2)
  have hadr : pm_cv b sa (.ref h.length) = .ref H.size := by
    show Value.ref (pm_ad b sa h.length) = _
    rw [pm_ad, if_pos (by omega), hW.1]
  have hWd : pm_Wd D cA b sa (h ++ (pm_rows (t + 3) N (h.length + 1) :: List.replicate N (pm_mk t M (if t = 20 then .int 0 else .long 0)))) F.heap := by
    refine hW.app (by simp; omega) (by rw [f1]; simp; omega) hold (fun i y hi => ?_)
    cases i with
    | zero =>
      rw [List.getElem?_cons_zero] at hi
      cases hi
      refine Or.inr ⟨by show 20 ≤ t + 3; omega, by show t + 3 < 25; omega, ?_⟩
      rw [show b + (h.length + 0) = H.size by rw [hW.1]; omega, f2, pm_outer, hcB]
      refine congrArg some (pm_arrV_ext (fun i hi => ?_))
      rw [if_pos hi]
      show _ = Value.ref (pm_ad b sa (h.length + 1 + i))
      rw [pm_ad, if_pos (by omega)]
      have hz := hW.1
      exact congrArg Value.ref (show H.size + 1 + i = b + (h.length + 1 + i) by omega)
    | succ i =>
      rw [List.getElem?_cons_succ] at hi
      have hil : i < N := by
        have := (List.getElem?_eq_some_iff.mp hi).1
        rwa [List.length_replicate] at this
      rw [List.getElem?_replicate_of_lt hil] at hi
      cases hi
      refine Or.inr ⟨by show 20 ≤ t; omega, by show t < 25; omega, ?_⟩
      rw [show b + (h.length + (i + 1)) = H.size + 1 + i by rw [hW.1]; omega, hrow i hil, hcomp]
      show some ({ cls := cA t, slots := Array.replicate M (defaultValue (pm_aty t)), vm := .none } : Cell) = _
      rw [arrV_new]
      refine congrArg some (pm_arrV_ext (fun i _ => ?_))
      rcases ht with rfl | rfl <;> rfl
  obtain ⟨t2, a1, b1⟩ := kk F.heap locs hWd (hSv.grow (by rw [hW.1]; omega) hold) F rfl X'
  refine ⟨t2, step t2 ?_, b1⟩
  rw [hadr] at a1
  have e : T.heap.size = H.size := by rw [hT]
  rw [e]
  exact a1
end PMD
