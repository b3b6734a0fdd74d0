section PMJ
variable {D : va_G} {cA : Nat → ClassId} {b : Nat} {sa : Nat → Nat} {l : Launch}
variable {p : Program} {e : Env} {R : Room} {s : State} {mi : MethodId} {args : Array Value} {below : List Frame} {meth : Method} {co : Code} {H : Heap} {locs : List Loc} {Q : State → Prop} {ls : Array Slot} {pc : Nat}
theorem pm_goodM {y : Nat} (hy : pm_oc y < pm_lawc) : GoodIn pm_ws (pm_wsm y) := by
  intro w hw
  rcases List.mem_cons.mp hw with rfl | hw
  · have := (pm_okA y).2.2.2.2 (show pm_oc y ≠ 18 from Nat.ne_of_lt hy)
    exact ⟨this, good_of_word (pm_wsgood this)⟩
  · exact ⟨hw, good_of_word (pm_wsgood hw)⟩
theorem pm_dcS {Y : MethodName} {yb mb : ByteArray} {yL mL : Nat} {yr : Option FieldType} {yR : Room} {ymc yms c k j kind n' : Nat} {ow : String} {as rest : List Value} {h h1 : pmH} {r1 : Option Value}
    (hx : p.tables.exec = Jvm.exec) (hb : co.code = mb) (hml : co.maxLocals = mL) (hts : ∀ w ∈ pm_ws, w.before args s = true) (hown : s.vm.findClass ow = some mi.cls) (hK : pm_K D cA sa s) (hls : ls.size = mL) (hTx : pm_T b sa s) (hW : pm_Wd D cA b sa h H) (hSv : pm_Sv b s.heap H locs)
    (hM : Met l Y (Cond.code Y yb yL yr :: pm_ws) yR (pm_P D cA b sa as h) (pm_Q D cA b sa h1 r1) ymc yms (fun q => b ≤ q)) (hG : GoodIn pm_ws (Cond.code Y yb yL yr :: pm_ws)) (hini : (Cond.initialized Y.cls).before args s = true)
    (hlink : kind < 10 → (Cond.methodLink ow j Y).before args s = true) (hnest : ¬ kind < 10 → va_Nw (.methodLinkNest ow j Y "MarkTree") s) (hd : Y.cls ≠ "java/lang/invoke/MethodHandle" ∧ Y.cls ≠ "java/lang/invoke/VarHandle" ∧ (parseMethodDescriptor Y.desc).map (fun d => d.parameters.length) = some n')
    (hrc : yR.cells = ymc) (hrs : yR.slots = yms) (hR' : yR.frames + 1 ≤ R.frames ∧ 8 + (yL + 11) + yR.locals ≤ R.locals) (hfit : c + ymc ≤ R.cells ∧ k + yms ≤ R.slots) (hrest : (rest.map fun v => v.category).sum ≤ 8) (hlen : as.length = n') (hdec : decode mb pc = .ok (.invokestatic j, 3)) (hsta : (Cond.static Y).before args s = true)
    (kk : ∀ (H1 : Heap) (locs1 : List Loc), pm_Wd D cA b sa h1 H1 → pm_Sv b s.heap H1 locs1 → W p l e R s mi args below meth co H1 locs1 (c + ymc) (k + yms) Q (F0 mi (pc + 3) ls (pm_cs b sa (r1.toList ++ rest)))) : W p l e R s mi args below meth co H locs c k Q (F0 mi pc ls (pm_cs b sa (as.reverse ++ rest))) := by
  have hpre : ∀ U : State, U.heap = H → s.WarmedH U.vm → pm_P D cA b sa as h (pm_cs b sa as).toArray U := fun U hU hWm => ⟨rfl, by rw [hU]; exact hW, hK.warm hWm, hTx.go hWm.alike (fun q hq => by rw [hU]; exact hSv.1 q hq)⟩
  have hstk : (F0 mi pc ls (pm_cs b sa (as.reverse ++ rest))).stack = (pm_cs b sa as).reverse ++ pm_cs b sa rest := by
    show List.map (pm_cv b sa) (as.reverse ++ rest) = _
    rw [List.map_append, List.map_reverse]
  by_cases h10 : kind < 10
  · exact pm_callG (va_runS (As := pm_cs b sa as) (rest := pm_cs b sa rest) ⟨hx, hb, hml, hown, hts⟩ hM ⟨callB_of n' hts hG rfl hrc hrs hini (hlink h10) hd hR', hsta⟩ ⟨pm_blind as h, hpre⟩ rfl (by rw [List.length_map]; exact hlen) hls hstk (lv_room (by rw [pm_cat_cs]; exact hrest)) hdec hfit) hSv kk
  · exact pm_callG (va_runSN (As := pm_cs b sa as) (rest := pm_cs b sa rest) ⟨hx, hb, hml, hown, hts⟩ hM ⟨va_cnB n' hts hG rfl hrc hrs (hnest h10) hini hd hR', hsta, trivial⟩ ⟨pm_blind as h, hpre⟩ rfl (by rw [List.length_map]; exact hlen) hls hstk (lv_room (by rw [pm_cat_cs]; exact hrest)) hdec hfit) hSv kk
theorem pm_dcV {Y : MethodName} {yb mb : ByteArray} {yL mL : Nat} {yr : Option FieldType} {yR : Room} {ymc yms c k j kind n' q ad : Nat} {ow : String} {as' rest : List Value} {h h1 : pmH} {r1 : Option Value}
    (hx : p.tables.exec = Jvm.exec) (hb : co.code = mb) (hml : co.maxLocals = mL) (hts : ∀ w ∈ pm_ws, w.before args s = true) (hown : s.vm.findClass ow = some mi.cls) (hK : pm_K D cA sa s) (hls : ls.size = mL) (hTx : pm_T b sa s) (hW : pm_Wd D cA b sa h H) (hSv : pm_Sv b s.heap H locs)
    (hM : Met l Y (Cond.code Y yb yL yr :: pm_ws) yR (pm_P D cA b sa (.ref q :: as') h) (pm_Q D cA b sa h1 r1) ymc yms (fun q => b ≤ q)) (hG : GoodIn pm_ws (Cond.code Y yb yL yr :: pm_ws)) (hini : (Cond.initialized Y.cls).before args s = true)
    (hlink : kind < 10 → (Cond.methodLink ow j Y).before args s = true) (hnest : ¬ kind < 10 → va_Nw (.methodLinkNest ow j Y "MarkTree") s) (hd : Y.cls ≠ "java/lang/invoke/MethodHandle" ∧ Y.cls ≠ "java/lang/invoke/VarHandle" ∧ (parseMethodDescriptor Y.desc).map (fun d => d.parameters.length) = some n')
    (hrc : yR.cells = ymc) (hrs : yR.slots = yms) (hR' : yR.frames + 1 ≤ R.frames ∧ 8 + (yL + 11) + yR.locals ≤ R.locals) (hfit : c + ymc ≤ R.cells ∧ k + yms ≤ R.slots) (hrest : (rest.map fun v => v.category).sum ≤ 8) (hlen : as'.length = n') (hadr : pm_cv b sa (.ref q) = .ref ad) (hins : (Cond.instanceMethod Y).before args s = true)
    (hop : (decode mb pc = .ok (.invokevirtual j, 3) ∧ (Cond.selects Y.cls Y Y).before args s = true ∧ ∃ cellB : Cell, H[ad]? = some cellB ∧ cellB.vm.isStatics = false ∧ s.vm.findClass Y.cls = some cellB.cls) ∨ (decode mb pc = .ok (.invokespecial j, 3) ∧ Y.name = "<init>" ∧ yr = none))
    (kk : ∀ (H1 : Heap) (locs1 : List Loc), pm_Wd D cA b sa h1 H1 → pm_Sv b s.heap H1 locs1 → W p l e R s mi args below meth co H1 locs1 (c + ymc) (k + yms) Q (F0 mi (pc + 3) ls (pm_cs b sa (r1.toList ++ rest)))) : W p l e R s mi args below meth co H locs c k Q (F0 mi pc ls (pm_cs b sa (as'.reverse ++ .ref q :: rest))) := by
  have hpre : ∀ U : State, U.heap = H → s.WarmedH U.vm → pm_P D cA b sa (.ref q :: as') h (pm_cs b sa (.ref q :: as')).toArray U := fun U hU hWm => ⟨rfl, by rw [hU]; exact hW, hK.warm hWm, hTx.go hWm.alike (fun q hq => by rw [hU]; exact hSv.1 q hq)⟩
  have hstk : (F0 mi pc ls (pm_cs b sa (as'.reverse ++ .ref q :: rest))).stack = (pm_cs b sa as').reverse ++ .ref ad :: pm_cs b sa rest := by
    show List.map (pm_cv b sa) (as'.reverse ++ .ref q :: rest) = _
    rw [List.map_append, List.map_reverse, List.map_cons, hadr]
  have has2 : (pm_cs b sa (.ref q :: as')).toArray = (Value.ref ad :: pm_cs b sa as').toArray := by rw [← hadr]; rfl
  rw [has2] at hpre
  rcases hop with ⟨hdec, hsel, hrcv⟩ | ⟨hdec, hnm, rfl⟩
  · by_cases h10 : kind < 10
    · exact pm_callG (va_runV (As := pm_cs b sa as') (rest := pm_cs b sa rest) ⟨hx, hb, hml, hown, hts⟩ hM ⟨callB_of n' hts hG rfl hrc hrs hini (hlink h10) hd hR', hins, hsel⟩ ⟨pm_blind _ h, hrcv, hpre⟩ rfl (by rw [List.length_map]; exact hlen) hls hstk (lv_room (by rw [pm_cat_cs]; exact hrest)) hdec hfit) hSv kk
    · exact pm_callG (va_runVN (As := pm_cs b sa as') (rest := pm_cs b sa rest) ⟨hx, hb, hml, hown, hts⟩ hM ⟨va_cnB n' hts hG rfl hrc hrs (hnest h10) hini hd hR', hins, hsel⟩ ⟨pm_blind _ h, hrcv, hpre⟩ rfl (by rw [List.length_map]; exact hlen) hls hstk (lv_room (by rw [pm_cat_cs]; exact hrest)) hdec hfit) hSv kk
  · by_cases h10 : kind < 10
    · exact pm_callG (va_runI (As := pm_cs b sa as') (rest := pm_cs b sa rest) ⟨hx, hb, hml, hown, hts⟩ hM ⟨callB_of n' hts hG rfl hrc hrs hini (hlink h10) hd hR', hnm, hins⟩ ⟨pm_blind _ h, hpre⟩ rfl (by rw [List.length_map]; exact hlen) hls hstk (lv_room (by rw [pm_cat_cs]; exact hrest)) hdec hfit) hSv kk
    · exact pm_callG (va_runIN (As := pm_cs b sa as') (rest := pm_cs b sa rest) ⟨hx, hb, hml, hown, hts⟩ hM ⟨va_cnB n' hts hG rfl hrc hrs (hnest h10) hini hd hR', hnm, hins⟩ ⟨pm_blind _ h, hpre⟩ rfl (by rw [List.length_map]; exact hlen) hls hstk (lv_room (by rw [pm_cat_cs]; exact hrest)) hdec hfit) hSv kk
end PMJ
