section PMJ
variable {D : va_G} {cA : Nat → ClassId} {b : Nat} {sa : Nat → Nat} {l : Launch}
variable {p : Program} {e : Env} {R : Room} {s : State} {mi : MethodId} {args : Array Value} {below : List Frame} {meth : Method} {co : Code} {H : Heap} {locs : List Loc} {Q : State → Prop} {ls : Array Slot} {pc : Nat}
theorem pm_goodM {y : Nat} (hy : pm_oc y < 15) : GoodIn pm_ws (pm_wsm y) := by
  intro w hw
  rcases List.mem_cons.mp hw with rfl | hw
  · have := (pm_okA y).2.2.2.2 (show pm_oc y ≠ 15 by omega)
    exact ⟨this, good_of_word (pm_wsgood this)⟩
  · exact ⟨hw, good_of_word (pm_wsgood hw)⟩
theorem pm_docall {n m c k y : Nat} {i : Instr} {st as rest : List Value} {h h1 : pmH} {r1 : Option Value} (ih : pm_Sn D cA b sa l n) (hx : p.tables.exec = Jvm.exec) (hb : co.code = pm_bytes m) (hml : co.maxLocals = pm_maxL m) (hts : ∀ w ∈ pm_ws, w.before args s = true) (hown : s.vm.findClass (pm_own (pm_oc m)) = some mi.cls) (hK : pm_K D cA sa s) (hsb : sa 0 < b)
    (hR : pm_fr m ≤ R.frames ∧ pm_lo m ≤ R.locals ∧ pm_mc m ≤ R.cells ∧ pm_ms m ≤ R.slots) (hls : ls.size = pm_maxL m) (hW : pm_Wd D cA b sa h H) (hSv : pm_Sv b s.heap H locs) (hdec : decode (pm_bytes m) pc = .ok (i, pm_len i 0) ∨ ∃ len, decode (pm_bytes m) pc = .ok (i, pm_len i len))
    (hic : pm_isCall m i st h c k y as rest) (hcall : pm_exec none n y 0 (lv_args 0 as) [] h 0 0 = some (h1, r1))
    (kk : ∀ (H1 : Heap) (locs1 : List Loc), pm_Wd D cA b sa h1 H1 → pm_Sv b s.heap H1 locs1 → W p l e R s mi args below meth co H1 locs1 (c + pm_mc y) (k + pm_ms y) Q (F0 mi (pc + 3) ls (pm_cs b sa (r1.toList ++ rest)))) : W p l e R s mi args below meth co H locs c k Q (F0 mi pc ls (pm_cs b sa st)) := by
  obtain ⟨j, kind, n', hlk, hk3, ⟨f1, f2, f3, f4⟩, hrest, has, hoc, hcase⟩ := hic
  have hM := pm_met ih hsb hcall has
  have hmem := pm_look_mem hlk
  have hchk := pm_cB _ _ hmem
  have hwords : ∀ w ∈ pm_wc (pm_oc m) (j, y, kind, n'), w ∈ pm_ws := fun w hw => pm_cA _ _ (List.mem_flatMap.mpr ⟨_, hmem, hw⟩)
  simp only [pm_chkc, Bool.or_eq_true, Bool.and_eq_true, beq_iff_eq, decide_eq_true_eq, Bool.not_eq_true', beq_eq_false_iff_ne] at hchk
  rcases hchk with hbad | ⟨hd, hinit⟩
  · exact absurd hbad hk3
  simp only [pm_wc, if_neg hk3] at hwords
  have hini : (Cond.initialized (pm_y y).cls).before args s = true := hts _ (hwords _ (List.mem_append_left _ (List.mem_append_left _ (List.mem_singleton.mpr rfl))))
  have hG := pm_goodM hoc
  have hR' : (pm_rm y).frames + 1 ≤ R.frames ∧ 8 + (pm_maxL y + 11) + (pm_rm y).locals ≤ R.locals := ⟨Nat.le_trans f1 hR.1, Nat.le_trans f2 hR.2.1⟩
  have hfit : c + pm_mc y ≤ R.cells ∧ k + pm_ms y ≤ R.slots := ⟨Nat.le_trans f3 hR.2.2.1, Nat.le_trans f4 hR.2.2.2⟩
  have hpre : ∀ U : State, U.heap = H → s.WarmedH U.vm → pm_P D cA b sa as h (pm_cs b sa as).toArray U := fun U hU hWm => ⟨rfl, by rw [hU]; exact hW, hK.warm hWm⟩
  have hlink : kind < 10 → (Cond.methodLink (pm_own (pm_oc m)) j (pm_y y)).before args s = true := fun h10 => hts _ (hwords _ (List.mem_append_left _ (List.mem_append_right _ (by rw [if_pos h10]; exact List.mem_singleton.mpr rfl))))
  have hnest : ¬ kind < 10 → va_Nw (.methodLinkNest (pm_own (pm_oc m)) j (pm_y y) "MarkTree") s := fun h10 => hK.2.2.1 _ (pm_nB _ _ hmem h10)
  rcases hcase with ⟨rfl, hk1, hlen, rfl⟩ | ⟨q, N, f, as', hop, rfl, hlen, rfl, hq, hoc2⟩
  · have hdec : decode (pm_bytes m) pc = .ok (.invokestatic j, 3) := by rcases hdec with h | ⟨_, h⟩ <;> exact h
    have hsta : (Cond.static (pm_y y)).before args s = true := hts _ (hwords _ (List.mem_append_right _ (by rw [hk1]; exact List.mem_singleton.mpr rfl)))
    have hstk : (F0 mi pc ls (pm_cs b sa (as.reverse ++ rest))).stack = (pm_cs b sa as).reverse ++ pm_cs b sa rest := by
      show pm_cs b sa (as.reverse ++ rest) = _
      rw [List.map_append, List.map_reverse]
    by_cases h10 : kind < 10
    · exact pm_callG (va_runS (As := pm_cs b sa as) (rest := pm_cs b sa rest) ⟨hx, hb, hml, hown, hts⟩ hM ⟨callB_of n' hts hG rfl rfl rfl hini (hlink h10) hd hR', hsta⟩ ⟨pm_blind as h, hpre⟩ rfl (by rw [List.length_map]; exact hlen) hls hstk (lv_room (by rw [pm_cat_cs]; exact hrest)) hdec hfit) hSv kk
    · exact pm_callG (va_runSN (As := pm_cs b sa as) (rest := pm_cs b sa rest) ⟨hx, hb, hml, hown, hts⟩ hM ⟨va_cnB n' hts hG rfl rfl rfl (hnest h10) hini hd hR', hsta, trivial⟩ ⟨pm_blind as h, hpre⟩ rfl (by rw [List.length_map]; exact hlen) hls hstk (lv_room (by rw [pm_cat_cs]; exact hrest)) hdec hfit) hSv kk
  · have hadr : pm_cv b sa (.ref q) = .ref (b + q) := congrArg Value.ref (hW.lt hq).2.2
    have hstk : (F0 mi pc ls (pm_cs b sa (as'.reverse ++ .ref q :: rest))).stack = (pm_cs b sa as').reverse ++ .ref (b + q) :: pm_cs b sa rest := by
      show pm_cs b sa (as'.reverse ++ .ref q :: rest) = _
      rw [List.map_append, List.map_reverse, List.map_cons, hadr]
    have has2 : (pm_cs b sa (.ref q :: as')).toArray = (Value.ref (b + q) :: pm_cs b sa as').toArray := by rw [← hadr]; rfl
    rw [has2] at hpre
    rcases hop with ⟨rfl, hk0⟩ | ⟨rfl, hk2⟩
    · have hdec : decode (pm_bytes m) pc = .ok (.invokevirtual j, 3) := by rcases hdec with h | ⟨_, h⟩ <;> exact h
      have hins : (Cond.instanceMethod (pm_y y)).before args s = true := hts _ (hwords _ (List.mem_append_right _ (by rw [hk0]; exact List.mem_cons_self)))
      have hsel : (Cond.selects (pm_y y).cls (pm_y y) (pm_y y)).before args s = true := hts _ (hwords _ (List.mem_append_right _ (by rw [hk0]; exact List.mem_cons_of_mem _ (List.mem_singleton.mpr rfl))))
      have hrcv : ∃ cellB : Cell, H[b + q]? = some cellB ∧ cellB.vm.isStatics = false ∧ s.vm.findClass (pm_y y).cls = some cellB.cls := by
        rcases hW.2.2 q _ hq with ⟨g1, r0, g2, cell, q1, q2, q3, q4⟩ | ⟨g1, -⟩
        · refine ⟨cell, q1, by rw [q3]; rfl, ?_⟩
          have hck := (hK.1 _ _ g2).2.1
          rw [(pm_okA y).2.2.1, (pm_clok _ _ g2).2.2.2.1, q2]
          exact hck
        · dsimp only at g1
          omega
      by_cases h10 : kind < 10
      · exact pm_callG (va_runV (As := pm_cs b sa as') (rest := pm_cs b sa rest) ⟨hx, hb, hml, hown, hts⟩ hM ⟨callB_of n' hts hG rfl rfl rfl hini (hlink h10) hd hR', hins, hsel⟩ ⟨pm_blind _ h, hrcv, hpre⟩ rfl (by rw [List.length_map]; exact hlen) hls hstk (lv_room (by rw [pm_cat_cs]; exact hrest)) hdec hfit) hSv kk
      · exact pm_callG (va_runVN (As := pm_cs b sa as') (rest := pm_cs b sa rest) ⟨hx, hb, hml, hown, hts⟩ hM ⟨va_cnB n' hts hG rfl rfl rfl (hnest h10) hini hd hR', hins, hsel⟩ ⟨pm_blind _ h, hrcv, hpre⟩ rfl (by rw [List.length_map]; exact hlen) hls hstk (lv_room (by rw [pm_cat_cs]; exact hrest)) hdec hfit) hSv kk
    · have hdec : decode (pm_bytes m) pc = .ok (.invokespecial j, 3) := by rcases hdec with h | ⟨_, h⟩ <;> exact h
      have hins : (Cond.instanceMethod (pm_y y)).before args s = true := hts _ (hwords _ (List.mem_append_right _ (by rw [hk2]; exact List.mem_singleton.mpr rfl)))
      rcases hinit with hbad | ⟨hnm, hrt⟩
      · exact absurd hk2 hbad
      have hwm : pm_wsm y = Cond.code (pm_y y) (pm_bytes y) (pm_maxL y) none :: pm_ws := by unfold pm_wsm; rw [hrt]
      by_cases h10 : kind < 10
      · exact pm_callG (va_runI (As := pm_cs b sa as') (rest := pm_cs b sa rest) ⟨hx, hb, hml, hown, hts⟩ hM ⟨callB_of n' hts hG hwm rfl rfl hini (hlink h10) hd hR', hnm, hins⟩ ⟨pm_blind _ h, hpre⟩ rfl (by rw [List.length_map]; exact hlen) hls hstk (lv_room (by rw [pm_cat_cs]; exact hrest)) hdec hfit) hSv kk
      · exact pm_callG (va_runIN (As := pm_cs b sa as') (rest := pm_cs b sa rest) ⟨hx, hb, hml, hown, hts⟩ hM ⟨va_cnB n' hts hG hwm rfl rfl (hnest h10) hini hd hR', hnm, hins⟩ ⟨pm_blind _ h, hpre⟩ rfl (by rw [List.length_map]; exact hlen) hls hstk (lv_room (by rw [pm_cat_cs]; exact hrest)) hdec hfit) hSv kk
end PMJ
set_option maxHeartbeats 4000000 in
theorem pm_sound (D : va_G) (cA : Nat → ClassId) (b : Nat) (sa : Nat → Nat) (l : Launch) : ∀ n, pm_Sn D cA b sa l n := by
  intro n
  induction n with
  | zero =>
    intro X m pc lv st h c k h' r hs
    exact absurd hs (by simp [pm_exec])
  | succ n ih =>
    intro X m pc lv st h c k h' r hs p e R s mi args below meth co H locs ls Q hx hb hml hts hown hK hX hsb hR hin hl hW hSv hc hk hend
    unfold pm_exec at hs
    split at hs
    · cases hs
    · next i len hlk =>
      have hdec : decode (pm_bytes m) pc = .ok (i, pm_len i len) := (pm_okA m).1 _ (pm_look_mem hlk)
      split at hs
      · next r0 he => cases hs; exact W.widen hc hk (hend pc i len st H locs ls hdec he hW hSv)
      · split at hs
        · next y as rest hinv =>
          split at hs
          · next h1 r1 hcall =>
            have hic := pm_inv_ok hinv
            have hbd : c + pm_mc y ≤ pm_mc m ∧ k + pm_ms y ≤ pm_ms m := by
              obtain ⟨_, _, _, _, _, ⟨_, _, q1, q2⟩, _⟩ := hic
              exact ⟨q1, q2⟩
            exact pm_docall ih hx hb hml hts hown hK hsb hR hl.1 hW hSv (Or.inr ⟨len, hdec⟩) hic hcall (fun H1 locs1 hW1 hSv1 => ih X m (pc + 3) lv _ h1 _ _ h' r hs p e R s mi args below meth co H1 locs1 ls Q hx hb hml hts hown hK hX hsb hR hin hl hW1 hSv1 hbd.1 hbd.2 hend)
          · cases hs
        · next as rest hinv =>
          obtain ⟨j, y, n', q, rfl, hlk2, rfl, hfr, hlo⟩ := pm_inv_obj hinv
          have hwords : ∀ w ∈ pm_wc (pm_oc m) (j, y, 3, n'), w ∈ pm_ws := fun w hw => pm_cA _ _ (List.mem_flatMap.mpr ⟨_, pm_look_mem hlk2, hw⟩)
          simp only [pm_wc, if_true] at hwords
          refine W.objInit hx hb hown (hts _ (hwords _ List.mem_cons_self)) (hts _ (hwords _ (List.mem_cons_of_mem _ List.mem_cons_self))) (hts _ (hwords _ (List.mem_cons_of_mem _ (List.mem_cons_of_mem _ List.mem_cons_self)))) (g := F0 mi pc ls (pm_cs b sa (.ref q :: rest))) rfl (hl.1.trans hml.symm) rfl hdec (Nat.le_trans hfr hR.1) ?_ ?_
          · show 2 * 0 + ((pm_cs b sa rest).map fun v => v.category).sum + 12 ≤ R.locals
            rw [pm_cat_cs]
            have := hR.2.1
            omega
          · exact ih X m (pc + 3) lv rest h c k h' r hs p e R s mi args below meth co H locs ls Q hx hb hml hts hown hK hX hsb hR hin hl hW hSv hc hk hend
        · split at hs
          · next pc' lv' st' h2 c' k' hstep =>
            unfold pm_step at hstep
            split at hstep
            · next q hA =>
              cases hstep
              obtain ⟨⟨rfl, rfl, rfl⟩, hk2⟩ := pm_stA (b := b) (sa := sa) (l := l) (p := p) (e := e) (R := R) (s := s) (mi := mi) (args := args) (below := below) (meth := meth) (co := co) (H := H) (locs := locs) (Q := Q) hx hb hdec hl hA
              exact hk2 (fun ls' hl' => ih X m pc' lv' st' h2 c' k' h' r hs p e R s mi args below meth co H locs ls' Q hx hb hml hts hown hK hX hsb hR hin hl' hW hSv hc hk hend)
            · obtain ⟨⟨rfl, g1, g2⟩, hk2⟩ := pm_stB (l := l) (p := p) (e := e) (R := R) (s := s) (mi := mi) (args := args) (below := below) (meth := meth) (co := co) (H := H) (locs := locs) (Q := Q) (ls := ls) hx hb hts hown hK hX hsb hR.2.2.1 hR.2.2.2 hin hdec hW hSv hstep
              exact hk2 (fun H1 locs1 hW1 hSv1 => ih X m pc' lv' st' h2 c' k' h' r hs p e R s mi args below meth co H1 locs1 ls Q hx hb hml hts hown hK hX hsb hR hin hl hW1 hSv1 (g1 hc) (g2 hk) hend)
          · cases hs
