section PMK
variable {D : va_G} {cA : Nat → ClassId} {b : Nat} {sa : Nat → Nat} {l : Launch}
variable {p : Program} {e : Env} {R : Room} {s : State} {mi : MethodId} {args : Array Value} {below : List Frame} {meth : Method} {co : Code} {H : Heap} {locs : List Loc} {Q : State → Prop} {ls : Array Slot} {pc : Nat}
theorem pm_dec0 {M : pmM} (hM : pm_okm M) {pc : Nat} {i : Instr} {len : Nat} (hlk : pm_look M.2.2.2.2.2.2.2.2.2.2 pc = some (i, len)) : decode M.2.1 pc = .ok (i, pm_len i len) := hM.1 (pc, i, len) (pm_look_mem hlk)
theorem pm_dec {m pc : Nat} {i : Instr} {len : Nat} (hlk : pm_look (pm_kl m) pc = some (i, len)) : decode (pm_bytes m) pc = .ok (i, pm_len i len) := pm_dec0 (pm_okA m) hlk
theorem pm_cls0 {M : pmM} (hM : pm_okm M) : M.1.cls = pm_own M.2.2.2.2.2.2.2.2.1 := hM.2.2.1
theorem pm_cls (y : Nat) : (pm_y y).cls = pm_own (pm_oc y) := pm_cls0 (pm_okA y)
theorem pm_linkY {k j y kind n : Nat} (hk3 : ¬ kind = 3) (hwords : ∀ w ∈ pm_wc k (j, y, kind, n), w ∈ pm_ws) (hts : ∀ w ∈ pm_ws, w.before args s = true) :
    (Cond.initialized (pm_y y).cls).before args s = true ∧ (kind < 10 → (Cond.methodLink (pm_own k) j (pm_y y)).before args s = true) ∧ (kind % 10 = 0 → (Cond.instanceMethod (pm_y y)).before args s = true ∧ (Cond.selects (pm_y y).cls (pm_y y) (pm_y y)).before args s = true) ∧ (kind % 10 = 1 → (Cond.static (pm_y y)).before args s = true) ∧ (kind % 10 = 2 → (Cond.instanceMethod (pm_y y)).before args s = true) := by
  unfold pm_wc at hwords
  dsimp only at hwords
  rw [if_neg hk3] at hwords
  generalize pm_y y = Y at *
  generalize pm_own k = ow at *
  refine ⟨hts _ (hwords _ (List.mem_append_left _ (List.mem_append_left _ List.mem_cons_self))), fun h10 => ?_, fun h0 => ?_, fun h0 => ?_, fun h0 => ?_⟩
  · rw [if_pos h10] at hwords
    exact hts _ (hwords _ (List.mem_append_left _ (List.mem_append_right _ List.mem_cons_self)))
  · rw [h0] at hwords
    exact ⟨hts _ (hwords _ (List.mem_append_right _ List.mem_cons_self)), hts _ (hwords _ (List.mem_append_right _ (List.mem_cons_of_mem _ List.mem_cons_self)))⟩
  · rw [h0] at hwords
    exact hts _ (hwords _ (List.mem_append_right _ List.mem_cons_self))
  · rw [h0] at hwords
    exact hts _ (hwords _ (List.mem_append_right _ List.mem_cons_self))
theorem pm_chkY {j y kind n : Nat} (hk3 : ¬ kind = 3) (hchk : pm_chkc (j, y, kind, n) = true) :
    ((pm_y y).cls ≠ "java/lang/invoke/MethodHandle" ∧ (pm_y y).cls ≠ "java/lang/invoke/VarHandle" ∧ (parseMethodDescriptor (pm_y y).desc).map (fun d => d.parameters.length) = some n) ∧ (kind % 10 = 2 → (pm_y y).name = "<init>" ∧ pm_ret y = none) := by
  unfold pm_chkc at hchk
  dsimp only at hchk
  generalize pm_y y = Y at *
  generalize pm_ret y = rt at *
  rw [Bool.or_eq_true, Bool.and_eq_true, Bool.or_eq_true, Bool.and_eq_true] at hchk
  rcases hchk with hbad | ⟨hd, hinit⟩
  · exact absurd (beq_iff_eq.mp hbad) hk3
  · refine ⟨of_decide_eq_true hd, fun h2 => ?_⟩
    rcases hinit with h | h
    · rw [h2] at h
      exact absurd h (by decide)
    · exact ⟨of_decide_eq_true h.1, of_decide_eq_true h.2⟩
theorem pm_nestY {k j y kind n : Nat} (hK : pm_K D cA sa s) (hmem : (j, y, kind, n) ∈ pm_calls k) (h10 : ¬ kind < 10) : va_Nw (.methodLinkNest (pm_own k) j (pm_y y) "MarkTree") s := by
  have h1 : (k, j, y) ∈ pm_nest := pm_nB k (j, y, kind, n) hmem h10
  have h2 := hK.2.2.1 (k, j, y) h1
  unfold pm_wn at h2
  exact h2
theorem pm_goodY {y : Nat} (hoc : pm_oc y < pm_lawc) : GoodIn pm_ws (Cond.code (pm_y y) (pm_bytes y) (pm_maxL y) (pm_ret y) :: pm_ws) := by
  have h := pm_goodM hoc
  unfold pm_wsm at h
  exact h
theorem pm_metY {n y : Nat} {as : List Value} {h h1 : pmH} {r1 : Option Value} (ih : pm_Sn D cA b sa l n) (hsb : sa 0 < b) (hcall : pm_exec none n y 0 (lv_args 0 as) [] h 0 0 = some (h1, r1)) (hlen : (as.map fun v => v.category).sum ≤ pm_maxL y) :
    Met l (pm_y y) (Cond.code (pm_y y) (pm_bytes y) (pm_maxL y) (pm_ret y) :: pm_ws) (pm_rm y) (pm_P D cA b sa as h) (pm_Q D cA b sa h1 r1) (pm_mc y) (pm_ms y) (fun q => b ≤ q) := by
  have h := pm_met ih hsb hcall hlen
  unfold pm_wsm at h
  exact h
theorem pm_rcvY {y q N : Nat} {f : Nat → Value} {h : pmH} (hK : pm_K D cA sa s) (hW : pm_Wd D cA b sa h H) (hq : h[q]? = some (pm_oc y, N, f)) (hoc : pm_oc y < 12) : ∃ cellB : Cell, H[b + q]? = some cellB ∧ cellB.vm.isStatics = false ∧ s.vm.findClass (pm_y y).cls = some cellB.cls := by
  rw [pm_cls y]
  generalize pm_oc y = t at *
  rcases hW.2.2 q _ hq with ⟨g1, r0, g2, cell, q1, q2, q3, q4⟩ | ⟨g1, -⟩
  · dsimp only at g2 q2
    refine ⟨cell, q1, by rw [q3]; rfl, ?_⟩
    have hck := (hK.1 t r0 g2).2.1
    rw [(pm_clok t r0 g2).2.2.2.1, q2]
    exact hck
  · dsimp only at g1
    omega
theorem pm_docall {n m c k y : Nat} {i : Instr} {len : Nat} {st as rest : List Value} {h h1 : pmH} {r1 : Option Value} (ih : pm_Sn D cA b sa l n) (hx : p.tables.exec = Jvm.exec) (hb : co.code = pm_bytes m) (hml : co.maxLocals = pm_maxL m) (hts : ∀ w ∈ pm_ws, w.before args s = true) (hown : s.vm.findClass (pm_own (pm_oc m)) = some mi.cls) (hK : pm_K D cA sa s) (hTx : pm_T b sa s) (hsb : sa 0 < b)
    (hR : pm_fr m ≤ R.frames ∧ pm_lo m ≤ R.locals ∧ pm_mc m ≤ R.cells ∧ pm_ms m ≤ R.slots) (hls : ls.size = pm_maxL m) (hW : pm_Wd D cA b sa h H) (hSv : pm_Sv b s.heap H locs) (hdec : decode (pm_bytes m) pc = .ok (i, pm_len i len))
    (hic : pm_isCall m i st h c k y as rest) (hcall : pm_exec none n y 0 (lv_args 0 as) [] h 0 0 = some (h1, r1))
    (kk : ∀ (H1 : Heap) (locs1 : List Loc), pm_Wd D cA b sa h1 H1 → pm_Sv b s.heap H1 locs1 → W p l e R s mi args below meth co H1 locs1 (c + pm_mc y) (k + pm_ms y) Q (F0 mi (pc + 3) ls (pm_cs b sa (r1.toList ++ rest)))) : W p l e R s mi args below meth co H locs c k Q (F0 mi pc ls (pm_cs b sa st)) := by
  obtain ⟨j, kind, n', hlk, hk3, ⟨f1, f2, f3, f4⟩, hrest, has, hoc, hcase⟩ := hic
  have hM := pm_metY ih hsb hcall has
  have hG := pm_goodY hoc
  have hmem : (j, y, kind, n') ∈ pm_calls (pm_oc m) := pm_look_mem hlk
  obtain ⟨hini, hlink, hk0w, hk1w, hk2w⟩ := pm_linkY (args := args) (s := s) (n := n') hk3 (fun w hw => pm_cA (pm_oc m) w (List.mem_flatMap.mpr ⟨(j, y, kind, n'), hmem, hw⟩)) hts
  obtain ⟨hd, hinit⟩ := pm_chkY hk3 (pm_cB (pm_oc m) (j, y, kind, n') hmem)
  have hnest : ¬ kind < 10 → va_Nw (.methodLinkNest (pm_own (pm_oc m)) j (pm_y y) "MarkTree") s := fun h10 => pm_nestY hK hmem h10
  have hR' : (pm_rm y).frames + 1 ≤ R.frames ∧ 8 + (pm_maxL y + 11) + (pm_rm y).locals ≤ R.locals := ⟨Nat.le_trans f1 hR.1, Nat.le_trans f2 hR.2.1⟩
  have hfit : c + pm_mc y ≤ R.cells ∧ k + pm_ms y ≤ R.slots := ⟨Nat.le_trans f3 hR.2.2.1, Nat.le_trans f4 hR.2.2.2⟩
  have hrc : (pm_rm y).cells = pm_mc y := rfl
  have hrs : (pm_rm y).slots = pm_ms y := rfl
  have hrcv : ∀ q N f, h[q]? = some (pm_oc y, N, f) → pm_oc y < 12 → ∃ cellB : Cell, H[b + q]? = some cellB ∧ cellB.vm.isStatics = false ∧ s.vm.findClass (pm_y y).cls = some cellB.cls := fun q N f hq hoc => pm_rcvY hK hW hq hoc
  have hcls := pm_cls y
  clear hcall has f1 f2 f3 f4 hlk ih hmem hoc hR
  generalize pm_rm y = yR at *
  generalize pm_y y = Y at *
  generalize pm_bytes y = yb at *
  generalize pm_maxL y = yL at *
  generalize pm_ret y = yr at *
  generalize pm_mc y = ymc at *
  generalize pm_ms y = yms at *
  generalize pm_oc y = yo at *
  generalize pm_bytes m = mb at *
  generalize pm_maxL m = mL at *
  generalize pm_own (pm_oc m) = ow at *
  rcases hcase with ⟨rfl, hk1, hlen, rfl⟩ | ⟨q, N, f, as', hop, rfl, hlen, rfl, hq, hoc2⟩ | ⟨q, as', rfl, hk0, rfl, hlen, rfl, h2001, h2020, hst⟩
  · exact pm_dcS hx hb hml hts hown hK hls hTx hW hSv hM hG hini hlink hnest hd hrc hrs hR' hfit hrest hlen hdec (hk1w hk1) kk
  · have hadr : pm_cv b sa (.ref q) = .ref (b + q) := congrArg Value.ref (hW.lt hq).2.2
    rcases hop with ⟨rfl, hk0⟩ | ⟨rfl, hk2⟩
    · exact pm_dcV hx hb hml hts hown hK hls hTx hW hSv hM hG hini hlink hnest hd hrc hrs hR' hfit hrest hlen hadr (hk0w hk0).1 (Or.inl ⟨hdec, (hk0w hk0).2, hrcv q N f hq hoc2⟩) kk
    · exact pm_dcV hx hb hml hts hown hK hls hTx hW hSv hM hG hini hlink hnest hd hrc hrs hR' hfit hrest hlen hadr (hk2w hk2) (Or.inr ⟨hdec, hinit hk2⟩) kk
  · obtain ⟨i, rfl⟩ : ∃ i : Nat, q = 2001 + i := ⟨q - 2001, by omega⟩
    have hadr : pm_cv b sa (.ref (2001 + i)) = .ref (sa (i + 1)) := congrArg Value.ref ((pm_ad_tx b sa (by omega)).trans (congrArg sa (by omega)))
    obtain ⟨cell, g1, g2, g3, -⟩ := (hTx.1 i (by omega)).1.kept (fun a _ ha => hSv.1 a (Nat.not_le.mp ha))
    rw [hst] at hcls
    exact pm_dcV hx hb hml hts hown hK hls hTx hW hSv hM hG hini hlink hnest hd hrc hrs hR' hfit hrest hlen hadr (hk0w hk0).1 (Or.inl ⟨hdec, (hk0w hk0).2, cell, g1, g2, by rw [hcls]; exact g3⟩) kk
end PMK
