/-! the heap: numbered cells stand at b, b + 1 .. -/
def pm_aty (t : Nat) : FieldType := match t with
  | 20 => .int
  | 21 => .long
  | 22 => .boolean
  | 23 => .array .int
  | _ => .array .long
def pm_at (D : va_G) (cA : Nat → ClassId) (b : Nat) (sa : Nat → Nat) (q : Nat) (x : pmC) (H : Heap) : Prop :=
  (x.1 < 20 ∧ ∃ r : vw_C, pm_cl[x.1]? = some r ∧ t_OB (b + q) (D.1 x.1) r.2.2 (D.2 x.1) H (fun k => pm_cv b sa (x.2.2 k))) ∨ (20 ≤ x.1 ∧ x.1 < 25 ∧ H[b + q]? = some (arrV (cA x.1) x.2.1 (fun j => pm_cv b sa (x.2.2 j))))
def pm_Wd (D : va_G) (cA : Nat → ClassId) (b : Nat) (sa : Nat → Nat) (h : pmH) (H : Heap) : Prop := H.size = b + h.length ∧ h.length ≤ 2000 ∧ ∀ (q : Nat) (x : pmC), h[q]? = some x → pm_at D cA b sa q x H
def pm_K (D : va_G) (cA : Nat → ClassId) (sa : Nat → Nat) (U : State) : Prop :=
  (∀ (c : Nat) (q : vw_C), pm_cl[c]? = some q → u_Kn U q.1 q.2.1 q.2.2 (D.1 c) (D.2 c)) ∧
  (∀ t, 20 ≤ t → t < 25 → ArrOfT U (cA t) (pm_aty t) ∧ U.vm.findClass ("[" ++ (pm_aty t).toString) = some (cA t)) ∧
  (∀ e ∈ pm_nest, va_Nw (pm_wn e) U) ∧
  (∀ t, (Cond.arrayOver (.array (pm_aty t))).before #[] U = true ∨ ¬ (t = 20 ∨ t = 21)) ∧
  (∀ (j : Nat) (q : Nat × Nat × String), pm_strs[j]? = some q → vk_R (pm_own q.1) q.2.1 q.2.2 (sa (j + 1)) U)
/-- what was there before: not changed; what is written lies at b or behind -/
def pm_Sv (b : Nat) (H0 H : Heap) (locs : List Loc) : Prop := (∀ q : Nat, q < b → H[q]? = H0[q]?) ∧ ∀ l ∈ locs, b ≤ l.base
section PMB
variable {D : va_G} {cA : Nat → ClassId} {b : Nat} {sa : Nat → Nat}
theorem pm_at.kept {q : Nat} {x : pmC} {H H1 : Heap} (h : pm_at D cA b sa q x H) (hq : H1[b + q]? = H[b + q]?) : pm_at D cA b sa q x H1 := by
  rcases h with ⟨h1, r, h2, h3⟩ | ⟨h1, h2, h3⟩
  · exact Or.inl ⟨h1, r, h2, h3.kept hq⟩
  · exact Or.inr ⟨h1, h2, hq.trans h3⟩
theorem pm_Wd.lt {h : pmH} {H : Heap} {q : Nat} {x : pmC} (hW : pm_Wd D cA b sa h H) (hq : h[q]? = some x) : q < h.length ∧ q < 2000 ∧ pm_ad b sa q = b + q := by
  have h1 : q < h.length := (List.getElem?_eq_some_iff.mp hq).1
  have h2 : q < 2000 := Nat.lt_of_lt_of_le h1 hW.2.1
  exact ⟨h1, h2, if_pos h2⟩
theorem pm_Wd.set {h : pmH} {H H1 : Heap} {q : Nat} {x x' : pmC} (hW : pm_Wd D cA b sa h H) (hq : h[q]? = some x) (hat : pm_at D cA b sa q x' H1) (hz : H1.size = H.size) (ho : ∀ a : Nat, a ≠ b + q → H1[a]? = H[a]?) : pm_Wd D cA b sa (h.set q x') H1 := by
  have hl := (List.getElem?_eq_some_iff.mp hq).1
  refine ⟨by rw [hz, hW.1, List.length_set], by rw [List.length_set]; exact hW.2.1, fun q2 y hy => ?_⟩
  by_cases he : q2 = q
  · subst he
    rw [List.getElem?_set_self hl] at hy
    cases hy
    exact hat
  · rw [List.getElem?_set_ne (Ne.symm he)] at hy
    exact (hW.2.2 q2 y hy).kept (ho _ (by omega))
theorem pm_Wd.app {h l : pmH} {H H1 : Heap} (hW : pm_Wd D cA b sa h H) (hl : h.length + l.length ≤ 2000) (hz : H1.size = H.size + l.length) (ho : ∀ a : Nat, a < H.size → H1[a]? = H[a]?) (hn : ∀ (j : Nat) (x : pmC), l[j]? = some x → pm_at D cA b sa (h.length + j) x H1) : pm_Wd D cA b sa (h ++ l) H1 := by
  refine ⟨by rw [hz, hW.1, List.length_append]; omega, by rw [List.length_append]; exact hl, fun q y hy => ?_⟩
  by_cases hq : q < h.length
  · rw [List.getElem?_append_left hq] at hy
    exact (hW.2.2 q y hy).kept (ho _ (by rw [hW.1]; omega))
  · rw [List.getElem?_append_right (by omega)] at hy
    have := hn _ y hy
    rwa [show h.length + (q - h.length) = q by omega] at this
theorem pm_Sv.put {H0 H H1 : Heap} {locs : List Loc} {q k : Nat} (h : pm_Sv b H0 H locs) (ho : ∀ a : Nat, a ≠ b + q → H1[a]? = H[a]?) : pm_Sv b H0 H1 (locs ++ [⟨b + q, k⟩]) := by
  refine ⟨fun a ha => (ho a (by omega)).trans (h.1 a ha), fun l hl => ?_⟩
  rcases List.mem_append.mp hl with h1 | h1
  · exact h.2 l h1
  · rw [List.mem_singleton] at h1
    subst h1
    exact Nat.le_add_right _ _
theorem pm_ix_ok {i : Int32} {n : Nat} (h : pm_ix i n = true) : ¬ (i < 0 ∨ n ≤ i.toNatClampNeg) := by
  simp only [pm_ix, Bool.and_eq_true, decide_eq_true_eq] at h
  rintro (h1 | h1)
  · have := h.1
    rw [Int32.le_iff_toInt_le] at this
    rw [Int32.lt_iff_toInt_lt] at h1
    omega
  · omega
theorem pm_ix_lt {i : Int32} {n : Nat} (h : pm_ix i n = true) : i.toNatClampNeg < n := by
  simp only [pm_ix, Bool.and_eq_true, decide_eq_true_eq] at h
  exact h.2
theorem pm_updV (f : Nat → Value) (i : Nat) (v : Value) : updV (fun j => pm_cv b sa (f j)) i (pm_cv b sa v) = fun j => pm_cv b sa (pm_upd f i v j) := by
  funext j
  by_cases hj : j = i
  · simp [updV, pm_upd, hj]
  · simp [updV, pm_upd, hj]
/-- an array's cell -/
theorem pm_Wd.arr {h : pmH} {H : Heap} {q t n : Nat} {f : Nat → Value} (hW : pm_Wd D cA b sa h H) (hq : h[q]? = some (t, n, f)) (ht : 20 ≤ t) : t < 25 ∧ H[b + q]? = some (arrV (cA t) n (fun j => pm_cv b sa (f j))) := by
  rcases hW.2.2 q _ hq with ⟨h1, -⟩ | ⟨-, h2, h3⟩
  · exact absurd h1 (Nat.not_lt.mpr ht)
  · exact ⟨h2, h3⟩
/-- an array's cell, written -/
theorem pm_Wd.ast {h : pmH} {H H1 : Heap} {q t n i : Nat} {f : Nat → Value} {v : Value} (hW : pm_Wd D cA b sa h H) (hq : h[q]? = some (t, n, f)) (ht : 20 ≤ t) (e : H1[b + q]? = some ((arrV (cA t) n (fun j => pm_cv b sa (f j))).setSlot i (pm_cv b sa v))) (hz : H1.size = H.size) (ho : ∀ a : Nat, a ≠ b + q → H1[a]? = H[a]?) : pm_Wd D cA b sa (h.set q (t, n, pm_upd f i v)) H1 := by
  refine hW.set hq (Or.inr ⟨ht, (hW.arr hq ht).1, ?_⟩) hz ho
  rw [e, arrV_store, pm_updV]
end PMB
section PMG
variable {p : Program} {l : Launch} {e : Env} {R : Room} {s : State} {mi : MethodId} {args : Array Value} {below : List Frame} {meth : Method} {co : Code} {H H0 : Heap} {locs : List Loc} {Q : State → Prop}
variable {D : va_G} {cA : Nat → ClassId} {b : Nat} {sa : Nat → Nat} {m pc len : Nat} {r : List Value} {h : pmH} {c k : Nat} {ls : Array Slot} {cc : ByteArray}
/-- what the class's table says of a field -/
theorem pm_fok {m j ci f : Nat} (h : pm_fld m j = some (ci, f)) : ∃ q : vw_C, pm_cl[ci]? = some q ∧ f < q.2.2 ∧ Cond.fieldLink (pm_own (pm_oc m)) j (q.2.1 f).1 (q.2.1 f).2.1 (q.2.1 f).2.2.1 ∈ pm_ws ∧ pm_okc ci q := by
  have hm := pm_look_mem h
  obtain ⟨h1, h2⟩ := pm_fB _ _ hm
  have h3 := pm_fA _ _ (List.mem_map.mpr ⟨_, hm, rfl⟩)
  dsimp only at h1 h2
  have hlen : ci < pm_cl.length := h1
  have hg : pm_cl[ci]? = some (pm_cl[ci]'hlen) := List.getElem?_eq_getElem hlen
  have hd : pm_cl.getD ci ("", fun _ => ("", "", "", false), 0) = pm_cl[ci]'hlen := by rw [List.getD_eq_getElem?_getD, hg]; rfl
  simp only [pm_wf] at h3
  rw [hd] at h2 h3
  exact ⟨_, hg, h2, h3, pm_clok _ _ hg⟩
theorem pm_g_get {j q ci f n : Nat} {g : Nat → Value} (hx : p.tables.exec = Jvm.exec) (hb : co.code = cc) (hts : ∀ w ∈ pm_ws, w.before args s = true) (hown : s.vm.findClass (pm_own (pm_oc m)) = some mi.cls) (hK : pm_K D cA sa s) (hW : pm_Wd D cA b sa h H)
    (hf : pm_fld m j = some (ci, f)) (hq : h[q]? = some (ci, n, g)) (hdec : decode cc pc = .ok (.getfield j, 3))
    (kk : W p l e R s mi args below meth co H locs c k Q (F0 mi (pc + 3) ls (pm_cv b sa (g f) :: r))) : W p l e R s mi args below meth co H locs c k Q (F0 mi pc ls (pm_cv b sa (.ref q) :: r)) := by
  obtain ⟨qc, hc, hlt, hlk, hok⟩ := pm_fok hf
  have ha := (hW.lt hq).2.2
  rcases hW.2.2 q _ hq with ⟨h1, r0, h2, cell, q1, q2, q3, q4⟩ | ⟨h1, -⟩
  · dsimp only at h2 q1 q2 q4
    cases hc.symm.trans h2
    obtain ⟨hS, hfc, kC, hkC, hkind⟩ := hK.1 ci _ hc
    obtain ⟨cf, kf, fi, fd, hi, hsl⟩ := hS f hlt
    show W p l e R s mi args below meth co H locs c k Q (F0 mi pc ls (.ref (pm_ad b sa q) :: r))
    rw [ha]
    refine W.getf hx hb hown (hts _ hlk) hi (u_facts hfc hkC (u_lays hts hok.1 hlt) hi).1 q1 (by rw [q3]; exact fun z => by cases z) (v := pm_cv b sa (g f)) ?_ rfl rfl hdec kk
    rw [hsl, q4 f hlt]
  · have := hok
    have h3 : ci < pm_cl.length := (List.getElem?_eq_some_iff.mp hc).1
    have h4 : pm_cl.length = 12 := rfl
    dsimp only at h1
    omega
theorem pm_apart {ci : Nat} {q : vw_C} (hts : ∀ w ∈ pm_ws, w.before args s = true) (hK : pm_K D cA sa s) (hc : pm_cl[ci]? = some q) (hok : pm_okc ci q) : ∀ x y, x < q.2.2 → y < q.2.2 → x ≠ y → (D.2 ci) x ≠ (D.2 ci) y :=
  va_apart (own := "") (D := D) (cl := pm_cl) (tys := []) hts hok.1 (pm_ty ci) hok.2.1 hok.2.2.1 ⟨hK.1, fun k q h => by simp at h⟩ hc
theorem pm_g_put {j q ci f n : Nat} {g : Nat → Value} {v : Value} (hx : p.tables.exec = Jvm.exec) (hb : co.code = cc) (hts : ∀ w ∈ pm_ws, w.before args s = true) (hown : s.vm.findClass (pm_own (pm_oc m)) = some mi.cls) (hK : pm_K D cA sa s) (hW : pm_Wd D cA b sa h H) (hSv : pm_Sv b H0 H locs)
    (hf : pm_fld m j = some (ci, f)) (hq : h[q]? = some (ci, n, g)) (hv : pm_okv (pm_ty ci f) v = true) (hfi : pm_fin ci f = false ∨ (meth.name = "<init>" ∧ ci = pm_oc m)) (hdec : decode cc pc = .ok (.putfield j, 3))
    (kk : ∀ (H1 : Heap) (locs1 : List Loc), pm_Wd D cA b sa (h.set q (ci, n, pm_upd g f v)) H1 → pm_Sv b H0 H1 locs1 → W p l e R s mi args below meth co H1 locs1 c k Q (F0 mi (pc + 3) ls r)) : W p l e R s mi args below meth co H locs c k Q (F0 mi pc ls (pm_cv b sa v :: pm_cv b sa (.ref q) :: r)) := by
  obtain ⟨qc, hc, hlt, hlk, hok⟩ := pm_fok hf
  have ha := (hW.lt hq).2.2
  have hap := pm_apart hts hK hc hok
  simp only [pm_okv, Bool.and_eq_true, decide_eq_true_eq] at hv
  have hvc : narrow (pm_ty ci f) (pm_cv b sa v) = pm_cv b sa v ∧ fits (pm_ty ci f) (pm_cv b sa v) = true := by
    obtain ⟨v1, v2⟩ := hv
    cases v with
    | ref x =>
      generalize pm_ty ci f = ty at v1 v2 ⊢
      cases ty <;> first | exact ⟨rfl, rfl⟩ | exact absurd v2 (by simp [fits])
    | retAddr x =>
      generalize pm_ty ci f = ty at v1 v2 ⊢
      cases ty <;> exact absurd v2 (by simp [fits])
    | _ => exact ⟨v1, v2⟩
  rcases hW.2.2 q _ hq with ⟨h1, r0, h2, cell, q1, q2, q3, q4⟩ | ⟨h1, -⟩
  · dsimp only at h2 q1 q2 q4
    cases hc.symm.trans h2
    obtain ⟨hS, hfc, kC, hkC, hkind⟩ := hK.1 ci _ hc
    obtain ⟨cf, kf, fi, fd, hi, hsl⟩ := hS f hlt
    have hst := (u_facts hfc hkC (u_lays hts hok.1 hlt) hi).1
    have hpd := hok.2.1 f hlt
    show W p l e R s mi args below meth co H locs c k Q (F0 mi pc ls (pm_cv b sa v :: .ref (pm_ad b sa q) :: r))
    rw [ha]
    have fin : ∀ H' : Heap, H'[b + q]? = some (cell.setSlot fd.slot (pm_cv b sa v)) → H'.size = H.size → (∀ a, a ≠ b + q → H'[a]? = H[a]?) → W p l e R s mi args below meth co H' (locs ++ [⟨b + q, fd.slot⟩]) c k Q (F0 mi (pc + 3) ls r) := by
      intro H' e1 e2 e3
      refine kk H' _ (hW.set hq (Or.inl ⟨h1, _, hc, ?_⟩) e2 e3) (hSv.put e3)
      rw [hsl] at e1
      refine t_OB.to (V := updV (fun k => pm_cv b sa (g k)) f (pm_cv b sa v)) ⟨_, e1, q2, q3, t_set q4 hap hlt _⟩ (fun j _ => ?_)
      rw [pm_updV]
    cases hff : pm_fin ci f with
    | false =>
      have hlay := hts _ (hok.1 _ (u_in_lay hlt))
      unfold u_lay at hlay
      rw [if_neg (by rw [← hok.2.2.2.2.1 f, hff]; decide)] at hlay
      have h6 := u_store hfc hkC hkind hlay hi hpd hvc.1 hvc.2
      exact W.putK hx hb (f := fd) ⟨hown, hts _ hlk, ⟨_, _, _, hi⟩, hst⟩ (by rw [q2]; exact h6) q1 q3 (by rw [hsl]; exact k2_hasslot (q4 f hlt)) rfl rfl hdec fin
    | true =>
      rcases hfi with hfi | ⟨hin2, hdecl⟩
      · rw [hff] at hfi
        cases hfi
      · have hlay := hts _ (hok.1 _ (u_in_lay hlt))
        unfold u_lay at hlay
        rw [if_pos (by rw [← hok.2.2.2.2.1 f, hff])] at hlay
        have h6 := u_fits hfc hkC hkind (Or.inr hlay) hi hpd hvc.1 hvc.2
        have hcf : mi.cls = cf := by
          obtain ⟨_, _, c', _, _, _, -, -, hf', -, -, -, hown2, -⟩ := Cond.laysFinal_spec hlay
          have e1 : c' = cf := by have := hi.symm.trans hf'; simp at this; exact this.1.symm
          rw [hok.2.2.2.2.2.2 f hlt, ← hok.2.2.2.1, hdecl] at hown2
          rw [← e1]; exact Option.some.inj (hown.symm.trans hown2)
        exact W.putFinK hx hb hown (hts _ hlk) hi hst hcf hin2 (by rw [q2]; exact h6) q1 q3 (by rw [hsl]; exact k2_hasslot (q4 f hlt)) rfl rfl hdec fin
  · have h3 : ci < pm_cl.length := (List.getElem?_eq_some_iff.mp hc).1
    have h4 : pm_cl.length = 12 := rfl
    dsimp only at h1
    omega
end PMG
