section PMC
variable {p : Program} {l : Launch} {e : Env} {R : Room} {s : State} {mi : MethodId} {args : Array Value} {below : List Frame} {meth : Method} {co : Code} {H H0 : Heap} {locs : List Loc} {Q : State → Prop}
variable {D : va_G} {cA : Nat → ClassId} {b : Nat} {sa : Nat → Nat} {m pc len : Nat} {r : List Value} {h : pmH} {c k : Nat} {ls : Array Slot} {cc : ByteArray}
theorem pm_cv_dflt (ty : FieldType) : pm_cv b sa (defaultValue ty) = defaultValue ty := by cases ty <;> rfl
theorem pm_g_iald {q n : Nat} {j : Int32} {f : Nat → Value} (hx : p.tables.exec = Jvm.exec) (hb : co.code = cc) (hK : pm_K D cA sa s) (hW : pm_Wd D cA b sa h H) (hq : h[q]? = some (20, n, f)) (hj : pm_ix j n = true) (hdec : decode cc pc = .ok (.iaload, 1))
    (kk : W p l e R s mi args below meth co H locs c k Q (F0 mi (pc + 1) ls (pm_cv b sa (f j.toNatClampNeg) :: r))) : W p l e R s mi args below meth co H locs c k Q (F0 mi pc ls (.int j :: pm_cv b sa (.ref q) :: r)) := by
  show W p l e R s mi args below meth co H locs c k Q (F0 mi pc ls (.int j :: .ref (pm_ad b sa q) :: r))
  rw [(hW.lt hq).2.2]
  exact W.iald hx hb (hW.arr hq (by decide)).2 ((hK.2.1 20 (by decide) (by decide)).1 n _) (fun z => by cases z) (by rw [arrV_size]; exact pm_ix_ok hj) (arrV_read _ _ (pm_ix_lt hj)) rfl rfl hdec kk
theorem pm_g_lald {q n : Nat} {j : Int32} {f : Nat → Value} (hx : p.tables.exec = Jvm.exec) (hb : co.code = cc) (hK : pm_K D cA sa s) (hW : pm_Wd D cA b sa h H) (hq : h[q]? = some (21, n, f)) (hj : pm_ix j n = true) (hdec : decode cc pc = .ok (.laload, 1))
    (kk : W p l e R s mi args below meth co H locs c k Q (F0 mi (pc + 1) ls (pm_cv b sa (f j.toNatClampNeg) :: r))) : W p l e R s mi args below meth co H locs c k Q (F0 mi pc ls (.int j :: pm_cv b sa (.ref q) :: r)) := by
  show W p l e R s mi args below meth co H locs c k Q (F0 mi pc ls (.int j :: .ref (pm_ad b sa q) :: r))
  rw [(hW.lt hq).2.2]
  exact W.lald hx hb (hW.arr hq (by decide)).2 ((hK.2.1 21 (by decide) (by decide)).1 n _) (fun z => by cases z) (by rw [arrV_size]; exact pm_ix_ok hj) (arrV_read _ _ (pm_ix_lt hj)) rfl rfl hdec kk
theorem pm_g_zald {q n : Nat} {j : Int32} {f : Nat → Value} (hx : p.tables.exec = Jvm.exec) (hb : co.code = cc) (hK : pm_K D cA sa s) (hW : pm_Wd D cA b sa h H) (hq : h[q]? = some (22, n, f)) (hj : pm_ix j n = true) (hdec : decode cc pc = .ok (.baload, 1))
    (kk : W p l e R s mi args below meth co H locs c k Q (F0 mi (pc + 1) ls (pm_cv b sa (f j.toNatClampNeg) :: r))) : W p l e R s mi args below meth co H locs c k Q (F0 mi pc ls (.int j :: pm_cv b sa (.ref q) :: r)) := by
  show W p l e R s mi args below meth co H locs c k Q (F0 mi pc ls (.int j :: .ref (pm_ad b sa q) :: r))
  rw [(hW.lt hq).2.2]
  exact W.zald hx hb (hW.arr hq (by decide)).2 ((hK.2.1 22 (by decide) (by decide)).1 n _) (fun z => by cases z) (by rw [arrV_size]; exact pm_ix_ok hj) (arrV_read _ _ (pm_ix_lt hj)) rfl rfl hdec kk
theorem pm_g_aald {q n t : Nat} {j : Int32} {f : Nat → Value} (hx : p.tables.exec = Jvm.exec) (hb : co.code = cc) (hK : pm_K D cA sa s) (hW : pm_Wd D cA b sa h H) (hq : h[q]? = some (t, n, f)) (ht : t = 23 ∨ t = 24) (hj : pm_ix j n = true) (hdec : decode cc pc = .ok (.aaload, 1))
    (kk : W p l e R s mi args below meth co H locs c k Q (F0 mi (pc + 1) ls (pm_cv b sa (f j.toNatClampNeg) :: r))) : W p l e R s mi args below meth co H locs c k Q (F0 mi pc ls (.int j :: pm_cv b sa (.ref q) :: r)) := by
  show W p l e R s mi args below meth co H locs c k Q (F0 mi pc ls (.int j :: .ref (pm_ad b sa q) :: r))
  rw [(hW.lt hq).2.2]
  exact W.aald hx hb (hW.arr hq (by rcases ht with rfl | rfl <;> decide)).2 ((hK.2.1 t (by rcases ht with rfl | rfl <;> decide) (by rcases ht with rfl | rfl <;> decide)).1 n _) (by rcases ht with rfl | rfl <;> rfl) (fun z => by cases z) (by rw [arrV_size]; exact pm_ix_ok hj) (arrV_read _ _ (pm_ix_lt hj)) rfl rfl hdec kk
theorem pm_g_iast {q n : Nat} {j x : Int32} {f : Nat → Value} (hx : p.tables.exec = Jvm.exec) (hb : co.code = cc) (hK : pm_K D cA sa s) (hW : pm_Wd D cA b sa h H) (hSv : pm_Sv b H0 H locs) (hq : h[q]? = some (20, n, f)) (hj : pm_ix j n = true) (hdec : decode cc pc = .ok (.iastore, 1))
    (kk : ∀ (H1 : Heap) (locs1 : List Loc), pm_Wd D cA b sa (h.set q (20, n, pm_upd f j.toNatClampNeg (.int x))) H1 → pm_Sv b H0 H1 locs1 → W p l e R s mi args below meth co H1 locs1 c k Q (F0 mi (pc + 1) ls r)) : W p l e R s mi args below meth co H locs c k Q (F0 mi pc ls (.int x :: .int j :: pm_cv b sa (.ref q) :: r)) := by
  show W p l e R s mi args below meth co H locs c k Q (F0 mi pc ls (.int x :: .int j :: .ref (pm_ad b sa q) :: r))
  rw [(hW.lt hq).2.2]
  exact W.iast hx hb (hW.arr hq (by decide)).2 ((hK.2.1 20 (by decide) (by decide)).1 n _) (fun z => by cases z) (by rw [arrV_size]; exact pm_ix_ok hj) rfl rfl hdec (fun H1 e1 e2 e3 => kk H1 _ (hW.ast hq (by decide) (v := .int x) e1 e2 e3) (hSv.put e3))
theorem pm_g_last {q n : Nat} {j : Int32} {x : Int64} {f : Nat → Value} (hx : p.tables.exec = Jvm.exec) (hb : co.code = cc) (hK : pm_K D cA sa s) (hW : pm_Wd D cA b sa h H) (hSv : pm_Sv b H0 H locs) (hq : h[q]? = some (21, n, f)) (hj : pm_ix j n = true) (hdec : decode cc pc = .ok (.lastore, 1))
    (kk : ∀ (H1 : Heap) (locs1 : List Loc), pm_Wd D cA b sa (h.set q (21, n, pm_upd f j.toNatClampNeg (.long x))) H1 → pm_Sv b H0 H1 locs1 → W p l e R s mi args below meth co H1 locs1 c k Q (F0 mi (pc + 1) ls r)) : W p l e R s mi args below meth co H locs c k Q (F0 mi pc ls (.long x :: .int j :: pm_cv b sa (.ref q) :: r)) := by
  show W p l e R s mi args below meth co H locs c k Q (F0 mi pc ls (.long x :: .int j :: .ref (pm_ad b sa q) :: r))
  rw [(hW.lt hq).2.2]
  exact W.last hx hb (hW.arr hq (by decide)).2 ((hK.2.1 21 (by decide) (by decide)).1 n _) (fun z => by cases z) (by rw [arrV_size]; exact pm_ix_ok hj) rfl rfl hdec (fun H1 e1 e2 e3 => kk H1 _ (hW.ast hq (by decide) (v := .long x) e1 e2 e3) (hSv.put e3))
theorem pm_g_zast {q n : Nat} {j x : Int32} {f : Nat → Value} (hx : p.tables.exec = Jvm.exec) (hb : co.code = cc) (hK : pm_K D cA sa s) (hW : pm_Wd D cA b sa h H) (hSv : pm_Sv b H0 H locs) (hq : h[q]? = some (22, n, f)) (hj : pm_ix j n = true) (hdec : decode cc pc = .ok (.bastore, 1))
    (kk : ∀ (H1 : Heap) (locs1 : List Loc), pm_Wd D cA b sa (h.set q (22, n, pm_upd f j.toNatClampNeg (.int (x &&& 1)))) H1 → pm_Sv b H0 H1 locs1 → W p l e R s mi args below meth co H1 locs1 c k Q (F0 mi (pc + 1) ls r)) : W p l e R s mi args below meth co H locs c k Q (F0 mi pc ls (.int x :: .int j :: pm_cv b sa (.ref q) :: r)) := by
  show W p l e R s mi args below meth co H locs c k Q (F0 mi pc ls (.int x :: .int j :: .ref (pm_ad b sa q) :: r))
  rw [(hW.lt hq).2.2]
  exact W.zast hx hb (hW.arr hq (by decide)).2 ((hK.2.1 22 (by decide) (by decide)).1 n _) (fun z => by cases z) (by rw [arrV_size]; exact pm_ix_ok hj) rfl rfl hdec (fun H1 e1 e2 e3 => kk H1 _ (hW.ast hq (by decide) (v := .int (x &&& 1)) e1 e2 e3) (hSv.put e3))
theorem pm_g_alen {q n t : Nat} {f : Nat → Value} (hx : p.tables.exec = Jvm.exec) (hb : co.code = cc) (hK : pm_K D cA sa s) (hW : pm_Wd D cA b sa h H) (hq : h[q]? = some (t, n, f)) (ht : t = 20 ∨ t = 21) (hdec : decode cc pc = .ok (.arraylength, 1))
    (kk : W p l e R s mi args below meth co H locs c k Q (F0 mi (pc + 1) ls (.int (Int32.ofNat n) :: r))) : W p l e R s mi args below meth co H locs c k Q (F0 mi pc ls (pm_cv b sa (.ref q) :: r)) := by
  show W p l e R s mi args below meth co H locs c k Q (F0 mi pc ls (.ref (pm_ad b sa q) :: r))
  rw [(hW.lt hq).2.2]
  exact W.alen hx hb (hW.arr hq (by rcases ht with rfl | rfl <;> decide)).2 ((hK.2.1 t (by rcases ht with rfl | rfl <;> decide) (by rcases ht with rfl | rfl <;> decide)).1 n _) (by rw [arrV_size]) rfl rfl hdec kk
/-- what is made lies behind all -/
theorem pm_Sv.grow {H0 H H1 : Heap} {locs : List Loc} (hSv : pm_Sv b H0 H locs) (hz : b ≤ H.size) (ho : ∀ a : Nat, a < H.size → H1[a]? = H[a]?) : pm_Sv b H0 H1 locs := ⟨fun q hq => (ho q (Nat.lt_of_lt_of_le hq hz)).trans (hSv.1 q hq), hSv.2⟩
theorem pm_g_new {j ci : Nat} {q : vw_C} (hx : p.tables.exec = Jvm.exec) (hb : co.code = cc) (hts : ∀ w ∈ pm_ws, w.before args s = true) (hown : s.vm.findClass (pm_own (pm_oc m)) = some mi.cls) (hK : pm_K D cA sa s) (hW : pm_Wd D cA b sa h H) (hSv : pm_Sv b H0 H locs)
    (hn : pm_look (pm_news (pm_oc m)) j = some ci) (hc : pm_cl[ci]? = some q) (hcells : c + 1 ≤ R.cells) (hslots : k + q.2.2 ≤ R.slots) (hlen : h.length < 900) (hdec : decode cc pc = .ok (.new j, 3))
    (kk : ∀ (H1 : Heap) (locs1 : List Loc), pm_Wd D cA b sa (h ++ [pm_obj ci q.2.2]) H1 → pm_Sv b H0 H1 locs1 → W p l e R s mi args below meth co H1 locs1 (c + 1) (k + q.2.2) Q (F0 mi (pc + 3) ls (pm_cv b sa (.ref h.length) :: r))) : W p l e R s mi args below meth co H locs c k Q (F0 mi pc ls r) := by
  have hok := pm_clok _ _ hc
  have hlk := hts _ (pm_wA _ _ (List.mem_map.mpr ⟨_, pm_look_mem hn, rfl⟩))
  simp only [pm_wnw, hok.2.2.2.1] at hlk
  obtain ⟨hS, hfc, kC0, hkC0, hkind⟩ := hK.1 ci _ hc
  have hci : ci < 12 := (List.getElem?_eq_some_iff.mp hc).1
  refine W.newcK hx hb hown hlk (hts _ hok.2.2.2.2.2.1.1) (hts _ hok.2.2.2.2.2.1.2) rfl hdec hcells hslots hfc rfl (fun H1 kC hkC e1 z1 o1 => ?_)
  have hadr : pm_cv b sa (.ref h.length) = .ref H.size := by
    show Value.ref (pm_ad b sa h.length) = _
    rw [pm_ad, if_pos (by omega), hW.1]
  have k1 := kk H1 locs (hW.app (by simp; omega) (by simpa using z1) o1 (fun i x hi => ?_)) (hSv.grow (by rw [hW.1]; omega) o1)
  · rw [hadr] at k1
    exact k1
  · have hi0 : i < 1 := (List.getElem?_eq_some_iff.mp hi).1
    rw [show i = 0 by omega] at hi
    cases hi
    refine Or.inl ⟨Nat.lt_of_lt_of_le hci (by decide), q, hc, ?_⟩
    have e2 : H1[b + (h.length + i)]? = some (blank (D.1 ci) kC) := by
      rw [show b + (h.length + i) = H.size by rw [hW.1]; omega]
      exact e1
    exact (u_born (pm_ty ci) hts hok.1 (hK.1 ci _ hc) hkC e2 hok.2.1).to (fun f _ => (pm_cv_dflt _).symm)
theorem pm_g_newa {t n : Nat} {v : Value} {x : Int32} {at0 : ArrayType} (hx : p.tables.exec = Jvm.exec) (hb : co.code = cc) (hts : ∀ w ∈ pm_ws, w.before args s = true) (hK : pm_K D cA sa s) (hW : pm_Wd D cA b sa h H) (hSv : pm_Sv b H0 H locs)
    (ht : 20 ≤ t ∧ t < 23) (hty : newarray.typeOf at0 = pm_aty t) (hin : Cond.arrayClass (pm_aty t) ∈ pm_ws) (hv : defaultValue (pm_aty t) = v) (hn : 0 ≤ x) (hN : x.toNatClampNeg = n) (hm : n ≤ 100000) (hcells : c + 1 ≤ R.cells) (hslots : k + n ≤ R.slots) (hlen : h.length < 900) (hdec : decode cc pc = .ok (.newarray at0, 2))
    (kk : ∀ (H1 : Heap) (locs1 : List Loc), pm_Wd D cA b sa (h ++ [pm_mk t n v]) H1 → pm_Sv b H0 H1 locs1 → W p l e R s mi args below meth co H1 locs1 (c + 1) (k + n) Q (F0 mi (pc + 2) ls (pm_cv b sa (.ref h.length) :: r))) : W p l e R s mi args below meth co H locs c k Q (F0 mi pc ls (.int x :: r)) := by
  have hx0 : ¬ x < 0 := by
    rw [Int32.le_iff_toInt_le] at hn
    rw [Int32.lt_iff_toInt_lt]
    omega
  have hbyt : n * componentBytes (newarray.typeOf at0) ≤ 536870912 := by
    have : componentBytes (newarray.typeOf at0) ≤ 8 := by cases at0 <;> decide
    calc n * componentBytes (newarray.typeOf at0) ≤ 100000 * 8 := Nat.mul_le_mul hm this
      _ ≤ 536870912 := by decide
  refine va_newaK hx hb (by rw [hty]; exact hts _ hin) rfl hdec rfl hx0 hN hbyt hcells hslots rfl (fun H1 cA1 e1 z1 o1 hAr hNm => ?_)
  have hcA : cA1 = cA t := by
    rw [hty] at hNm
    exact Option.some.inj (hNm.symm.trans (hK.2.1 t ht.1 (by omega)).2)
  have hadr : pm_cv b sa (.ref h.length) = .ref H.size := by
    show Value.ref (pm_ad b sa h.length) = _
    rw [pm_ad, if_pos (by omega), hW.1]
  have k1 := kk H1 locs (hW.app (by simp; omega) (by simpa using z1) o1 (fun i y hi => ?_)) (hSv.grow (by rw [hW.1]; omega) o1)
  · rw [hadr] at k1
    exact k1
  · have hi0 : i < 1 := (List.getElem?_eq_some_iff.mp hi).1
    rw [show i = 0 by omega] at hi
    cases hi
    refine Or.inr ⟨ht.1, by show t < 25; omega, ?_⟩
    rw [show b + (h.length + i) = H.size by rw [hW.1]; omega, e1, hcA, hty, hv]
    show _ = some (arrV (cA t) n (fun _ => pm_cv b sa v))
    rw [← hv, pm_cv_dflt]
end PMC
