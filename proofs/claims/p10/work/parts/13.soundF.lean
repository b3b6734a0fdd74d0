def pm_rm (m : Nat) : Room := { frames := pm_fr m, cells := pm_mc m, slots := pm_ms m, locals := pm_lo m }
def pm_wsm (m : Nat) : List Cond := Cond.code (pm_y m) (pm_bytes m) (pm_maxL m) (pm_ret m) :: pm_ws
def pm_P (D : va_G) (cA : Nat → ClassId) (b : Nat) (sa : Nat → Nat) (as : List Value) (h : pmH) : Array Value → State → Prop := fun v U => v = (pm_cs b sa as).toArray ∧ pm_Wd D cA b sa h U.heap ∧ pm_K D cA sa U ∧ pm_T b sa U
def pm_Q (D : va_G) (cA : Nat → ClassId) (b : Nat) (sa : Nat → Nat) (h' : pmH) (r : Option Value) : Array Value → State → Outcome → State → Prop := fun _ st oc t => oc = .returned (r.map (pm_cv b sa)) ∧ pm_Wd D cA b sa h' t.heap ∧ ∀ q : Nat, q < b → t.heap[q]? = st.heap[q]?
section PMF
variable {D : va_G} {cA : Nat → ClassId} {b : Nat} {sa : Nat → Nat} {l : Launch}
theorem pm_K.mv {u U : State} (hal : u.vm.Alike U.vm) (hn : ∀ e, va_Nw (pm_wn e) u → va_Nw (pm_wn e) U) (hr : ∀ (o : String) (k : Nat) (t : String) (a : Nat), vk_R o k t a u → vk_R o k t a U) (h : pm_K D cA sa u) : pm_K D cA sa U := by
  obtain ⟨h1, h2, h3, h4, h5⟩ := h
  refine ⟨fun c q hq => u_Kn_moved hal (h1 c q hq), fun t a1 a2 => ⟨arrOfT_moved hal (h2 t a1 a2).1, by rw [hal.findClass]; exact (h2 t a1 a2).2⟩, fun e he => hn e (h3 e he), fun t => ?_, fun j q hq => hr _ _ _ _ (h5 j q hq)⟩
  rcases h4 t with h4 | h4
  · exact Or.inl (Jvm.Stand.arrayOver_alikeB hal h4)
  · exact Or.inr h4
theorem pm_K.warm {u U : State} (hW : u.WarmedH U.vm) (h : pm_K D cA sa u) : pm_K D cA sa U := h.mv hW.alike (fun e he => va_Nw.warmM hW he) (fun o k t a h => vk_R.warm hW h)
theorem pm_K.call {U : State} {g : JFrame} {mk : MethodId} {a : Array Value} (h : pm_K D cA sa U) : pm_K D cA sa (U.calling g mk a) := h.mv (Vm.Alike.refl U.vm) (fun e he => va_Nw.same rfl rfl he) (fun o k t a h => vk_R.same rfl h)
theorem pm_blind (as : List Value) (h : pmH) : FrameBlind (pm_P D cA b sa as h) := fun a U g mk hp => ⟨hp.1, hp.2.1, hp.2.2.1.call, hp.2.2.2.call⟩
theorem pm_ofW {y : MethodName} {ws ws' : List Cond} {rm : Room} {Pc : Array Value → State → Prop} {Qc : Array Value → State → Outcome → State → Prop} {mc ms : Nat} {free : Addr → Prop} {cc : ByteArray} {maxL : Nat} {ret : Option FieldType}
    (hy : plainFor y = true) (hw : ws = Cond.code y cc maxL ret :: ws')
    (body : ∀ p e s m args below meth c s₁, BodyLoose p l y (headSpec ws rm) cc maxL ret e s m args below meth c s₁ → c.maxLocals = maxL → Pc args s →
      W p l e (headSpec ws rm).room s m args below meth c s.heap [] 0 0 (MQ below Qc args s mc ms free) (entryFrame m args maxL)) : Met l y ws rm Pc Qc mc ms free := by
  refine MetFree.of_bodySF (code := cc) (maxLocals := maxL) (ret := ret) hy ?_ ?_
  · intro args s m h hn
    obtain ⟨meth, c, h1, h2, h3, h4, h5, h6, -, -⟩ := Cond.code_spec hn (atoms_spec (ws := ws) h _ (by rw [hw]; exact List.mem_cons_self))
    exact ⟨meth, c, h1, h2, h3, h4, h5, h6⟩
  · intro p e s m args below meth c s₁ B hml hP _
    have hh0 : s₁.heap = s.heap := by rw [B.state]; rfl
    obtain ⟨t, a1, o, b1, b2, b3⟩ := body p e s m args below meth c s₁ B hml hP s₁ hh0 (Stand.of_body B)
    exact ⟨t, o, a1, b1, b2, ⟨b3.1, b3.2⟩⟩
theorem pm_args_lc (as : List Value) : ∀ i : Nat, lv_args i (pm_cs b sa as) = pm_lc b sa (lv_args i as) := by
  induction as with
  | nil => intro i; rfl
  | cons v vs ih =>
    intro i
    show (i, pm_cv b sa v) :: lv_args (if (pm_cv b sa v).category = 2 then i + 2 else i + 1) (pm_cs b sa vs) = (i, pm_cv b sa v) :: pm_lc b sa (lv_args (if v.category = 2 then i + 2 else i + 1) vs)
    rw [pm_cv_cat, ih]
theorem pm_cat_cs (as : List Value) : ((pm_cs b sa as).map fun v => v.category) = as.map fun v => v.category := by
  rw [List.map_map]
  apply List.map_congr_left
  intro v _
  exact pm_cv_cat b sa v
theorem pm_sl_len (as : List Value) : (lg_sl as).length = (as.map fun v => v.category).sum := by
  induction as with
  | nil => rfl
  | cons v vs ih =>
    have hv : (if v.category = 2 then [Slot.val v, Slot.second] else [Slot.val v]).length = v.category := by
      rcases lv_cat v with h | h <;> simp [h]
    show ((if v.category = 2 then [Slot.val v, Slot.second] else [Slot.val v]) ++ lg_sl vs).length = _
    rw [List.length_append, hv, ih]
    simp
/-- the walk of a method from any of its points, n steps on -/
def pm_Sn (D : va_G) (cA : Nat → ClassId) (b : Nat) (sa : Nat → Nat) (l : Launch) (n : Nat) : Prop :=
  ∀ (X : pmX) (m pc : Nat) (lv : pmL) (st : List Value) (h : pmH) (c k : Nat) (h' : pmH) (r : Option Value), pm_exec X n m pc lv st h c k = some (h', r) →
  ∀ (p : Program) (e : Env) (R : Room) (s : State) (mi : MethodId) (args : Array Value) (below : List Frame) (meth : Method) (co : Code) (H : Heap) (locs : List Loc) (ls : Array Slot) (Q : State → Prop),
    p.tables.exec = Jvm.exec → co.code = pm_bytes m → co.maxLocals = pm_maxL m → (∀ w ∈ pm_ws, w.before args s = true) → s.vm.findClass (pm_own (pm_oc m)) = some mi.cls → pm_K D cA sa s → pm_T b sa s → (∀ x, X = some x → va_X (sa 0) x.1 x.2 s s.heap) → sa 0 < b →
    (pm_fr m ≤ R.frames ∧ pm_lo m ≤ R.locals ∧ pm_mc m ≤ R.cells ∧ pm_ms m ≤ R.slots) → (pm_in m = 1 → meth.name = "<init>") →
    lv_has ls (pm_maxL m) (pm_lc b sa lv) → pm_Wd D cA b sa h H → pm_Sv b s.heap H locs → c ≤ pm_mc m → k ≤ pm_ms m →
    (∀ (pc' : Nat) (i : Instr) (len : Nat) (st' : List Value) (H1 : Heap) (locs1 : List Loc) (ls1 : Array Slot), decode (pm_bytes m) pc' = .ok (i, pm_len i len) → pm_end m i st' = some r → pm_Wd D cA b sa h' H1 → pm_Sv b s.heap H1 locs1 → W p l e R s mi args below meth co H1 locs1 (pm_mc m) (pm_ms m) Q (F0 mi pc' ls1 (pm_cs b sa st'))) →
    W p l e R s mi args below meth co H locs c k Q (F0 mi pc ls (pm_cs b sa st))
/-- a method's contract, out of its walk -/
theorem pm_met {n y : Nat} {as : List Value} {h h1 : pmH} {r1 : Option Value} (ih : pm_Sn D cA b sa l n) (hsb : sa 0 < b) (hcall : pm_exec none n y 0 (lv_args 0 as) [] h 0 0 = some (h1, r1)) (hlen : (as.map fun v => v.category).sum ≤ pm_maxL y) :
    Met l (pm_y y) (pm_wsm y) (pm_rm y) (pm_P D cA b sa as h) (pm_Q D cA b sa h1 r1) (pm_mc y) (pm_ms y) (fun q => b ≤ q) := by
  refine pm_ofW (cc := pm_bytes y) (maxL := pm_maxL y) (ret := pm_ret y) (pm_okA y).2.1 rfl ?_
  intro p e s m args below meth c s₁ B hml hv
  obtain ⟨rfl, hW, hK, hTx⟩ := hv
  have hts := atoms_spec (ws := pm_wsm y) B.pre
  have hown : s.vm.findClass (pm_own (pm_oc y)) = some m.cls := by
    have := findClass_of_methodNamed B.named
    rwa [(pm_okA y).2.2.1] at this
  have hlocks := B.notSynchronized
  have hnm : meth.name = (pm_y y).name := (name_of_methodNamed B.named B.method).1
  have hl := lv_entry (pm_cs b sa as) (n := pm_maxL y) (by rw [pm_sl_len, pm_cat_cs]; exact hlen)
  rw [lg_entry_eq]
  generalize (lg_sl (pm_cs b sa as) ++ List.replicate (pm_maxL y - (lg_sl (pm_cs b sa as)).length) Slot.unset).toArray = ls at hl ⊢
  rw [pm_args_lc] at hl
  refine ih none y 0 (lv_args 0 as) [] h 0 0 h1 r1 hcall p e _ s m _ below meth c s.heap [] ls _ B.exec B.bytes hml (fun w hw => hts w (List.mem_cons_of_mem _ hw)) hown hK hTx (fun x hx => by cases hx) hsb ⟨Nat.le_refl _, Nat.le_refl _, Nat.le_refl _, Nat.le_refl _⟩ (fun hin => by rw [hnm]; exact (pm_okA y).2.2.2.1 hin) hl hW ⟨fun _ _ => rfl, fun q hq => by cases hq⟩ (Nat.zero_le _) (Nat.zero_le _) ?_
  intro pc' i len st' H1 locs1 ls1 hdec hend hW1 hSv1
  have hq : ∀ (v : Option Value), v = r1 → ∀ t : State, t.heap = H1 → s.WarmedH t.vm → pm_Q D cA b sa h1 r1 (pm_cs b sa as).toArray s (.returned (v.map (pm_cv b sa))) t := fun v hv t ht _ => ⟨by rw [hv], by rw [ht]; exact hW1, fun q hq => by rw [ht]; exact hSv1.1 q hq⟩
  cases i
  case ireturn =>
    simp only [pm_end] at hend
    split at hend
    · next v hr => cases hend; exact W.iret B.exec B.bytes (B.returns.trans hr) (hq (some (.int v)) rfl) hSv1.2 hdec
    · next v hr => split at hend
                   · next hv => cases hend; exact W.zret (ty := .boolean) B.exec B.bytes (B.returns.trans hr) (by show Value.int (v &&& 1) = _; rw [hv]) (hq (some (.int v)) rfl) hSv1.2 hdec
                   · cases hend
    · next v hr => split at hend
                   · next hv => cases hend; exact W.zret (ty := .byte) B.exec B.bytes (B.returns.trans hr) hv (hq (some (.int v)) rfl) hSv1.2 hdec
                   · cases hend
    · next v hr => split at hend
                   · next hv => cases hend; exact W.zret (ty := .char) B.exec B.bytes (B.returns.trans hr) hv (hq (some (.int v)) rfl) hSv1.2 hdec
                   · cases hend
    · cases hend
  case lreturn =>
    simp only [pm_end] at hend
    split at hend
    · next v hr => cases hend; exact W.lret B.exec B.bytes (B.returns.trans hr) (hq (some (.long v)) rfl) hSv1.2 hdec
    · cases hend
  case return_ =>
    simp only [pm_end] at hend
    split at hend
    · next hr => cases hend; exact W.vret B.exec B.bytes (B.returns.trans hr) (hq none rfl) hSv1.2 hdec
    · cases hend
  all_goals exact absurd hend (by simp [pm_end])
end PMF
section PMI
variable {D : va_G} {cA : Nat → ClassId} {b : Nat} {sa : Nat → Nat} {l : Launch}
/-- what a call is -/
def pm_isCall (m : Nat) (i : Instr) (st : List Value) (h : pmH) (c k : Nat) (y : Nat) (as rest : List Value) : Prop :=
  ∃ j kind n : Nat, pm_look (pm_calls (pm_oc m)) j = some (y, kind, n) ∧ ¬ kind = 3 ∧ (pm_fr y + 1 ≤ pm_fr m ∧ 8 + (pm_maxL y + 11) + pm_lo y ≤ pm_lo m ∧ c + pm_mc y ≤ pm_mc m ∧ k + pm_ms y ≤ pm_ms m) ∧ (rest.map fun v => v.category).sum ≤ 8 ∧ (as.map fun v => v.category).sum ≤ pm_maxL y ∧ pm_oc y < pm_lawc ∧
    ((i = .invokestatic j ∧ kind % 10 = 1 ∧ as.length = n ∧ st = as.reverse ++ rest) ∨
     (∃ (q N : Nat) (f : Nat → Value) (as' : List Value), ((i = .invokevirtual j ∧ kind % 10 = 0) ∨ (i = .invokespecial j ∧ kind % 10 = 2)) ∧ as = .ref q :: as' ∧ as'.length = n ∧ st = as'.reverse ++ .ref q :: rest ∧ h[q]? = some (pm_oc y, N, f) ∧ pm_oc y < 12) ∨
     (∃ (q : Nat) (as' : List Value), i = .invokevirtual j ∧ kind % 10 = 0 ∧ as = .ref q :: as' ∧ as'.length = n ∧ st = as'.reverse ++ .ref q :: rest ∧ 2001 ≤ q ∧ q < 2020 ∧ pm_oc y = pm_strc))
theorem pm_inv_ok {m : Nat} {i : Instr} {st : List Value} {h : pmH} {c k : Nat} {y : Nat} {as rest : List Value} (hs : pm_inv m i st h c k = some (some y, as, rest)) : pm_isCall m i st h c k y as rest := by
  unfold pm_inv at hs
  dsimp only at hs
  split at hs
  · cases hs
  · next j op hj =>
    have hop : (i = .invokevirtual j ∧ op = 0) ∨ (i = .invokestatic j ∧ op = 1) ∨ (i = .invokespecial j ∧ op = 2) := by
      split at hj
      · cases hj; exact Or.inl ⟨rfl, rfl⟩
      · cases hj; exact Or.inr (Or.inl ⟨rfl, rfl⟩)
      · cases hj; exact Or.inr (Or.inr ⟨rfl, rfl⟩)
      · cases hj
    split at hs
    · cases hs
    · next y0 kind n hlk =>
      split at hs
      · split at hs
        · split at hs
          · split at hs
            · cases hs
            · cases hs
          · cases hs
        · cases hs
      · next hk3 =>
        split at hs
        · next hc =>
          obtain ⟨h1, h2, h3, h4, h5, h6⟩ := hc
          have hlen : (st.take n).reverse.length = n := by rw [List.length_reverse, List.length_take]; omega
          have hst : st = ((st.take n).reverse).reverse ++ st.drop n := by rw [List.reverse_reverse, List.take_append_drop]
          try dsimp only at hs
          split at hs
          · next hop1 =>
            split at hs
            · next hr =>
              cases hs
              refine ⟨j, kind, n, hlk, hk3, ⟨h3, h4, h5, h6⟩, hr.1, hr.2.1, hr.2.2, Or.inl ⟨?_, by omega, hlen, hst⟩⟩
              rcases hop with ⟨_, ho⟩ | ⟨hi, _⟩ | ⟨_, ho⟩
              · omega
              · exact hi
              · omega
            · cases hs
          · next hop1 =>
            split at hs
            · next q r hdr =>
              split at hs
              · next h2001 =>
                split at hs
                · next hr =>
                  cases hs
                  obtain ⟨r1, r2, r3, r4, r5⟩ := hr
                  refine ⟨j, kind, n, hlk, hk3, ⟨h3, h4, h5, h6⟩, r4, by rw [List.map_cons, List.sum_cons]; exact r5, by rw [r3]; decide, Or.inr (Or.inr ⟨q, (st.take n).reverse, ?_, by omega, rfl, hlen, by rw [← hdr]; exact hst, h2001, r1, r3⟩)⟩
                  rcases hop with ⟨hi, ho⟩ | ⟨_, ho⟩ | ⟨_, ho⟩
                  · exact hi
                  · omega
                  · omega
                · cases hs
              · split at hs
                · next t N f hq =>
                  split at hs
                  · next hr =>
                    cases hs
                    obtain ⟨rfl, r2, r3, r4⟩ := hr
                    refine ⟨j, kind, n, hlk, hk3, ⟨h3, h4, h5, h6⟩, r3, by rw [List.map_cons, List.sum_cons]; exact r4, Nat.lt_of_lt_of_le r2 (by decide), Or.inr (Or.inl ⟨q, N, f, (st.take n).reverse, ?_, rfl, hlen, by rw [← hdr]; exact hst, hq, r2⟩)⟩
                    rcases hop with ⟨hi, ho⟩ | ⟨_, ho⟩ | ⟨hi, ho⟩
                    · exact Or.inl ⟨hi, by omega⟩
                    · exact absurd ho hop1
                    · exact Or.inr ⟨hi, by omega⟩
                  · cases hs
                · cases hs
            · cases hs
        · cases hs
theorem pm_inv_obj {m : Nat} {i : Instr} {st : List Value} {h : pmH} {c k : Nat} {as rest : List Value} (hs : pm_inv m i st h c k = some (none, as, rest)) :
    ∃ (j y n q : Nat), i = .invokespecial j ∧ pm_look (pm_calls (pm_oc m)) j = some (y, 3, n) ∧ st = .ref q :: rest ∧ 1 ≤ pm_fr m ∧ (rest.map fun v => v.category).sum + 12 ≤ pm_lo m := by
  unfold pm_inv at hs
  dsimp only at hs
  split at hs
  · cases hs
  · next j op hj =>
    split at hs
    · cases hs
    · next y kind n hlk =>
      split at hs
      · next hk3 =>
        split at hs
        · next hop =>
          split at hs
          · next q r =>
            split at hs
            · next hr =>
              cases hs
              subst hk3
              refine ⟨j, y, n, q, ?_, hlk, rfl, hop.2, hr⟩
              split at hj
              · cases hj; exact absurd hop.1 (by decide)
              · cases hj; exact absurd hop.1 (by decide)
              · cases hj; rfl
              · cases hj
            · cases hs
          · cases hs
        · cases hs
      · split at hs
        · try dsimp only at hs
          split at hs
          · split at hs <;> cases hs
          · split at hs
            · split at hs
              · split at hs <;> cases hs
              · split at hs
                · split at hs <;> cases hs
                · cases hs
            · cases hs
        · cases hs
variable {p : Program} {e : Env} {R : Room} {s : State} {mi : MethodId} {args : Array Value} {below : List Frame} {meth : Method} {co : Code} {H : Heap} {locs : List Loc} {Q : State → Prop} {ls : Array Slot} {pc : Nat}
/-- behind a call -/
theorem pm_callG {mc ms c k : Nat} {st0 rest : List Value} {a : Array Value} {h1 : pmH} {r1 : Option Value} {H0 : Heap} (hr : va_Run p l e R s mi args below meth co H locs c k mc ms (F0 mi pc ls st0) (pm_cs b sa rest) (pm_Q D cA b sa h1 r1 a) (fun q => b ≤ q)) (hSv : pm_Sv b H0 H locs)
    (kk : ∀ (H1 : Heap) (locs1 : List Loc), pm_Wd D cA b sa h1 H1 → pm_Sv b H0 H1 locs1 → W p l e R s mi args below meth co H1 locs1 (c + mc) (k + ms) Q (F0 mi (pc + 3) ls (pm_cs b sa (r1.toList ++ rest)))) : W p l e R s mi args below meth co H locs c k Q (F0 mi pc ls st0) := by
  intro T hT Xs
  obtain ⟨v, st₀, t, T', L, h0, X', hL, e1, e2, ⟨hv, hw, hf⟩, st⟩ := hr T hT Xs
  cases hv
  rw [h0] at hf
  obtain ⟨t2, a1, b1⟩ := kk T'.heap (locs ++ L) (by rw [e1]; exact hw) ⟨fun q hq => by rw [e1, hf q hq]; exact hSv.1 q hq, fun q hq => by
      rcases List.mem_append.mp hq with h | h
      · exact hSv.2 q h
      · exact hL q h⟩ T' rfl X'
  refine ⟨t2, st t2 ?_, b1⟩
  have hst : pm_cs b sa (r1.toList ++ rest) = (r1.map (pm_cv b sa)).toList ++ pm_cs b sa rest := by cases r1 <;> rfl
  rw [hst] at a1
  exact a1
end PMI
section PMJ
variable {D : va_G} {cA : Nat → ClassId} {b : Nat} {sa : Nat → Nat} {l : Launch}
variable {p : Program} {e : Env} {R : Room} {s : State} {mi : MethodId} {args : Array Value} {below : List Frame} {meth : Method} {co : Code} {H : Heap} {locs : List Loc} {Q : State → Prop} {ls : Array Slot} {pc : Nat}
theorem pm_goodM {y : Nat} (hy : pm_oc y < pm_lawc) : GoodIn pm_ws (pm_wsm y) := by
  intro w hw
  rcases List.mem_cons.mp hw with rfl | hw
  · have := (pm_okA y).2.2.2.2 (show pm_oc y ≠ 18 from Nat.ne_of_lt hy)
    exact ⟨this, good_of_word (pm_wsgood this)⟩
  · exact ⟨hw, good_of_word (pm_wsgood hw)⟩
theorem pm_dcS {Y : MethodName} {yb mb : ByteArray} {yL mL : Nat} {yr : Option FieldType} {yR : Room} {ymc yms c k j kind n' : Nat} {ow : String} {as rest : List Value} {h h1 : pmH} {r1 : Option Value}
    (hx : p.tables.exec = Jvm.exec) (hb : co.code = mb) (hml : co.maxLocals = mL) (hts : ∀ w ∈ pm_ws, w.before args s = true) (hown : s.vm.findClass ow = some mi.cls) (hK : pm_K D cA sa s) (hls : ls.size = mL) (hTx : pm_T b sa s) (hW : pm_Wd D cA b sa h H) (hSv : pm_Sv b s.heap H locs)
    (hM : Met l Y (Cond.code Y yb yL yr :: pm_ws) yR (pm_P D cA b sa as h) (pm_Q D cA b sa h1 r1) ymc yms (fun q => b ≤ q)) (hG : GoodIn pm_ws (Cond.code Y yb yL yr :: pm_ws)) (hini : (Cond.initialized Y.cls).before args s = true)
    (hlink : kind < 10 → (Cond.methodLink ow j Y).before args s = true) (hnest : ¬ kind < 10 → va_Nw (.methodLinkNest ow j Y "MarkTree") s) (hd : Y.cls ≠ "java/lang/invoke/MethodHandle" ∧ Y.cls ≠ "java/lang/invoke/VarHandle" ∧ (parseMethodDescriptor Y.desc).map (fun d => d.parameters.length) = some n')
    (hrc : yR.cells = ymc) (hrs : yR.slots = yms) (hR' : yR.frames + 1 ≤ R.frames ∧ 8 + (yL + 11) + yR.locals ≤ R.locals) (hfit : c + ymc ≤ R.cells ∧ k + yms ≤ R.slots) (hrest : (rest.map fun v => v.category).sum ≤ 8) (hlen : as.length = n') (hdec : decode mb pc = .ok (.invokestatic j, 3)) (hsta : (Cond.static Y).before args s = true)
    (kk : ∀ (H1 : Heap) (locs1 : List Loc), pm_Wd D cA b sa h1 H1 → pm_Sv b s.heap H1 locs1 → W p l e R s mi args below meth co H1 locs1 (c + ymc) (k + yms) Q (F0 mi (pc + 3) ls (pm_cs b sa (r1.toList ++ rest)))) : W p l e R s mi args below meth co H locs c k Q (F0 mi pc ls (pm_cs b sa (as.reverse ++ rest))) := by
  have hpre : ∀ U : State, U.heap = H → s.WarmedH U.vm → pm_P D cA b sa as h (pm_cs b sa as).toArray U := fun U hU hWm => ⟨rfl, by rw [hU]; exact hW, hK.warm hWm, hTx.go hWm.alike (fun q hq => by rw [hU]; exact hSv.1 q hq)⟩
  have hstk : (F0 mi pc ls (pm_cs b sa (as.reverse ++ rest))).stack = (pm_cs b sa as).reverse ++ pm_cs b sa rest := by
    show List.map (pm_cv b sa) (as.reverse ++ rest) = _
    rw [List.map_append, List.map_reverse]
  by_cases h10 : kind < 10
  · exact pm_callG (va_runS (As := pm_cs b sa as) (rest := pm_cs b sa rest) ⟨hx, hb, hml, hown, hts⟩ hM ⟨callB_of n' hts hG rfl hrc hrs hini (hlink h10) hd hR', hsta⟩ ⟨pm_blind as h, hpre⟩ rfl (by rw [List.length_map]; exact hlen) hls hstk (lv_room (by rw [pm_cat_cs]; exact hrest)) hdec hfit) hSv kk
  · exact pm_callG (va_runSN (As := pm_cs b sa as) (rest := pm_cs b sa rest) ⟨hx, hb, hml, hown, hts⟩ hM ⟨va_cnB n' hts hG rfl hrc hrs (hnest h10) hini hd hR', hsta, trivial⟩ ⟨pm_blind as h, hpre⟩ rfl (by rw [List.length_map]; exact hlen) hls hstk (lv_room (by rw [pm_cat_cs]; exact hrest)) hdec hfit) hSv kk
theorem pm_dcV {Y : MethodName} {yb mb : ByteArray} {yL mL : Nat} {yr : Option FieldType} {yR : Room} {ymc yms c k j kind n' q ad : Nat} {ow : String} {as' rest : List Value} {h h1 : pmH} {r1 : Option Value}
    (hx : p.tables.exec = Jvm.exec) (hb : co.code = mb) (hml : co.maxLocals = mL) (hts : ∀ w ∈ pm_ws, w.before args s = true) (hown : s.vm.findClass ow = some mi.cls) (hK : pm_K D cA sa s) (hls : ls.size = mL) (hTx : pm_T b sa s) (hW : pm_Wd D cA b sa h H) (hSv : pm_Sv b s.heap H locs)
    (hM : Met l Y (Cond.code Y yb yL yr :: pm_ws) yR (pm_P D cA b sa (.ref q :: as') h) (pm_Q D cA b sa h1 r1) ymc yms (fun q => b ≤ q)) (hG : GoodIn pm_ws (Cond.code Y yb yL yr :: pm_ws)) (hini : (Cond.initialized Y.cls).before args s = true)
    (hlink : kind < 10 → (Cond.methodLink ow j Y).before args s = true) (hnest : ¬ kind < 10 → va_Nw (.methodLinkNest ow j Y "MarkTree") s) (hd : Y.cls ≠ "java/lang/invoke/MethodHandle" ∧ Y.cls ≠ "java/lang/invoke/VarHandle" ∧ (parseMethodDescriptor Y.desc).map (fun d => d.parameters.length) = some n')
    (hrc : yR.cells = ymc) (hrs : yR.slots = yms) (hR' : yR.frames + 1 ≤ R.frames ∧ 8 + (yL + 11) + yR.locals ≤ R.locals) (hfit : c + ymc ≤ R.cells ∧ k + yms ≤ R.slots) (hrest : (rest.map fun v => v.category).sum ≤ 8) (hlen : as'.length = n') (hadr : pm_cv b sa (.ref q) = .ref ad) (hins : (Cond.instanceMethod Y).before args s = true)
    (hop : (decode mb pc = .ok (.invokevirtual j, 3) ∧ (Cond.selects Y.cls Y Y).before args s = true ∧ ∃ cellB : Cell, H[ad]? = some cellB ∧ cellB.vm.isStatics = false ∧ s.vm.findClass Y.cls = some cellB.cls) ∨ (decode mb pc = .ok (.invokespecial j, 3) ∧ Y.name = "<init>" ∧ yr = none))
    (kk : ∀ (H1 : Heap) (locs1 : List Loc), pm_Wd D cA b sa h1 H1 → pm_Sv b s.heap H1 locs1 → W p l e R s mi args below meth co H1 locs1 (c + ymc) (k + yms) Q (F0 mi (pc + 3) ls (pm_cs b sa (r1.toList ++ rest)))) : W p l e R s mi args below meth co H locs c k Q (F0 mi pc ls (pm_cs b sa (as'.reverse ++ .ref q :: rest))) := by
  have hpre : ∀ U : State, U.heap = H → s.WarmedH U.vm → pm_P D cA b sa (.ref q :: as') h (pm_cs b sa (.ref q :: as')).toArray U := fun U hU hWm => ⟨rfl, by rw [hU]; exact hW, hK.warm hWm, hTx.go hWm.alike (fun q hq => by rw [hU]; exact hSv.1 q hq)⟩
  have hstk : (F0 mi pc ls (pm_cs b sa (as'.reverse ++ .ref q :: rest))).stack = (pm_cs b sa as').reverse ++ .ref ad :: pm_cs b sa rest := by
    show List.map (pm_cv b sa) (as'.reverse ++ .ref q :: rest) = _
    rw [List.map_append, List.map_reverse, List.map_cons, hadr]
  have has2 : (pm_cs b sa (.ref q :: as')).toArray = (Value.ref ad :: pm_cs b sa as').toArray := by rw [← hadr]; rfl
  rw [has2] at hpre
  rcases hop with ⟨hdec, hsel, hrcv⟩ | ⟨hdec, hnm, rfl⟩
  · by_cases h10 : kind < 10
    · exact pm_callG (va_runV (As := pm_cs b sa as') (rest := pm_cs b sa rest) ⟨hx, hb, hml, hown, hts⟩ hM ⟨callB_of n' hts hG rfl hrc hrs hini (hlink h10) hd hR', hins, hsel⟩ ⟨pm_blind _ h, hrcv, hpre⟩ rfl (by rw [List.length_map]; exact hlen) hls hstk (lv_room (by rw [pm_cat_cs]; exact hrest)) hdec hfit) hSv kk
    · exact pm_callG (va_runVN (As := pm_cs b sa as') (rest := pm_cs b sa rest) ⟨hx, hb, hml, hown, hts⟩ hM ⟨va_cnB n' hts hG rfl hrc hrs (hnest h10) hini hd hR', hins, hsel⟩ ⟨pm_blind _ h, hrcv, hpre⟩ rfl (by rw [List.length_map]; exact hlen) hls hstk (lv_room (by rw [pm_cat_cs]; exact hrest)) hdec hfit) hSv kk
  · by_cases h10 : kind < 10
    · exact pm_callG (va_runI (As := pm_cs b sa as') (rest := pm_cs b sa rest) ⟨hx, hb, hml, hown, hts⟩ hM ⟨callB_of n' hts hG rfl hrc hrs hini (hlink h10) hd hR', hnm, hins⟩ ⟨pm_blind _ h, hpre⟩ rfl (by rw [List.length_map]; exact hlen) hls hstk (lv_room (by rw [pm_cat_cs]; exact hrest)) hdec hfit) hSv kk
    · exact pm_callG (va_runIN (As := pm_cs b sa as') (rest := pm_cs b sa rest) ⟨hx, hb, hml, hown, hts⟩ hM ⟨va_cnB n' hts hG rfl hrc hrs (hnest h10) hini hd hR', hnm, hins⟩ ⟨pm_blind _ h, hpre⟩ rfl (by rw [List.length_map]; exact hlen) hls hstk (lv_room (by rw [pm_cat_cs]; exact hrest)) hdec hfit) hSv kk
end PMJ
section PMK
variable {D : va_G} {cA : Nat → ClassId} {b : Nat} {sa : Nat → Nat} {l : Launch}
variable {p : Program} {e : Env} {R : Room} {s : State} {mi : MethodId} {args : Array Value} {below : List Frame} {meth : Method} {co : Code} {H : Heap} {locs : List Loc} {Q : State → Prop} {ls : Array Slot} {pc : Nat}
theorem pm_dec0 {M : pmM} (hM : pm_okm M) {pc : Nat} {i : Instr} {len : Nat} (hlk : pm_look M.2.2.2.2.2.2.2.2.2.2 pc = some (i, len)) : decode M.2.1 pc = .ok (i, pm_len i len) := hM.1 (pc, i, len) (pm_look_mem hlk)
theorem pm_dec {m pc : Nat} {i : Instr} {len : Nat} (hlk : pm_look (pm_kl m) pc = some (i, len)) : decode (pm_bytes m) pc = .ok (i, pm_len i len) := pm_dec0 (pm_okA m) hlk
theorem pm_cls0 {M : pmM} (hM : pm_okm M) : M.1.cls = pm_own M.2.2.2.2.2.2.2.2.1 := hM.2.2.1
theorem pm_cls (y : Nat) : (pm_y y).cls = pm_own (pm_oc y) := pm_cls0 (pm_okA y)
theorem pm_linkY {k j y kind n : Nat} (hk3 : ¬ kind = 3) (hwords : ∀ w ∈ pm_wc k (j, y, kind, n), w ∈ pm_ws) (hts : ∀ w ∈ pm_ws, w.before args s = true) :
    (Cond.initialized (pm_y y).cls).before args s = true ∧ (kind < 10 → (Cond.methodLink (pm_own k) j (pm_y y)).before args s = true) ∧ (kind % 10 = 0 → (Cond.instanceMethod (pm_y y)).before args s = true ∧ (Cond.selects (pm_y y).cls (pm_y y) (pm_y y)).before args s = true) ∧ (kind % 10 = 1 → (Cond.static (pm_y y)).before args s = true) ∧ (kind % 10 = 2 → (Cond.instanceMethod (pm_y y)).before args s = true) := by
  unfold pm_wc at hwords
  dsimp only at hwords
  rw [if_neg hk3] at hwords
  generalize pm_y y = Y at *
  generalize pm_own k = ow at *
  refine ⟨hts _ (hwords _ (List.mem_append_left _ (List.mem_append_left _ List.mem_cons_self))), fun h10 => ?_, fun h0 => ?_, fun h0 => ?_, fun h0 => ?_⟩
  · rw [if_pos h10] at hwords
    exact hts _ (hwords _ (List.mem_append_left _ (List.mem_append_right _ List.mem_cons_self)))
  · rw [h0] at hwords
    exact ⟨hts _ (hwords _ (List.mem_append_right _ List.mem_cons_self)), hts _ (hwords _ (List.mem_append_right _ (List.mem_cons_of_mem _ List.mem_cons_self)))⟩
  · rw [h0] at hwords
    exact hts _ (hwords _ (List.mem_append_right _ List.mem_cons_self))
  · rw [h0] at hwords
    exact hts _ (hwords _ (List.mem_append_right _ List.mem_cons_self))
theorem pm_chkY {j y kind n : Nat} (hk3 : ¬ kind = 3) (hchk : pm_chkc (j, y, kind, n) = true) :
    ((pm_y y).cls ≠ "java/lang/invoke/MethodHandle" ∧ (pm_y y).cls ≠ "java/lang/invoke/VarHandle" ∧ (parseMethodDescriptor (pm_y y).desc).map (fun d => d.parameters.length) = some n) ∧ (kind % 10 = 2 → (pm_y y).name = "<init>" ∧ pm_ret y = none) := by
  unfold pm_chkc at hchk
  dsimp only at hchk
  generalize pm_y y = Y at *
  generalize pm_ret y = rt at *
  rw [Bool.or_eq_true, Bool.and_eq_true, Bool.or_eq_true, Bool.and_eq_true] at hchk
  rcases hchk with hbad | ⟨hd, hinit⟩
  · exact absurd (beq_iff_eq.mp hbad) hk3
  · refine ⟨of_decide_eq_true hd, fun h2 => ?_⟩
    rcases hinit with h | h
    · rw [h2] at h
      exact absurd h (by decide)
    · exact ⟨of_decide_eq_true h.1, of_decide_eq_true h.2⟩
theorem pm_nestY {k j y kind n : Nat} (hK : pm_K D cA sa s) (hmem : (j, y, kind, n) ∈ pm_calls k) (h10 : ¬ kind < 10) : va_Nw (.methodLinkNest (pm_own k) j (pm_y y) "MarkTree") s := by
  have h1 : (k, j, y) ∈ pm_nest := pm_nB k (j, y, kind, n) hmem h10
  have h2 := hK.2.2.1 (k, j, y) h1
  unfold pm_wn at h2
  exact h2
theorem pm_goodY {y : Nat} (hoc : pm_oc y < pm_lawc) : GoodIn pm_ws (Cond.code (pm_y y) (pm_bytes y) (pm_maxL y) (pm_ret y) :: pm_ws) := by
  have h := pm_goodM hoc
  unfold pm_wsm at h
  exact h
theorem pm_metY {n y : Nat} {as : List Value} {h h1 : pmH} {r1 : Option Value} (ih : pm_Sn D cA b sa l n) (hsb : sa 0 < b) (hcall : pm_exec none n y 0 (lv_args 0 as) [] h 0 0 = some (h1, r1)) (hlen : (as.map fun v => v.category).sum ≤ pm_maxL y) :
    Met l (pm_y y) (Cond.code (pm_y y) (pm_bytes y) (pm_maxL y) (pm_ret y) :: pm_ws) (pm_rm y) (pm_P D cA b sa as h) (pm_Q D cA b sa h1 r1) (pm_mc y) (pm_ms y) (fun q => b ≤ q) := by
  have h := pm_met ih hsb hcall hlen
  unfold pm_wsm at h
  exact h
theorem pm_rcvY {y q N : Nat} {f : Nat → Value} {h : pmH} (hK : pm_K D cA sa s) (hW : pm_Wd D cA b sa h H) (hq : h[q]? = some (pm_oc y, N, f)) (hoc : pm_oc y < 12) : ∃ cellB : Cell, H[b + q]? = some cellB ∧ cellB.vm.isStatics = false ∧ s.vm.findClass (pm_y y).cls = some cellB.cls := by
  rw [pm_cls y]
  generalize pm_oc y = t at *
  rcases hW.2.2 q _ hq with ⟨g1, r0, g2, cell, q1, q2, q3, q4⟩ | ⟨g1, -⟩
  · dsimp only at g2 q2
    refine ⟨cell, q1, by rw [q3]; rfl, ?_⟩
    have hck := (hK.1 t r0 g2).2.1
    rw [(pm_clok t r0 g2).2.2.2.1, q2]
    exact hck
  · dsimp only at g1
    omega
theorem pm_docall {n m c k y : Nat} {i : Instr} {len : Nat} {st as rest : List Value} {h h1 : pmH} {r1 : Option Value} (ih : pm_Sn D cA b sa l n) (hx : p.tables.exec = Jvm.exec) (hb : co.code = pm_bytes m) (hml : co.maxLocals = pm_maxL m) (hts : ∀ w ∈ pm_ws, w.before args s = true) (hown : s.vm.findClass (pm_own (pm_oc m)) = some mi.cls) (hK : pm_K D cA sa s) (hTx : pm_T b sa s) (hsb : sa 0 < b)
    (hR : pm_fr m ≤ R.frames ∧ pm_lo m ≤ R.locals ∧ pm_mc m ≤ R.cells ∧ pm_ms m ≤ R.slots) (hls : ls.size = pm_maxL m) (hW : pm_Wd D cA b sa h H) (hSv : pm_Sv b s.heap H locs) (hdec : decode (pm_bytes m) pc = .ok (i, pm_len i len))
    (hic : pm_isCall m i st h c k y as rest) (hcall : pm_exec none n y 0 (lv_args 0 as) [] h 0 0 = some (h1, r1))
    (kk : ∀ (H1 : Heap) (locs1 : List Loc), pm_Wd D cA b sa h1 H1 → pm_Sv b s.heap H1 locs1 → W p l e R s mi args below meth co H1 locs1 (c + pm_mc y) (k + pm_ms y) Q (F0 mi (pc + 3) ls (pm_cs b sa (r1.toList ++ rest)))) : W p l e R s mi args below meth co H locs c k Q (F0 mi pc ls (pm_cs b sa st)) := by
  obtain ⟨j, kind, n', hlk, hk3, ⟨f1, f2, f3, f4⟩, hrest, has, hoc, hcase⟩ := hic
  have hM := pm_metY ih hsb hcall has
  have hG := pm_goodY hoc
  have hmem : (j, y, kind, n') ∈ pm_calls (pm_oc m) := pm_look_mem hlk
  obtain ⟨hini, hlink, hk0w, hk1w, hk2w⟩ := pm_linkY (args := args) (s := s) (n := n') hk3 (fun w hw => pm_cA (pm_oc m) w (List.mem_flatMap.mpr ⟨(j, y, kind, n'), hmem, hw⟩)) hts
  obtain ⟨hd, hinit⟩ := pm_chkY hk3 (pm_cB (pm_oc m) (j, y, kind, n') hmem)
  have hnest : ¬ kind < 10 → va_Nw (.methodLinkNest (pm_own (pm_oc m)) j (pm_y y) "MarkTree") s := fun h10 => pm_nestY hK hmem h10
  have hR' : (pm_rm y).frames + 1 ≤ R.frames ∧ 8 + (pm_maxL y + 11) + (pm_rm y).locals ≤ R.locals := ⟨Nat.le_trans f1 hR.1, Nat.le_trans f2 hR.2.1⟩
  have hfit : c + pm_mc y ≤ R.cells ∧ k + pm_ms y ≤ R.slots := ⟨Nat.le_trans f3 hR.2.2.1, Nat.le_trans f4 hR.2.2.2⟩
  have hrc : (pm_rm y).cells = pm_mc y := rfl
  have hrs : (pm_rm y).slots = pm_ms y := rfl
  have hrcv : ∀ q N f, h[q]? = some (pm_oc y, N, f) → pm_oc y < 12 → ∃ cellB : Cell, H[b + q]? = some cellB ∧ cellB.vm.isStatics = false ∧ s.vm.findClass (pm_y y).cls = some cellB.cls := fun q N f hq hoc => pm_rcvY hK hW hq hoc
  have hcls := pm_cls y
  clear hcall has f1 f2 f3 f4 hlk ih hmem hoc hR
  generalize pm_rm y = yR at *
  generalize pm_y y = Y at *
  generalize pm_bytes y = yb at *
  generalize pm_maxL y = yL at *
  generalize pm_ret y = yr at *
  generalize pm_mc y = ymc at *
  generalize pm_ms y = yms at *
  generalize pm_oc y = yo at *
  generalize pm_bytes m = mb at *
  generalize pm_maxL m = mL at *
  generalize pm_own (pm_oc m) = ow at *
  rcases hcase with ⟨rfl, hk1, hlen, rfl⟩ | ⟨q, N, f, as', hop, rfl, hlen, rfl, hq, hoc2⟩ | ⟨q, as', rfl, hk0, rfl, hlen, rfl, h2001, h2020, hst⟩
  · exact pm_dcS hx hb hml hts hown hK hls hTx hW hSv hM hG hini hlink hnest hd hrc hrs hR' hfit hrest hlen hdec (hk1w hk1) kk
  · have hadr : pm_cv b sa (.ref q) = .ref (b + q) := congrArg Value.ref (hW.lt hq).2.2
    rcases hop with ⟨rfl, hk0⟩ | ⟨rfl, hk2⟩
    · exact pm_dcV hx hb hml hts hown hK hls hTx hW hSv hM hG hini hlink hnest hd hrc hrs hR' hfit hrest hlen hadr (hk0w hk0).1 (Or.inl ⟨hdec, (hk0w hk0).2, hrcv q N f hq hoc2⟩) kk
    · exact pm_dcV hx hb hml hts hown hK hls hTx hW hSv hM hG hini hlink hnest hd hrc hrs hR' hfit hrest hlen hadr (hk2w hk2) (Or.inr ⟨hdec, hinit hk2⟩) kk
  · obtain ⟨i, rfl⟩ : ∃ i : Nat, q = 2001 + i := ⟨q - 2001, by omega⟩
    have hadr : pm_cv b sa (.ref (2001 + i)) = .ref (sa (i + 1)) := congrArg Value.ref ((pm_ad_tx b sa (by omega)).trans (congrArg sa (by omega)))
    obtain ⟨cell, g1, g2, g3, -⟩ := (hTx.1 i (by omega)).1.kept (fun a _ ha => hSv.1 a (Nat.not_le.mp ha))
    rw [hst] at hcls
    exact pm_dcV hx hb hml hts hown hK hls hTx hW hSv hM hG hini hlink hnest hd hrc hrs hR' hfit hrest hlen hadr (hk0w hk0).1 (Or.inl ⟨hdec, (hk0w hk0).2, cell, g1, g2, by rw [hcls]; exact g3⟩) kk
end PMK
set_option maxHeartbeats 4000000 in
theorem pm_sound (D : va_G) (cA : Nat → ClassId) (b : Nat) (sa : Nat → Nat) (l : Launch) : ∀ n, pm_Sn D cA b sa l n := by
  intro n
  induction n with
  | zero =>
    intro X m pc lv st h c k h' r hs
    exact absurd hs (by simp [pm_exec])
  | succ n ih =>
    intro X m pc lv st h c k h' r hs p e R s mi args below meth co H locs ls Q hx hb hml hts hown hK hTx hX hsb hR hin hl hW hSv hc hk hend
    unfold pm_exec at hs
    split at hs
    · cases hs
    · next i len hlk =>
      have hdec : decode (pm_bytes m) pc = .ok (i, pm_len i len) := pm_dec hlk
      split at hs
      · next r0 he => cases hs; exact W.widen hc hk (hend pc i len st H locs ls hdec he hW hSv)
      · split at hs
        · next y as rest hinv =>
          split at hs
          · next h1 r1 hcall =>
            have hic := pm_inv_ok hinv
            have hbd : c + pm_mc y ≤ pm_mc m ∧ k + pm_ms y ≤ pm_ms m := by
              obtain ⟨_, _, _, _, _, ⟨_, _, q1, q2⟩, _⟩ := hic
              exact ⟨q1, q2⟩
            exact pm_docall ih hx hb hml hts hown hK hTx hsb hR hl.1 hW hSv hdec hic hcall (fun H1 locs1 hW1 hSv1 => ih X m (pc + 3) lv _ h1 _ _ h' r hs p e R s mi args below meth co H1 locs1 ls Q hx hb hml hts hown hK hTx hX hsb hR hin hl hW1 hSv1 hbd.1 hbd.2 hend)
          · cases hs
        · next as rest hinv =>
          obtain ⟨j, y, n', q, rfl, hlk2, rfl, hfr, hlo⟩ := pm_inv_obj hinv
          have hwords : ∀ w ∈ pm_wc (pm_oc m) (j, y, 3, n'), w ∈ pm_ws := fun w hw => pm_cA _ _ (List.mem_flatMap.mpr ⟨_, pm_look_mem hlk2, hw⟩)
          simp only [pm_wc, if_true] at hwords
          refine W.objInit hx hb hown (hts _ (hwords _ List.mem_cons_self)) (hts _ (hwords _ (List.mem_cons_of_mem _ List.mem_cons_self))) (hts _ (hwords _ (List.mem_cons_of_mem _ (List.mem_cons_of_mem _ List.mem_cons_self)))) (g := F0 mi pc ls (pm_cs b sa (.ref q :: rest))) rfl (hl.1.trans hml.symm) rfl hdec (Nat.le_trans hfr hR.1) ?_ ?_
          · show 2 * 0 + ((pm_cs b sa rest).map fun v => v.category).sum + 12 ≤ R.locals
            rw [pm_cat_cs]
            have := hR.2.1
            omega
          · exact ih X m (pc + 3) lv rest h c k h' r hs p e R s mi args below meth co H locs ls Q hx hb hml hts hown hK hTx hX hsb hR hin hl hW hSv hc hk hend
        · split at hs
          · next pc' lv' st' h2 c' k' hstep =>
            unfold pm_step at hstep
            split at hstep
            · next q hA =>
              cases hstep
              obtain ⟨⟨rfl, rfl, rfl⟩, hk2⟩ := pm_stA (b := b) (sa := sa) (l := l) (p := p) (e := e) (R := R) (s := s) (mi := mi) (args := args) (below := below) (meth := meth) (co := co) (H := H) (locs := locs) (Q := Q) hx hb hdec hl hA
              exact hk2 (fun ls' hl' => ih X m pc' lv' st' h2 c' k' h' r hs p e R s mi args below meth co H locs ls' Q hx hb hml hts hown hK hTx hX hsb hR hin hl' hW hSv hc hk hend)
            · obtain ⟨⟨rfl, g1, g2⟩, hk2⟩ := pm_stB (l := l) (p := p) (e := e) (R := R) (s := s) (mi := mi) (args := args) (below := below) (meth := meth) (co := co) (H := H) (locs := locs) (Q := Q) (ls := ls) hTx hx hb hts hown hK hX hsb hR.2.2.1 hR.2.2.2 hin hdec hW hSv hstep
              exact hk2 (fun H1 locs1 hW1 hSv1 => ih X m pc' lv' st' h2 c' k' h' r hs p e R s mi args below meth co H1 locs1 ls Q hx hb hml hts hown hK hTx hX hsb hR hin hl hW1 hSv1 (g1 hc) (g2 hk) hend)
          · cases hs
/-! the shape: class (20 int[], 21 long[], 22 boolean[], 23, 24 rows of these), length, kind of its places (0 ints, 1 longs, 2 rows, from 3 on: an object) -/
def x_N : Nat := 295
def x_sh (q : Nat) : Nat × Nat × Nat := if q < 243 then (if q < 183 then (if q < 51 then (if q < 6 then (if q < 3 then (if q < 1 then ((10, 12, 3)) else (if q < 2 then ((7, 5, 4)) else ((20, 40, 0)))) else (if q < 4 then ((20, 40, 0)) else (if q < 5 then ((20, 40, 0)) else ((23, 40, 2))))) else (if q < 48 then (if q < 46 then ((20, 10, 0)) else (if q < 47 then ((3, 4, 5)) else ((20, 40, 0)))) else (if q < 49 then ((20, 40, 0)) else (if q < 50 then ((20, 40, 0)) else ((2, 7, 6)))))) else (if q < 57 then (if q < 54 then (if q < 52 then ((20, 120, 0)) else (if q < 53 then ((20, 120, 0)) else ((20, 120, 0)))) else (if q < 55 then ((20, 120, 0)) else (if q < 56 then ((20, 120, 0)) else ((23, 120, 2))))) else (if q < 179 then (if q < 177 then ((20, 8, 0)) else (if q < 178 then ((6, 7, 7)) else ((20, 160, 0)))) else (if q < 181 then (if q < 180 then ((4, 6, 8)) else ((20, 8, 0))) else (if q < 182 then ((20, 8, 0)) else ((23, 8, 2))))))) else (if q < 217 then (if q < 210 then (if q < 200 then (if q < 191 then ((20, 8, 0)) else (if q < 192 then ((23, 8, 2)) else ((20, 8, 0)))) else (if q < 201 then ((23, 8, 2)) else (if q < 209 then ((20, 8, 0)) else ((1, 8, 9))))) else (if q < 213 then (if q < 211 then ((20, 6, 0)) else (if q < 212 then ((21, 6, 1)) else ((20, 6, 0)))) else (if q < 215 then (if q < 214 then ((21, 40, 1)) else ((9, 4, 10))) else (if q < 216 then ((20, 60, 0)) else ((20, 60, 0)))))) else (if q < 230 then (if q < 220 then (if q < 218 then ((20, 60, 0)) else (if q < 219 then ((0, 7, 11)) else ((20, 8, 0)))) else (if q < 221 then ((23, 8, 2)) else (if q < 229 then ((20, 100, 0)) else ((21, 100, 1))))) else (if q < 233 then (if q < 231 then ((20, 100, 0)) else (if q < 232 then ((5, 4, 12)) else ((20, 4, 0)))) else (if q < 238 then (if q < 234 then ((23, 4, 2)) else ((20, 5, 0))) else (if q < 239 then ((24, 4, 2)) else ((21, 5, 1)))))))) else (if q < 269 then (if q < 256 then (if q < 249 then (if q < 246 then (if q < 244 then ((8, 13, 13)) else (if q < 245 then ((1, 8, 14)) else ((20, 6, 0)))) else (if q < 247 then ((21, 6, 1)) else (if q < 248 then ((20, 6, 0)) else ((21, 40, 1))))) else (if q < 252 then (if q < 250 then ((20, 40, 0)) else (if q < 251 then ((22, 120, 0)) else ((20, 120, 0)))) else (if q < 254 then (if q < 253 then ((20, 120, 0)) else ((20, 120, 0))) else (if q < 255 then ((22, 120, 0)) else ((21, 40, 1)))))) else (if q < 262 then (if q < 259 then (if q < 257 then ((11, 62, 15)) else (if q < 258 then ((20, 40, 0)) else ((20, 40, 0)))) else (if q < 260 then ((20, 40, 0)) else (if q < 261 then ((20, 400, 0)) else ((20, 40, 0))))) else (if q < 265 then (if q < 263 then ((20, 40, 0)) else (if q < 264 then ((20, 40, 0)) else ((20, 120, 0)))) else (if q < 267 then (if q < 266 then ((20, 120, 0)) else ((20, 120, 0))) else (if q < 268 then ((20, 120, 0)) else ((20, 120, 0))))))) else (if q < 282 then (if q < 275 then (if q < 272 then (if q < 270 then ((20, 960, 0)) else (if q < 271 then ((20, 8, 0)) else ((20, 9, 0)))) else (if q < 273 then ((20, 72, 0)) else (if q < 274 then ((20, 72, 0)) else ((20, 72, 0))))) else (if q < 278 then (if q < 276 then ((22, 8, 0)) else (if q < 277 then ((20, 6, 0)) else ((20, 120, 0)))) else (if q < 280 then (if q < 279 then ((22, 120, 0)) else ((20, 120, 0))) else (if q < 281 then ((20, 120, 0)) else ((22, 120, 0)))))) else (if q < 288 then (if q < 285 then (if q < 283 then ((21, 40, 1)) else (if q < 284 then ((20, 160, 0)) else ((20, 60, 0)))) else (if q < 286 then ((20, 60, 0)) else (if q < 287 then ((20, 8, 0)) else ((20, 880, 0))))) else (if q < 291 then (if q < 289 then ((20, 880, 0)) else (if q < 290 then ((20, 120, 0)) else ((22, 120, 0)))) else (if q < 293 then (if q < 292 then ((20, 40, 0)) else ((20, 4, 0))) else (if q < 294 then ((20, 20, 0)) else ((20, 60, 0))))))))
def x_obj (k : Nat) : List Nat := match k with
  | 0 => [3, 48, 52, 179, 181, 211, 216, 220, 233, 245, 0, 0]
  | 1 => [4, 5, 6, 7, 0]
  | 2 => [49, 50, 51, 0]
  | 3 => [53, 54, 55, 56, 57, 58, 0]
  | 4 => [180, 0, 0, 0, 0, 0, 0]
  | 5 => [182, 183, 184, 193, 202, 0]
  | 6 => [0, 212, 213, 214, 215, 0, 0, 0]
  | 7 => [217, 218, 219, 0]
  | 8 => [221, 222, 231, 232, 0, 0, 0]
  | 9 => [234, 235, 240, 0]
  | 10 => [3, 52, 181, 246, 251, 252, 253, 254, 255, 256, 257, 0, 0]
  | 11 => [0, 247, 248, 249, 250, 0, 0, 0]
  | 12 => [0, 0, 259, 260, 261, 262, 0, 263, 264, 265, 0, 266, 267, 268, 269, 270, 271, 0, 272, 273, 0, 274, 275, 276, 277, 278, 0, 279, 280, 281, 282, 283, 284, 285, 0, 0, 0, 1, 0, 0, 0, 286, 287, 0, 288, 289, 290, 0, 0, 291, 0, 0, 292, 0, 0, 0, 0, 293, 0, 294, 295, 296]
  | _ => []
def x_kd (q i : Nat) : Nat := match (x_sh q).2.2 with
  | 0 => 0
  | 1 => 1
  | 2 => q + 1 + i + 2
  | k + 3 => (x_obj k).getD i 0
/-- a cell of this shape -/
def xc (q t n kd : Nat) : Prop := q < x_N ∧ x_sh q = (t, n, kd)
theorem xg_6 {q : Nat} (h1 : 6 ≤ q) (h2 : q ≤ 45) : xc q 20 10 0 := ⟨by unfold x_N; omega, by unfold x_sh; rw [if_pos (show q < 243 by omega), if_pos (show q < 183 by omega), if_pos (show q < 51 by omega), if_neg (show ¬ q < 6 by omega), if_pos (show q < 48 by omega), if_pos (show q < 46 by omega)]⟩
theorem xg_57 {q : Nat} (h1 : 57 ≤ q) (h2 : q ≤ 176) : xc q 20 8 0 := ⟨by unfold x_N; omega, by unfold x_sh; rw [if_pos (show q < 243 by omega), if_pos (show q < 183 by omega), if_neg (show ¬ q < 51 by omega), if_neg (show ¬ q < 57 by omega), if_pos (show q < 179 by omega), if_pos (show q < 177 by omega)]⟩
theorem xg_183 {q : Nat} (h1 : 183 ≤ q) (h2 : q ≤ 190) : xc q 20 8 0 := ⟨by unfold x_N; omega, by unfold x_sh; rw [if_pos (show q < 243 by omega), if_neg (show ¬ q < 183 by omega), if_pos (show q < 217 by omega), if_pos (show q < 210 by omega), if_pos (show q < 200 by omega), if_pos (show q < 191 by omega)]⟩
theorem xg_192 {q : Nat} (h1 : 192 ≤ q) (h2 : q ≤ 199) : xc q 20 8 0 := ⟨by unfold x_N; omega, by unfold x_sh; rw [if_pos (show q < 243 by omega), if_neg (show ¬ q < 183 by omega), if_pos (show q < 217 by omega), if_pos (show q < 210 by omega), if_pos (show q < 200 by omega), if_neg (show ¬ q < 191 by omega), if_neg (show ¬ q < 192 by omega)]⟩
theorem xg_201 {q : Nat} (h1 : 201 ≤ q) (h2 : q ≤ 208) : xc q 20 8 0 := ⟨by unfold x_N; omega, by unfold x_sh; rw [if_pos (show q < 243 by omega), if_neg (show ¬ q < 183 by omega), if_pos (show q < 217 by omega), if_pos (show q < 210 by omega), if_neg (show ¬ q < 200 by omega), if_neg (show ¬ q < 201 by omega), if_pos (show q < 209 by omega)]⟩
theorem xg_221 {q : Nat} (h1 : 221 ≤ q) (h2 : q ≤ 228) : xc q 20 100 0 := ⟨by unfold x_N; omega, by unfold x_sh; rw [if_pos (show q < 243 by omega), if_neg (show ¬ q < 183 by omega), if_neg (show ¬ q < 217 by omega), if_pos (show q < 230 by omega), if_neg (show ¬ q < 220 by omega), if_neg (show ¬ q < 221 by omega), if_pos (show q < 229 by omega)]⟩
theorem xg_234 {q : Nat} (h1 : 234 ≤ q) (h2 : q ≤ 237) : xc q 20 5 0 := ⟨by unfold x_N; omega, by unfold x_sh; rw [if_pos (show q < 243 by omega), if_neg (show ¬ q < 183 by omega), if_neg (show ¬ q < 217 by omega), if_neg (show ¬ q < 230 by omega), if_neg (show ¬ q < 233 by omega), if_pos (show q < 238 by omega), if_neg (show ¬ q < 234 by omega)]⟩
theorem xg_239 {q : Nat} (h1 : 239 ≤ q) (h2 : q ≤ 242) : xc q 21 5 1 := ⟨by unfold x_N; omega, by unfold x_sh; rw [if_pos (show q < 243 by omega), if_neg (show ¬ q < 183 by omega), if_neg (show ¬ q < 217 by omega), if_neg (show ¬ q < 230 by omega), if_neg (show ¬ q < 233 by omega), if_neg (show ¬ q < 238 by omega), if_neg (show ¬ q < 239 by omega)]⟩
/-! TOTAL CORRECTNESS OVER THE PURE MACHINE: 'it ends, and P holds' -/
theorem pm_mono : ∀ (n : Nat) {X : pmX} {m pc : Nat} {ls : pmL} {st : List Value} {h : pmH} {c k : Nat} {r : pmH × Option Value}, pm_exec X n m pc ls st h c k = some r → pm_exec X (n + 1) m pc ls st h c k = some r := by
  intro n
  induction n with
  | zero =>
    intro X m pc ls st h c k r hs
    cases hs
  | succ n ih =>
    intro X m pc ls st h c k r hs
    rw [pm_exec] at hs ⊢
    cases h1 : pm_look (pm_kl m) pc with
    | none => rw [h1] at hs; cases hs
    | some il =>
      obtain ⟨i, len⟩ := il
      simp only [h1] at hs ⊢
      cases h2 : pm_end m i st with
      | some v => simp only [h2] at hs ⊢; exact hs
      | none =>
        simp only [h2] at hs ⊢
        cases h3 : pm_inv m i st h c k with
        | none =>
          simp only [h3] at hs ⊢
          cases h4 : pm_step X m i pc ls st h c k with
          | none => rw [h4] at hs; cases hs
          | some s' =>
            obtain ⟨pc', ls', st', h', c', k'⟩ := s'
            simp only [h4] at hs ⊢
            exact ih hs
        | some q =>
          obtain ⟨o, as, rest⟩ := q
          cases o with
          | none => simp only [h3] at hs ⊢; exact ih hs
          | some y =>
            simp only [h3] at hs ⊢
            cases h5 : pm_exec none n y 0 (lv_args 0 as) [] h 0 0 with
            | none => rw [h5] at hs; cases hs
            | some w =>
              obtain ⟨h', r'⟩ := w
              rw [h5] at hs
              rw [ih h5]
              exact ih hs
theorem pm_mono_le {n n' : Nat} {X : pmX} {m pc : Nat} {ls : pmL} {st : List Value} {h : pmH} {c k : Nat} {r : pmH × Option Value} (hs : pm_exec X n m pc ls st h c k = some r) (hn : n ≤ n') : pm_exec X n' m pc ls st h c k = some r := by
  obtain ⟨d, rfl⟩ : ∃ d, n' = n + d := ⟨n' - n, by omega⟩
  clear hn
  induction d with
  | zero => exact hs
  | succ d ih => exact pm_mono _ ih
def ex (X : pmX) (m pc : Nat) (ls : pmL) (st : List Value) (h : pmH) (c k : Nat) (P : pmH → Option Value → Prop) : Prop := ∃ n h' r, pm_exec X n m pc ls st h c k = some (h', r) ∧ P h' r
section EX
variable {X : pmX} {m pc : Nat} {ls : pmL} {st : List Value} {h : pmH} {c k : Nat} {P : pmH → Option Value → Prop} {i : Instr} {len : Nat}
theorem ex_step {pc' : Nat} {ls' : pmL} {st' : List Value} {h' : pmH} {c' k' : Nat} (hk : pm_look (pm_kl m) pc = some (i, len)) (he : pm_end m i st = none) (hi : pm_inv m i st h c k = none) (hs : pm_step X m i pc ls st h c k = some (pc', ls', st', h', c', k')) (kk : ex X m pc' ls' st' h' c' k' P) : ex X m pc ls st h c k P := by
  obtain ⟨n, h1, r, g1, g2⟩ := kk
  refine ⟨n + 1, h1, r, ?_, g2⟩
  rw [pm_exec]
  simp only [hk, he, hi, hs]
  exact g1
theorem ex_ret {r : Option Value} (hk : pm_look (pm_kl m) pc = some (i, len)) (he : pm_end m i st = some r) (hP : P h r) : ex X m pc ls st h c k P := by
  refine ⟨1, h, r, ?_, hP⟩
  rw [pm_exec]
  simp only [hk, he]
theorem ex_call {y : Nat} {as rest : List Value} (hk : pm_look (pm_kl m) pc = some (i, len)) (he : pm_end m i st = none) (hi : pm_inv m i st h c k = some (some y, as, rest)) (kk : ex none y 0 (lv_args 0 as) [] h 0 0 (fun h1 r1 => ex X m (pc + 3) ls (r1.toList ++ rest) h1 (c + pm_mc y) (k + pm_ms y) P)) : ex X m pc ls st h c k P := by
  obtain ⟨n1, h1, r1, g1, n2, h2, r2, g2, g3⟩ := kk
  refine ⟨max n1 n2 + 1, h2, r2, ?_, g3⟩
  rw [pm_exec]
  simp only [hk, he, hi]
  rw [pm_mono_le g1 (Nat.le_max_left n1 n2)]
  exact pm_mono_le g2 (Nat.le_max_right n1 n2)
theorem ex_mono {Q : pmH → Option Value → Prop} (hPQ : ∀ h r, Q h r → P h r) (hx : ex X m pc ls st h c k Q) : ex X m pc ls st h c k P := by
  obtain ⟨n, h1, r, g1, g2⟩ := hx
  exact ⟨n, h1, r, g1, hPQ _ _ g2⟩
end EX
/-! a step without heap is no end and no call -/
theorem pm_A_end {m : Nat} {i : Instr} {pc : Nat} {ls : pmL} {st : List Value} {h : pmH} {c k : Nat} {r : pmS} (hs : pm_stepA m i pc ls st h c k = some r) : pm_end m i st = none := by
  cases i <;> first | rfl | exact absurd hs (by simp [pm_stepA])
theorem pm_A_inv {m : Nat} {i : Instr} {pc : Nat} {ls : pmL} {st : List Value} {h : pmH} {c k : Nat} {r : pmS} (hs : pm_stepA m i pc ls st h c k = some r) : pm_inv m i st h c k = none := by
  cases i <;> first | rfl | exact absurd hs (by simp [pm_stepA])
/-! THE STATE BEHIND THE CONSTRUCTORS: cells of fixed shape; what is in a place (q, i) as a whole number -/
abbrev xS : Type := Nat → Nat → Int
abbrev vi (t : Int) : Value := .int (Int32.ofInt t)
abbrev vj (t : Int) : Value := .long (Int64.ofInt t)
def x_val (kd : Nat) (z : Int) : Value := match kd with
  | 0 => vi z
  | 1 => vj z
  | r + 2 => .ref r
