def pm_rm (m : Nat) : Room := { frames := pm_fr m, cells := pm_mc m, slots := pm_ms m, locals := pm_lo m }
def pm_wsm (m : Nat) : List Cond := Cond.code (pm_y m) (pm_bytes m) (pm_maxL m) (pm_ret m) :: pm_ws
def pm_P (D : va_G) (cA : Nat → ClassId) (b : Nat) (sa : Nat → Nat) (as : List Value) (h : pmH) : Array Value → State → Prop := fun v U => v = (pm_cs b sa as).toArray ∧ pm_Wd D cA b sa h U.heap ∧ pm_K D cA sa U ∧ pm_T b sa U
def pm_Q (D : va_G) (cA : Nat → ClassId) (b : Nat) (sa : Nat → Nat) (h' : pmH) (r : Option Value) : Array Value → State → Outcome → State → Prop := fun _ st oc t => oc = .returned (r.map (pm_cv b sa)) ∧ pm_Wd D cA b sa h' t.heap ∧ ∀ q : Nat, q < b → t.heap[q]? = st.heap[q]?
section PMF
variable {D : va_G} {cA : Nat → ClassId} {b : Nat} {sa : Nat → Nat} {l : Launch}
theorem pm_K.mv {u U : State} (hal : u.vm.Alike U.vm) (hn : ∀ e, va_Nw (pm_wn e) u → va_Nw (pm_wn e) U) (hr : ∀ (o : String) (k : Nat) (t : String) (a : Nat), vk_R o k t a u → vk_R o k t a U) (h : pm_K D cA sa u) : pm_K D cA sa U := by
  obtain ⟨h1, h2, h3, h4, h5⟩ := h
  refine ⟨fun c q hq => u_Kn_moved hal (h1 c q hq), fun t a1 a2 => ⟨arrOfT_moved hal (h2 t a1 a2).1, by rw [hal.findClass]; exact (h2 t a1 a2).2⟩, fun e he => hn e (h3 e he), fun t => ?_, fun j q hq => hr _ _ _ _ (h5 j q hq)⟩
  rcases h4 t with h4 | h4
  · exact Or.inl (Jvm.Stand.arrayOver_alikeB hal h4)
  · exact Or.inr h4
theorem pm_K.warm {u U : State} (hW : u.WarmedH U.vm) (h : pm_K D cA sa u) : pm_K D cA sa U := h.mv hW.alike (fun e he => va_Nw.warmM hW he) (fun o k t a h => vk_R.warm hW h)
theorem pm_K.call {U : State} {g : JFrame} {mk : MethodId} {a : Array Value} (h : pm_K D cA sa U) : pm_K D cA sa (U.calling g mk a) := h.mv (Vm.Alike.refl U.vm) (fun e he => va_Nw.same rfl rfl he) (fun o k t a h => vk_R.same rfl h)
theorem pm_blind (as : List Value) (h : pmH) : FrameBlind (pm_P D cA b sa as h) := fun a U g mk hp => ⟨hp.1, hp.2.1, hp.2.2.1.call, hp.2.2.2.call⟩
theorem pm_ofW {y : MethodName} {ws ws' : List Cond} {rm : Room} {Pc : Array Value → State → Prop} {Qc : Array Value → State → Outcome → State → Prop} {mc ms : Nat} {free : Addr → Prop} {cc : ByteArray} {maxL : Nat} {ret : Option FieldType}
    (hy : plainFor y = true) (hw : ws = Cond.code y cc maxL ret :: ws')
    (body : ∀ p e s m args below meth c s₁, BodyLoose p l y (headSpec ws rm) cc maxL ret e s m args below meth c s₁ → c.maxLocals = maxL → Pc args s →
      W p l e (headSpec ws rm).room s m args below meth c s.heap [] 0 0 (MQ below Qc args s mc ms free) (entryFrame m args maxL)) : Met l y ws rm Pc Qc mc ms free := by
  refine MetFree.of_bodySF (code := cc) (maxLocals := maxL) (ret := ret) hy ?_ ?_
  · intro args s m h hn
    obtain ⟨meth, c, h1, h2, h3, h4, h5, h6, -, -⟩ := Cond.code_spec hn (atoms_spec (ws := ws) h _ (by rw [hw]; exact List.mem_cons_self))
    exact ⟨meth, c, h1, h2, h3, h4, h5, h6⟩
  · intro p e s m args below meth c s₁ B hml hP _
    have hh0 : s₁.heap = s.heap := by rw [B.state]; rfl
    obtain ⟨t, a1, o, b1, b2, b3⟩ := body p e s m args below meth c s₁ B hml hP s₁ hh0 (Stand.of_body B)
    exact ⟨t, o, a1, b1, b2, ⟨b3.1, b3.2⟩⟩
theorem pm_args_lc (as : List Value) : ∀ i : Nat, lv_args i (pm_cs b sa as) = pm_lc b sa (lv_args i as) := by
  induction as with
  | nil => intro i; rfl
  | cons v vs ih =>
    intro i
    show (i, pm_cv b sa v) :: lv_args (if (pm_cv b sa v).category = 2 then i + 2 else i + 1) (pm_cs b sa vs) = (i, pm_cv b sa v) :: pm_lc b sa (lv_args (if v.category = 2 then i + 2 else i + 1) vs)
    rw [pm_cv_cat, ih]
theorem pm_cat_cs (as : List Value) : ((pm_cs b sa as).map fun v => v.category) = as.map fun v => v.category := by
  rw [List.map_map]
  apply List.map_congr_left
  intro v _
  exact pm_cv_cat b sa v
theorem pm_sl_len (as : List Value) : (lg_sl as).length = (as.map fun v => v.category).sum := by
  induction as with
  | nil => rfl
  | cons v vs ih =>
    have hv : (if v.category = 2 then [Slot.val v, Slot.second] else [Slot.val v]).length = v.category := by
      rcases lv_cat v with h | h <;> simp [h]
    show ((if v.category = 2 then [Slot.val v, Slot.second] else [Slot.val v]) ++ lg_sl vs).length = _
    rw [List.length_append, hv, ih]
    simp
/-- the walk of a method from any of its points, n steps on -/
def pm_Sn (D : va_G) (cA : Nat → ClassId) (b : Nat) (sa : Nat → Nat) (l : Launch) (n : Nat) : Prop :=
  ∀ (X : pmX) (m pc : Nat) (lv : pmL) (st : List Value) (h : pmH) (c k : Nat) (h' : pmH) (r : Option Value), pm_exec X n m pc lv st h c k = some (h', r) →
  ∀ (p : Program) (e : Env) (R : Room) (s : State) (mi : MethodId) (args : Array Value) (below : List Frame) (meth : Method) (co : Code) (H : Heap) (locs : List Loc) (ls : Array Slot) (Q : State → Prop),
    p.tables.exec = Jvm.exec → co.code = pm_bytes m → co.maxLocals = pm_maxL m → (∀ w ∈ pm_ws, w.before args s = true) → s.vm.findClass (pm_own (pm_oc m)) = some mi.cls → pm_K D cA sa s → pm_T b sa s → (∀ x, X = some x → va_X (sa 0) x.1 x.2 s s.heap) → sa 0 < b →
    (pm_fr m ≤ R.frames ∧ pm_lo m ≤ R.locals ∧ pm_mc m ≤ R.cells ∧ pm_ms m ≤ R.slots) → (pm_in m = 1 → meth.name = "<init>") →
    lv_has ls (pm_maxL m) (pm_lc b sa lv) → pm_Wd D cA b sa h H → pm_Sv b s.heap H locs → c ≤ pm_mc m → k ≤ pm_ms m →
    (∀ (pc' : Nat) (i : Instr) (len : Nat) (st' : List Value) (H1 : Heap) (locs1 : List Loc) (ls1 : Array Slot), decode (pm_bytes m) pc' = .ok (i, pm_len i len) → pm_end m i st' = some r → pm_Wd D cA b sa h' H1 → pm_Sv b s.heap H1 locs1 → W p l e R s mi args below meth co H1 locs1 (pm_mc m) (pm_ms m) Q (F0 mi pc' ls1 (pm_cs b sa st'))) →
    W p l e R s mi args below meth co H locs c k Q (F0 mi pc ls (pm_cs b sa st))
/-- a method's contract, out of its walk -/
theorem pm_met {n y : Nat} {as : List Value} {h h1 : pmH} {r1 : Option Value} (ih : pm_Sn D cA b sa l n) (hsb : sa 0 < b) (hcall : pm_exec none n y 0 (lv_args 0 as) [] h 0 0 = some (h1, r1)) (hlen : (as.map fun v => v.category).sum ≤ pm_maxL y) :
    Met l (pm_y y) (pm_wsm y) (pm_rm y) (pm_P D cA b sa as h) (pm_Q D cA b sa h1 r1) (pm_mc y) (pm_ms y) (fun q => b ≤ q) := by
  refine pm_ofW (cc := pm_bytes y) (maxL := pm_maxL y) (ret := pm_ret y) (pm_okA y).2.1 rfl ?_
  intro p e s m args below meth c s₁ B hml hv
  obtain ⟨rfl, hW, hK, hTx⟩ := hv
  have hts := atoms_spec (ws := pm_wsm y) B.pre
  have hown : s.vm.findClass (pm_own (pm_oc y)) = some m.cls := by
    have := findClass_of_methodNamed B.named
    rwa [(pm_okA y).2.2.1] at this
  have hlocks := B.notSynchronized
  have hnm : meth.name = (pm_y y).name := (name_of_methodNamed B.named B.method).1
  have hl := lv_entry (pm_cs b sa as) (n := pm_maxL y) (by rw [pm_sl_len, pm_cat_cs]; exact hlen)
  rw [lg_entry_eq]
  generalize (lg_sl (pm_cs b sa as) ++ List.replicate (pm_maxL y - (lg_sl (pm_cs b sa as)).length) Slot.unset).toArray = ls at hl ⊢
  rw [pm_args_lc] at hl
  refine ih none y 0 (lv_args 0 as) [] h 0 0 h1 r1 hcall p e _ s m _ below meth c s.heap [] ls _ B.exec B.bytes hml (fun w hw => hts w (List.mem_cons_of_mem _ hw)) hown hK hTx (fun x hx => by cases hx) hsb ⟨Nat.le_refl _, Nat.le_refl _, Nat.le_refl _, Nat.le_refl _⟩ (fun hin => by rw [hnm]; exact (pm_okA y).2.2.2.1 hin) hl hW ⟨fun _ _ => rfl, fun q hq => by cases hq⟩ (Nat.zero_le _) (Nat.zero_le _) ?_
  intro pc' i len st' H1 locs1 ls1 hdec hend hW1 hSv1
  have hq : ∀ (v : Option Value), v = r1 → ∀ t : State, t.heap = H1 → s.WarmedH t.vm → pm_Q D cA b sa h1 r1 (pm_cs b sa as).toArray s (.returned (v.map (pm_cv b sa))) t := fun v hv t ht _ => ⟨by rw [hv], by rw [ht]; exact hW1, fun q hq => by rw [ht]; exact hSv1.1 q hq⟩
  cases i
  case ireturn =>
    simp only [pm_end] at hend
    split at hend
    · next v hr => cases hend; exact W.iret B.exec B.bytes (B.returns.trans hr) (hq (some (.int v)) rfl) hSv1.2 hdec
    · next v hr => split at hend
                   · next hv => cases hend; exact W.zret (ty := .boolean) B.exec B.bytes (B.returns.trans hr) (by show Value.int (v &&& 1) = _; rw [hv]) (hq (some (.int v)) rfl) hSv1.2 hdec
                   · cases hend
    · next v hr => split at hend
                   · next hv => cases hend; exact W.zret (ty := .byte) B.exec B.bytes (B.returns.trans hr) hv (hq (some (.int v)) rfl) hSv1.2 hdec
                   · cases hend
    · next v hr => split at hend
                   · next hv => cases hend; exact W.zret (ty := .char) B.exec B.bytes (B.returns.trans hr) hv (hq (some (.int v)) rfl) hSv1.2 hdec
                   · cases hend
    · cases hend
  case lreturn =>
    simp only [pm_end] at hend
    split at hend
    · next v hr => cases hend; exact W.lret B.exec B.bytes (B.returns.trans hr) (hq (some (.long v)) rfl) hSv1.2 hdec
    · cases hend
  case return_ =>
    simp only [pm_end] at hend
    split at hend
    · next hr => cases hend; exact W.vret B.exec B.bytes (B.returns.trans hr) (hq none rfl) hSv1.2 hdec
    · cases hend
  all_goals exact absurd hend (by simp [pm_end])
end PMF
