/-- switches, constants, fields, arrays, makings -/
def pm_upd (f : Nat → Value) (i : Nat) (v : Value) : Nat → Value := fun j => if j = i then v else f j
def pm_okv (ty : FieldType) (v : Value) : Bool := decide (narrow ty v = v) && fits ty v
def pm_mk (t n : Nat) (v : Value) : pmC := (t, n, fun _ => v)
def pm_rows (t n b : Nat) : pmC := (t, n, fun i => .ref (b + i))
def pm_obj (ci n : Nat) : pmC := (ci, n, fun f => defaultValue (pm_ty ci f))
def pm_stepB (X : pmX) (m : Nat) (i : Instr) (pc : Nat) (ls : pmL) (st : List Value) (h : pmH) (c k : Nat) : Option pmS :=
  match i with
  | .tableswitch dflt lo hi offs => match st with
    | .int x :: r =>
      if x.toInt < lo ∨ hi < x.toInt then (match pm_tgt pc dflt with
        | some t => some (t, ls, r, h, c, k)
        | none => none)
      else match offs[(x.toInt - lo).toNat]? with
        | some off => (match pm_tgt pc off with
          | some t => some (t, ls, r, h, c, k)
          | none => none)
        | none => none
    | _ => none
  | .lookupswitch dflt ps => match st with
    | .int x :: r =>
      if (ps.toList.zip (ps.toList.drop 1)).all (fun (a, next) => a.1 < next.1) = true then (match pm_tgt pc (Op.lookupswitch.offset ps.toList dflt x.toInt) with
        | some t => some (t, ls, r, h, c, k)
        | none => none)
      else none
    | _ => none
  | .ldc j => match pm_look (pm_cons (pm_oc m)) j with
    | some (.int x) => some (pc + 2, ls, .int x :: st, h, c, k)
    | some (.ref x) => some (pc + 2, ls, .ref x :: st, h, c, k)
    | _ => none
  | .ldc_w j => match pm_look (pm_cons (pm_oc m)) j with
    | some (.int x) => some (pc + 3, ls, .int x :: st, h, c, k)
    | _ => none
  | .ldc2_w j => match pm_look (pm_cons (pm_oc m)) j with
    | some (.long x) => some (pc + 3, ls, .long x :: st, h, c, k)
    | _ => none
  | .getstatic j => match pm_look (pm_xst (pm_oc m)) j with
    | some 0 => some (pc + 3, ls, .int 1 :: st, h, c, k)
    | some 1 => some (pc + 3, ls, .retAddr 0 :: st, h, c, k)
    | _ => none
  | .getfield j => match st with
    | .ref q :: r =>
      if 2001 ≤ q then (if q < 2020 then (match pm_look (pm_xfl (pm_oc m)) j with
        | some 0 => some (pc + 3, ls, .ref (q + 100) :: r, h, c, k)
        | some 1 => some (pc + 3, ls, .int 0 :: r, h, c, k)
        | _ => none) else none)
      else match pm_fld m j, h[q]? with
      | some (ci, f), some (t, _, g) => if ci = t then some (pc + 3, ls, g f :: r, h, c, k) else none
      | _, _ => none
    | _ => none
  | .putfield j => match st with
    | v :: .ref q :: r => match pm_fld m j, h[q]? with
      | some (ci, f), some (t, n, g) =>
        if ci = t ∧ pm_okv (pm_ty ci f) v = true ∧ ((pm_fin ci f = false) ∨ (pm_in m = 1 ∧ ci = pm_oc m)) then some (pc + 3, ls, r, h.set q (t, n, pm_upd g f v), c, k) else none
      | _, _ => none
    | _ => none
  | .iaload => match st with
    | .int j :: .ref q :: r =>
      if q = 2000 then (match X with
        | some x => if pm_ix j x.1 = true then some (pc + 1, ls, .int (x.2 j.toNatClampNeg) :: r, h, c, k) else none
        | none => none)
      else match h[q]? with
        | some (t, n, f) => if t = 20 ∧ pm_ix j n = true then some (pc + 1, ls, f j.toNatClampNeg :: r, h, c, k) else none
        | none => none
    | _ => none
  | .laload => match st with
    | .int j :: .ref q :: r => match h[q]? with
      | some (t, n, f) => if t = 21 ∧ pm_ix j n = true then some (pc + 1, ls, f j.toNatClampNeg :: r, h, c, k) else none
      | none => none
    | _ => none
  | .baload => match st with
    | .int j :: .ref q :: r =>
      if 2101 ≤ q then (match pm_stx[q - 2101]? with
        | some t => if pm_ix j t.length = true then some (pc + 1, ls, .int (t.getD j.toNatClampNeg 0) :: r, h, c, k) else none
        | none => none)
      else match h[q]? with
      | some (t, n, f) => if t = 22 ∧ pm_ix j n = true then some (pc + 1, ls, f j.toNatClampNeg :: r, h, c, k) else none
      | none => none
    | _ => none
  | .aaload => match st with
    | .int j :: .ref q :: r => match h[q]? with
      | some (t, n, f) => if (t = 23 ∨ t = 24) ∧ pm_ix j n = true then some (pc + 1, ls, f j.toNatClampNeg :: r, h, c, k) else none
      | none => none
    | _ => none
  | .iastore => match st with
    | .int x :: .int j :: .ref q :: r => match h[q]? with
      | some (t, n, f) => if t = 20 ∧ pm_ix j n = true then some (pc + 1, ls, r, h.set q (t, n, pm_upd f j.toNatClampNeg (.int x)), c, k) else none
      | none => none
    | _ => none
  | .lastore => match st with
    | .long x :: .int j :: .ref q :: r => match h[q]? with
      | some (t, n, f) => if t = 21 ∧ pm_ix j n = true then some (pc + 1, ls, r, h.set q (t, n, pm_upd f j.toNatClampNeg (.long x)), c, k) else none
      | none => none
    | _ => none
  | .bastore => match st with
    | .int x :: .int j :: .ref q :: r => match h[q]? with
      | some (t, n, f) => if t = 22 ∧ pm_ix j n = true then some (pc + 1, ls, r, h.set q (t, n, pm_upd f j.toNatClampNeg (.int (x &&& 1))), c, k) else none
      | none => none
    | _ => none
  | .arraylength => match st with
    | .ref q :: r =>
      if q = 2000 then (match X with
        | some x => some (pc + 1, ls, .int (Int32.ofNat x.1) :: r, h, c, k)
        | none => none)
      else if 2101 ≤ q then (match pm_stx[q - 2101]? with
        | some t => some (pc + 1, ls, .int (Int32.ofNat t.length) :: r, h, c, k)
        | none => none)
      else match h[q]? with
        | some (t, n, _) => if t = 20 ∨ t = 21 then some (pc + 1, ls, .int (Int32.ofNat n) :: r, h, c, k) else none
        | none => none
    | _ => none
  | .new j => match pm_look (pm_news (pm_oc m)) j with
    | some ci => match pm_cl[ci]? with
      | some q => if c + 1 ≤ pm_mc m ∧ k + q.2.2 ≤ pm_ms m ∧ h.length < 900 then some (pc + 3, ls, .ref h.length :: st, h ++ [pm_obj ci q.2.2], c + 1, k + q.2.2) else none
      | none => none
    | none => none
  | .newarray ty => match st with
    | .int n :: r =>
      if 0 ≤ n ∧ n.toNatClampNeg ≤ 100000 ∧ c + 1 ≤ pm_mc m ∧ k + n.toNatClampNeg ≤ pm_ms m ∧ h.length < 900 then (match ty with
        | .int => some (pc + 2, ls, .ref h.length :: r, h ++ [pm_mk 20 n.toNatClampNeg (.int 0)], c + 1, k + n.toNatClampNeg)
        | .long => some (pc + 2, ls, .ref h.length :: r, h ++ [pm_mk 21 n.toNatClampNeg (.long 0)], c + 1, k + n.toNatClampNeg)
        | .boolean => some (pc + 2, ls, .ref h.length :: r, h ++ [pm_mk 22 n.toNatClampNeg (.int 0)], c + 1, k + n.toNatClampNeg)
        | _ => none)
      else none
    | _ => none
  | .multianewarray j d => match st with
    | .int k1 :: .int n1 :: r => match pm_look (pm_mnas (pm_oc m)) j with
      | some t =>
        if d = 2 ∧ 0 ≤ n1 ∧ 0 ≤ k1 ∧ n1.toNatClampNeg ≤ 1000 ∧ k1.toNatClampNeg ≤ 1000 ∧ c + (1 + n1.toNatClampNeg) ≤ pm_mc m ∧ k + (n1.toNatClampNeg + n1.toNatClampNeg * k1.toNatClampNeg) ≤ pm_ms m ∧ h.length < 900 ∧ (t = 20 ∨ t = 21) then
          some (pc + 4, ls, .ref h.length :: r, h ++ (pm_rows (t + 3) n1.toNatClampNeg (h.length + 1) :: List.replicate n1.toNatClampNeg (pm_mk t k1.toNatClampNeg (if t = 20 then .int 0 else .long 0))), c + 1 + n1.toNatClampNeg, k + n1.toNatClampNeg + n1.toNatClampNeg * k1.toNatClampNeg)
        else none
      | none => none
    | _ => none
  | _ => none
def pm_step (X : pmX) (m : Nat) (i : Instr) (pc : Nat) (ls : pmL) (st : List Value) (h : pmH) (c k : Nat) : Option pmS :=
  match pm_stepA m i pc ls st h c k with
  | some r => some r
  | none => pm_stepB X m i pc ls st h c k
/-- the end of a method -/
def pm_end (m : Nat) (i : Instr) (st : List Value) : Option (Option Value) :=
  match i with
  | .ireturn => match st, pm_ret m with
    | [.int v], some .int => some (some (.int v))
    | [.int v], some .boolean => if v &&& 1 = v then some (some (.int v)) else none
    | [.int v], some .byte => if narrow .byte (.int v) = .int v then some (some (.int v)) else none
    | [.int v], some .char => if narrow .char (.int v) = .int v then some (some (.int v)) else none
    | _, _ => none
  | .lreturn => match st, pm_ret m with
    | [.long v], some .long => some (some (.long v))
    | _, _ => none
  | .return_ => match st, pm_ret m with
    | [], none => some none
    | _, _ => none
  | _ => none
/-- a call: who is called (objInit: none), with what, what stays on the stack -/
def pm_inv (m : Nat) (i : Instr) (st : List Value) (h : pmH) (c k : Nat) : Option (Option Nat × List Value × List Value) :=
  let j : Option (Nat × Nat) := match i with
    | .invokevirtual j => some (j, 0)
    | .invokestatic j => some (j, 1)
    | .invokespecial j => some (j, 2)
    | _ => none
  match j with
  | none => none
  | some (j, op) => match pm_look (pm_calls (pm_oc m)) j with
    | none => none
    | some (y, kind, n) =>
      if kind = 3 then (if op = 2 ∧ 1 ≤ pm_fr m then match st with
        | .ref q :: r => if (r.map fun v => v.category).sum + 12 ≤ pm_lo m then some (none, [.ref q], r) else none
        | _ => none
        else none)
      else if kind % 10 = op ∧ n ≤ st.length ∧ pm_fr y + 1 ≤ pm_fr m ∧ 8 + (pm_maxL y + 11) + pm_lo y ≤ pm_lo m ∧ c + pm_mc y ≤ pm_mc m ∧ k + pm_ms y ≤ pm_ms m then
        let as := (st.take n).reverse
        if op = 1 then (if ((st.drop n).map fun v => v.category).sum ≤ 8 ∧ (as.map fun v => v.category).sum ≤ pm_maxL y ∧ pm_oc y < pm_lawc then some (some y, as, st.drop n) else none)
        else match st.drop n with
          | .ref q :: r => if 2001 ≤ q then (if q < 2020 ∧ op = 0 ∧ pm_oc y = pm_strc ∧ (r.map fun v => v.category).sum ≤ 8 ∧ 1 + (as.map fun v => v.category).sum ≤ pm_maxL y then some (some y, .ref q :: as, r) else none)
            else match h[q]? with
            | some (t, _, _) => if t = pm_oc y ∧ t < 12 ∧ (r.map fun v => v.category).sum ≤ 8 ∧ 1 + (as.map fun v => v.category).sum ≤ pm_maxL y then some (some y, .ref q :: as, r) else none
            | none => none
          | _ => none
      else none
def pm_exec : pmX → Nat → Nat → Nat → pmL → List Value → pmH → Nat → Nat → Option (pmH × Option Value)
  | _, 0, _, _, _, _, _, _, _ => none
  | X, n + 1, m, pc, ls, st, h, c, k =>
    match pm_look (pm_kl m) pc with
    | none => none
    | some (i, len) => match pm_end m i st with
      | some r => some (h, r)
      | none => match pm_inv m i st h c k with
        | some (some y, as, rest) => match pm_exec none n y 0 (lv_args 0 as) [] h 0 0 with
          | some (h', r) => pm_exec X n m (pc + 3) ls (r.toList ++ rest) h' (c + pm_mc y) (k + pm_ms y)
          | none => none
        | some (none, _, rest) => pm_exec X n m (pc + 3) ls rest h c k
        | none => match pm_step X m i pc ls st h c k with
          | some (pc', ls', st', h', c', k') => pm_exec X n m pc' ls' st' h' c' k'
          | none => none
/-- a whole call -/
def pm_call (X : pmX) (n y : Nat) (as : List Value) (h : pmH) : Option (pmH × Option Value) := pm_exec X n y 0 (lv_args 0 as) [] h 0 0
/-! THE PURE MACHINE IS SOUND: its steps are the machine's -/
def pm_ad (b : Nat) (sa : Nat → Nat) (k : Nat) : Nat := if k < 2000 then b + k else sa (k - 2000)
def pm_cv (b : Nat) (sa : Nat → Nat) (v : Value) : Value := match v with
  | .ref k => .ref (pm_ad b sa k)
  | .int x => .int x
  | .long x => .long x
  | .float x => .float x
  | .double x => .double x
  | .null => .null
  | .retAddr _ => if sa 201 = 0 then .null else .ref (sa 200)
abbrev pm_cs (b : Nat) (sa : Nat → Nat) (st : List Value) : List Value := st.map (pm_cv b sa)
abbrev pm_lc (b : Nat) (sa : Nat → Nat) (ls : pmL) : pmL := ls.map (fun q => (q.1, pm_cv b sa q.2))
theorem pm_cv_cat (b : Nat) (sa : Nat → Nat) (v : Value) : (pm_cv b sa v).category = v.category := by
  cases v with
  | retAddr x =>
    show (if sa 201 = 0 then Value.null else Value.ref (sa 200)).category = _
    split <;> rfl
  | _ => rfl
theorem pm_get_at {b : Nat} {sa : Nat → Nat} {ls : Array Slot} {nL : Nat} {lv : pmL} {i : Nat} {v : Value} (hl : lv_has ls nL (pm_lc b sa lv)) (h : pm_get lv i = some v) : ls[i]? = some (.val (pm_cv b sa v)) := hl.2.2 (i, pm_cv b sa v) (List.mem_map.mpr ⟨(i, v), pm_look_mem h, rfl⟩)
theorem pm_st1_lc (b : Nat) (sa : Nat → Nat) (lv : pmL) (i : Nat) (v : Value) : (i, pm_cv b sa v) :: (pm_lc b sa lv).filter (fun q => !(q.1 == i) && !(q.1 + 1 == i && q.2.category == 2)) = pm_lc b sa (pm_st1 lv i v) := by
  unfold pm_st1 pm_lc
  rw [List.map_cons, List.filter_map]
  congr 3
  funext q
  simp only [Function.comp, pm_cv_cat]
theorem pm_st2_lc (b : Nat) (sa : Nat → Nat) (lv : pmL) (i : Nat) (v : Value) : (i, pm_cv b sa v) :: (pm_lc b sa lv).filter (fun q => !(q.1 == i) && (!(q.1 == i + 1) && !(q.1 + 1 == i && q.2.category == 2))) = pm_lc b sa (pm_st2 lv i v) := by
  unfold pm_st2 pm_lc
  rw [List.map_cons, List.filter_map]
  congr 3
  funext q
  simp only [Function.comp, pm_cv_cat]
theorem pm_tgt_ok {pc : Nat} {off : Int} {t : Nat} (h : pm_tgt pc off = some t) : (pc : Int) + off = (t : Int) := by
  unfold pm_tgt at h
  split at h
  · next q hq => cases h; exact hq
  · cases h
theorem pm_br_ok {bb : Bool} {pc : Nat} {off : Int} {ls : pmL} {st : List Value} {h : pmH} {c k : Nat} {r : pmS} (hs : pm_br bb pc off ls st h c k = some r) : ∃ t : Nat, (pc : Int) + off = (t : Int) ∧ r = (cond bb t (pc + 3), ls, st, h, c, k) := by
  unfold pm_br at hs
  split at hs
  · next t ht => exact ⟨t, pm_tgt_ok ht, (Option.some.inj hs).symm⟩
  · cases hs
section PMA
variable {p : Program} {l : Launch} {e : Env} {R : Room} {s : State} {mi : MethodId} {args : Array Value} {below : List Frame} {meth : Method} {co : Code} {H : Heap} {locs : List Loc} {Q : State → Prop}
variable {b : Nat} {sa : Nat → Nat} {m pc len : Nat} {lv lv' : pmL} {st st' : List Value} {h h' : pmH} {c k c' k' pc' : Nat} {ls : Array Slot} {cc : ByteArray}
set_option maxHeartbeats 4000000 in
theorem pm_stA {i : Instr} (hx : p.tables.exec = Jvm.exec) (hb : co.code = cc) (hdec : decode cc pc = .ok (i, pm_len i len)) (hl : lv_has ls (pm_maxL m) (pm_lc b sa lv))
    (hs : pm_stepA m i pc lv st h c k = some (pc', lv', st', h', c', k')) :
    (h' = h ∧ c' = c ∧ k' = k) ∧ ((∀ ls', lv_has ls' (pm_maxL m) (pm_lc b sa lv') → W p l e R s mi args below meth co H locs c k Q (F0 mi pc' ls' (pm_cs b sa st'))) → W p l e R s mi args below meth co H locs c k Q (F0 mi pc ls (pm_cs b sa st))) := by
  cases i
  case iconst n => simp only [pm_stepA] at hs; cases hs; exact ⟨⟨rfl, rfl, rfl⟩, fun hk => lv_iconst hx hb hdec rfl (hk _ hl)⟩
  case bipush n => simp only [pm_stepA] at hs; cases hs; exact ⟨⟨rfl, rfl, rfl⟩, fun hk => lv_bipush hx hb hdec rfl (hk _ hl)⟩
  case sipush n => simp only [pm_stepA] at hs; cases hs; exact ⟨⟨rfl, rfl, rfl⟩, fun hk => lv_sipush hx hb hdec rfl (hk _ hl)⟩
  case lconst n => simp only [pm_stepA] at hs; cases hs; exact ⟨⟨rfl, rfl, rfl⟩, fun hk => lv_lconst hx hb hdec rfl (hk _ hl)⟩
  case iload_n j =>
    simp only [pm_stepA] at hs; split at hs
    · next x hg => cases hs; exact ⟨⟨rfl, rfl, rfl⟩, fun hk => lv_iload_n hx hb hdec rfl (pm_get_at hl hg) (hk _ hl)⟩
    · cases hs
  case iload j =>
    simp only [pm_stepA] at hs; split at hs
    · next x hg => cases hs; exact ⟨⟨rfl, rfl, rfl⟩, fun hk => lv_iload hx hb hdec (pm_get_at hl hg) (hk _ hl)⟩
    · cases hs
  case lload_n j =>
    simp only [pm_stepA] at hs; split at hs
    · next x hg => cases hs; exact ⟨⟨rfl, rfl, rfl⟩, fun hk => lv_lload_n hx hb hdec rfl (pm_get_at hl hg) (hk _ hl)⟩
    · cases hs
  case lload j =>
    simp only [pm_stepA] at hs; split at hs
    · next x hg => cases hs; exact ⟨⟨rfl, rfl, rfl⟩, fun hk => lv_lload hx hb hdec (pm_get_at hl hg) (hk _ hl)⟩
    · cases hs
  case aload_n j =>
    simp only [pm_stepA] at hs; split at hs
    · next x hg => cases hs; exact ⟨⟨rfl, rfl, rfl⟩, fun hk => lv_aload_n hx hb hdec rfl (pm_get_at hl hg) (hk _ hl)⟩
    · cases hs
  case aload j =>
    simp only [pm_stepA] at hs; split at hs
    · next x hg => cases hs; exact ⟨⟨rfl, rfl, rfl⟩, fun hk => lv_aload hx hb hdec (pm_get_at hl hg) (hk _ hl)⟩
    · cases hs
  case istore_n j =>
    simp only [pm_stepA] at hs; split at hs
    · next x r => split at hs
                  · next hn => cases hs; exact ⟨⟨rfl, rfl, rfl⟩, fun hk => lv_istore_n hx hb hdec rfl hl hn (pm_st1_lc b sa lv j (.int x)) (fun ls' hl' => hk ls' hl')⟩
                  · cases hs
    · cases hs
  case istore j =>
    simp only [pm_stepA] at hs; split at hs
    · next x r => split at hs
                  · next hn => cases hs; exact ⟨⟨rfl, rfl, rfl⟩, fun hk => lv_istore hx hb hdec hl hn (pm_st1_lc b sa lv j (.int x)) (fun ls' hl' => hk ls' hl')⟩
                  · cases hs
    · cases hs
  case lstore_n j =>
    simp only [pm_stepA] at hs; split at hs
    · next x r => split at hs
                  · next hn => cases hs; exact ⟨⟨rfl, rfl, rfl⟩, fun hk => lv_lstore_n hx hb hdec rfl hl hn (pm_st2_lc b sa lv j (.long x)) (fun ls' hl' => hk ls' hl')⟩
                  · cases hs
    · cases hs
  case lstore j =>
    simp only [pm_stepA] at hs; split at hs
    · next x r => split at hs
                  · next hn => cases hs; exact ⟨⟨rfl, rfl, rfl⟩, fun hk => lv_lstore hx hb hdec hl hn (pm_st2_lc b sa lv j (.long x)) (fun ls' hl' => hk ls' hl')⟩
                  · cases hs
    · cases hs
  case astore_n j =>
    simp only [pm_stepA] at hs; split at hs
    · next x r => split at hs
                  · next hn => cases hs; exact ⟨⟨rfl, rfl, rfl⟩, fun hk => lv_astore_n hx hb hdec rfl hl hn (pm_st1_lc b sa lv j (.ref x)) (fun ls' hl' => hk ls' hl')⟩
                  · cases hs
    · cases hs
  case astore j =>
    simp only [pm_stepA] at hs; split at hs
    · next x r => split at hs
                  · next hn => cases hs; exact ⟨⟨rfl, rfl, rfl⟩, fun hk => lv_astore hx hb hdec hl hn (pm_st1_lc b sa lv j (.ref x)) (fun ls' hl' => hk ls' hl')⟩
                  · cases hs
    · cases hs
  case iinc j n =>
    simp only [pm_stepA] at hs; split at hs
    · next x hg => split at hs
                   · next hn =>
                     cases hs
                     obtain ⟨kq, hkq⟩ := List.getElem?_of_mem (List.mem_map.mpr ⟨(j, .int x), pm_look_mem hg, rfl⟩ : (j, pm_cv b sa (.int x)) ∈ pm_lc b sa lv)
                     exact ⟨⟨rfl, rfl, rfl⟩, fun hk => lv_iinc hx hb hdec hl hkq rfl hn (pm_st1_lc b sa lv j (.int (x + Int32.ofInt n))) (fun ls' hl' => hk ls' hl')⟩
                   · cases hs
    · cases hs
  case dup =>
    simp only [pm_stepA] at hs; split at hs
    · cases hs; exact ⟨⟨rfl, rfl, rfl⟩, fun hk => lv_dup hx hb hdec rfl (hk _ hl)⟩
    · cases hs; exact ⟨⟨rfl, rfl, rfl⟩, fun hk => lv_dup hx hb hdec rfl (hk _ hl)⟩
    · cases hs
  case dup2 =>
    simp only [pm_stepA] at hs; split at hs
    · cases hs; exact ⟨⟨rfl, rfl, rfl⟩, fun hk => lv_dup2_11 hx hb hdec rfl rfl (hk _ hl)⟩
    · cases hs
  case pop =>
    simp only [pm_stepA] at hs; split at hs
    · cases hs; exact ⟨⟨rfl, rfl, rfl⟩, fun hk => lv_pop hx hb hdec rfl (hk _ hl)⟩
    · cases hs; exact ⟨⟨rfl, rfl, rfl⟩, fun hk => lv_pop hx hb hdec rfl (hk _ hl)⟩
    · cases hs
  case pop2 =>
    simp only [pm_stepA] at hs; split at hs
    · cases hs; exact ⟨⟨rfl, rfl, rfl⟩, fun hk => lv_pop2_2 hx hb hdec rfl (hk _ hl)⟩
    · cases hs
  case i2c =>
    simp only [pm_stepA] at hs; split at hs
    · cases hs; exact ⟨⟨rfl, rfl, rfl⟩, fun hk => lv_i2c hx hb hdec rfl (hk _ hl)⟩
    · cases hs
  case iadd => simp only [pm_stepA] at hs; split at hs; · cases hs; exact ⟨⟨rfl, rfl, rfl⟩, fun hk => lv_iadd hx hb hdec (hk _ hl)⟩
               · cases hs
  case isub => simp only [pm_stepA] at hs; split at hs; · cases hs; exact ⟨⟨rfl, rfl, rfl⟩, fun hk => lv_isub hx hb hdec (hk _ hl)⟩
               · cases hs
  case imul => simp only [pm_stepA] at hs; split at hs; · cases hs; exact ⟨⟨rfl, rfl, rfl⟩, fun hk => lv_imul hx hb hdec (hk _ hl)⟩
               · cases hs
  case idiv =>
    simp only [pm_stepA] at hs; split at hs
    · split at hs
      · cases hs
      · next hz => cases hs; exact ⟨⟨rfl, rfl, rfl⟩, fun hk => lv_idiv hx hb hdec hz (hk _ hl)⟩
    · cases hs
  case irem =>
    simp only [pm_stepA] at hs; split at hs
    · split at hs
      · cases hs
      · next hz => cases hs; exact ⟨⟨rfl, rfl, rfl⟩, fun hk => lv_irem hx hb hdec hz (hk _ hl)⟩
    · cases hs
  case iand => simp only [pm_stepA] at hs; split at hs; · cases hs; exact ⟨⟨rfl, rfl, rfl⟩, fun hk => lv_iand hx hb hdec (hk _ hl)⟩
               · cases hs
  case ior => simp only [pm_stepA] at hs; split at hs; · cases hs; exact ⟨⟨rfl, rfl, rfl⟩, fun hk => lv_ior hx hb hdec (hk _ hl)⟩
              · cases hs
  case ishl => simp only [pm_stepA] at hs; split at hs; · cases hs; exact ⟨⟨rfl, rfl, rfl⟩, fun hk => lv_ishl hx hb hdec (hk _ hl)⟩
               · cases hs
  case ishr => simp only [pm_stepA] at hs; split at hs; · cases hs; exact ⟨⟨rfl, rfl, rfl⟩, fun hk => lv_ishr hx hb hdec (hk _ hl)⟩
               · cases hs
  case iushr => simp only [pm_stepA] at hs; split at hs; · cases hs; exact ⟨⟨rfl, rfl, rfl⟩, fun hk => lv_iushr hx hb hdec rfl (hk _ hl)⟩
                · cases hs
  case ladd => simp only [pm_stepA] at hs; split at hs; · cases hs; exact ⟨⟨rfl, rfl, rfl⟩, fun hk => lv_ladd hx hb hdec (hk _ hl)⟩
               · cases hs
  case lsub => simp only [pm_stepA] at hs; split at hs; · cases hs; exact ⟨⟨rfl, rfl, rfl⟩, fun hk => lv_lsub hx hb hdec (hk _ hl)⟩
               · cases hs
  case lmul => simp only [pm_stepA] at hs; split at hs; · cases hs; exact ⟨⟨rfl, rfl, rfl⟩, fun hk => lv_lmul hx hb hdec (hk _ hl)⟩
               · cases hs
  case land => simp only [pm_stepA] at hs; split at hs; · cases hs; exact ⟨⟨rfl, rfl, rfl⟩, fun hk => lv_land hx hb hdec (hk _ hl)⟩
               · cases hs
  case lor => simp only [pm_stepA] at hs; split at hs; · cases hs; exact ⟨⟨rfl, rfl, rfl⟩, fun hk => lv_lor hx hb hdec (hk _ hl)⟩
              · cases hs
  case lxor => simp only [pm_stepA] at hs; split at hs; · cases hs; exact ⟨⟨rfl, rfl, rfl⟩, fun hk => lv_lxor hx hb hdec (hk _ hl)⟩
               · cases hs
  case lshl => simp only [pm_stepA] at hs; split at hs; · cases hs; exact ⟨⟨rfl, rfl, rfl⟩, fun hk => lv_lshl hx hb hdec rfl (hk _ hl)⟩
               · cases hs
  case lshr => simp only [pm_stepA] at hs; split at hs; · cases hs; exact ⟨⟨rfl, rfl, rfl⟩, fun hk => lv_lshr hx hb hdec rfl (hk _ hl)⟩
               · cases hs
  case lushr => simp only [pm_stepA] at hs; split at hs; · cases hs; exact ⟨⟨rfl, rfl, rfl⟩, fun hk => lv_lushr hx hb hdec rfl (hk _ hl)⟩
                · cases hs
  case i2l => simp only [pm_stepA] at hs; split at hs; · cases hs; exact ⟨⟨rfl, rfl, rfl⟩, fun hk => lv_i2l hx hb hdec rfl (hk _ hl)⟩
              · cases hs
  case l2i => simp only [pm_stepA] at hs; split at hs; · cases hs; exact ⟨⟨rfl, rfl, rfl⟩, fun hk => lv_l2i hx hb hdec rfl (hk _ hl)⟩
              · cases hs
  case lcmp => simp only [pm_stepA] at hs; split at hs; · cases hs; exact ⟨⟨rfl, rfl, rfl⟩, fun hk => W.lcmp hx hb hdec (hk _ hl)⟩
               · cases hs
  case goto off =>
    simp only [pm_stepA] at hs; split at hs
    · next t ht => cases hs; exact ⟨⟨rfl, rfl, rfl⟩, fun hk => lv_goto hx hb hdec (pm_tgt_ok ht) (hk _ hl)⟩
    · cases hs
  case if_icmp cd off =>
    simp only [pm_stepA] at hs; split at hs
    · next y x r =>
      cases cd <;> (simp only at hs; obtain ⟨t, ht, he⟩ := pm_br_ok hs; cases he; refine ⟨⟨rfl, rfl, rfl⟩, fun hk => ?_⟩)
      · exact lv_icmp_eq hx hb hdec ht (fun hc => by have q := hk _ hl; rw [decide_eq_true hc] at q; exact q) (fun hc => by have q := hk _ hl; rw [decide_eq_false hc] at q; exact q)
      · exact lv_icmp_ne hx hb hdec ht (fun hc => by have q := hk _ hl; rw [decide_eq_true hc] at q; exact q) (fun hc => by have q := hk _ hl; rw [decide_eq_false (fun hn => hn hc)] at q; exact q)
      · exact lv_icmp_lt hx hb hdec ht (fun hc => by have q := hk _ hl; rw [decide_eq_true hc] at q; exact q) (fun hc => by have q := hk _ hl; rw [decide_eq_false hc] at q; exact q)
      · exact lv_icmp_ge hx hb hdec ht (fun hc => by have q := hk _ hl; rw [decide_eq_true hc] at q; exact q) (fun hc => by have q := hk _ hl; rw [decide_eq_false hc] at q; exact q)
      · exact lv_icmp_gt hx hb hdec ht (fun hc => by have q := hk _ hl; rw [decide_eq_true hc] at q; exact q) (fun hc => by have q := hk _ hl; rw [decide_eq_false hc] at q; exact q)
      · exact lv_icmp_le hx hb hdec ht (fun hc => by have q := hk _ hl; rw [decide_eq_true hc] at q; exact q) (fun hc => by have q := hk _ hl; rw [decide_eq_false hc] at q; exact q)
    · cases hs
  case ifCond cd off =>
    simp only [pm_stepA] at hs; split at hs
    · next x r =>
      cases cd <;> (simp only at hs; obtain ⟨t, ht, he⟩ := pm_br_ok hs; cases he; refine ⟨⟨rfl, rfl, rfl⟩, fun hk => ?_⟩)
      · exact lv_if_eq hx hb hdec ht (fun hc => by have q := hk _ hl; rw [decide_eq_true hc] at q; exact q) (fun hc => by have q := hk _ hl; rw [decide_eq_false hc] at q; exact q)
      · exact lv_if_ne hx hb hdec ht (fun hc => by have q := hk _ hl; rw [decide_eq_true hc] at q; exact q) (fun hc => by have q := hk _ hl; rw [decide_eq_false (fun hn => hn hc)] at q; exact q)
      · exact lv_if_lt hx hb hdec ht (fun hc => by have q := hk _ hl; rw [decide_eq_true hc] at q; exact q) (fun hc => by have q := hk _ hl; rw [decide_eq_false hc] at q; exact q)
      · exact lv_if_ge hx hb hdec ht (fun hc => by have q := hk _ hl; rw [decide_eq_true hc] at q; exact q) (fun hc => by have q := hk _ hl; rw [decide_eq_false hc] at q; exact q)
      · exact lv_if_gt hx hb hdec ht (fun hc => by have q := hk _ hl; rw [decide_eq_true hc] at q; exact q) (fun hc => by have q := hk _ hl; rw [decide_eq_false hc] at q; exact q)
      · exact lv_if_le hx hb hdec ht (fun hc => by have q := hk _ hl; rw [decide_eq_true hc] at q; exact q) (fun hc => by have q := hk _ hl; rw [decide_eq_false hc] at q; exact q)
    · cases hs
  all_goals exact absurd hs (by simp [pm_stepA])
end PMA
/-! the heap: numbered cells stand at b, b + 1 .. -/
def pm_aty (t : Nat) : FieldType := match t with
  | 20 => .int
  | 21 => .long
  | 22 => .boolean
  | 23 => .array .int
  | _ => .array .long
def pm_at (D : va_G) (cA : Nat → ClassId) (b : Nat) (sa : Nat → Nat) (q : Nat) (x : pmC) (H : Heap) : Prop :=
  (x.1 < 20 ∧ ∃ r : vw_C, pm_cl[x.1]? = some r ∧ t_OB (b + q) (D.1 x.1) r.2.2 (D.2 x.1) H (fun k => pm_cv b sa (x.2.2 k))) ∨ (20 ≤ x.1 ∧ x.1 < 25 ∧ H[b + q]? = some (arrV (cA x.1) x.2.1 (fun j => pm_cv b sa (x.2.2 j))))
def pm_Wd (D : va_G) (cA : Nat → ClassId) (b : Nat) (sa : Nat → Nat) (h : pmH) (H : Heap) : Prop := H.size = b + h.length ∧ h.length ≤ 2000 ∧ ∀ (q : Nat) (x : pmC), h[q]? = some x → pm_at D cA b sa q x H
def pm_K (D : va_G) (cA : Nat → ClassId) (sa : Nat → Nat) (U : State) : Prop :=
  (∀ (c : Nat) (q : vw_C), pm_cl[c]? = some q → u_Kn U q.1 q.2.1 q.2.2 (D.1 c) (D.2 c)) ∧
  (∀ t, 20 ≤ t → t < 25 → ArrOfT U (cA t) (pm_aty t) ∧ U.vm.findClass ("[" ++ (pm_aty t).toString) = some (cA t)) ∧
  (∀ e ∈ pm_nest, va_Nw (pm_wn e) U) ∧
  (∀ t, (Cond.arrayOver (.array (pm_aty t))).before #[] U = true ∨ ¬ (t = 20 ∨ t = 21)) ∧
  (∀ (j : Nat) (q : Nat × Nat × String), pm_strs[j]? = some q → vk_R (pm_own q.1) q.2.1 q.2.2 (sa (j + 1)) U)
/-- what was there before: not changed; what is written lies at b or behind -/
def pm_Sv (b : Nat) (H0 H : Heap) (locs : List Loc) : Prop := (∀ q : Nat, q < b → H[q]? = H0[q]?) ∧ ∀ l ∈ locs, b ≤ l.base
section PMB
variable {D : va_G} {cA : Nat → ClassId} {b : Nat} {sa : Nat → Nat}
theorem pm_at.kept {q : Nat} {x : pmC} {H H1 : Heap} (h : pm_at D cA b sa q x H) (hq : H1[b + q]? = H[b + q]?) : pm_at D cA b sa q x H1 := by
  rcases h with ⟨h1, r, h2, h3⟩ | ⟨h1, h2, h3⟩
  · exact Or.inl ⟨h1, r, h2, h3.kept hq⟩
  · exact Or.inr ⟨h1, h2, hq.trans h3⟩
theorem pm_Wd.lt {h : pmH} {H : Heap} {q : Nat} {x : pmC} (hW : pm_Wd D cA b sa h H) (hq : h[q]? = some x) : q < h.length ∧ q < 2000 ∧ pm_ad b sa q = b + q := by
  have h1 : q < h.length := (List.getElem?_eq_some_iff.mp hq).1
  have h2 : q < 2000 := Nat.lt_of_lt_of_le h1 hW.2.1
  exact ⟨h1, h2, if_pos h2⟩
theorem pm_Wd.set {h : pmH} {H H1 : Heap} {q : Nat} {x x' : pmC} (hW : pm_Wd D cA b sa h H) (hq : h[q]? = some x) (hat : pm_at D cA b sa q x' H1) (hz : H1.size = H.size) (ho : ∀ a : Nat, a ≠ b + q → H1[a]? = H[a]?) : pm_Wd D cA b sa (h.set q x') H1 := by
  have hl := (List.getElem?_eq_some_iff.mp hq).1
  refine ⟨by rw [hz, hW.1, List.length_set], by rw [List.length_set]; exact hW.2.1, fun q2 y hy => ?_⟩
  by_cases he : q2 = q
  · subst he
    rw [List.getElem?_set_self hl] at hy
    cases hy
    exact hat
  · rw [List.getElem?_set_ne (Ne.symm he)] at hy
    exact (hW.2.2 q2 y hy).kept (ho _ (by omega))
theorem pm_Wd.app {h l : pmH} {H H1 : Heap} (hW : pm_Wd D cA b sa h H) (hl : h.length + l.length ≤ 2000) (hz : H1.size = H.size + l.length) (ho : ∀ a : Nat, a < H.size → H1[a]? = H[a]?) (hn : ∀ (j : Nat) (x : pmC), l[j]? = some x → pm_at D cA b sa (h.length + j) x H1) : pm_Wd D cA b sa (h ++ l) H1 := by
  refine ⟨by rw [hz, hW.1, List.length_append]; omega, by rw [List.length_append]; exact hl, fun q y hy => ?_⟩
  by_cases hq : q < h.length
  · rw [List.getElem?_append_left hq] at hy
    exact (hW.2.2 q y hy).kept (ho _ (by rw [hW.1]; omega))
  · rw [List.getElem?_append_right (by omega)] at hy
    have := hn _ y hy
    rwa [show h.length + (q - h.length) = q by omega] at this
theorem pm_Sv.put {H0 H H1 : Heap} {locs : List Loc} {q k : Nat} (h : pm_Sv b H0 H locs) (ho : ∀ a : Nat, a ≠ b + q → H1[a]? = H[a]?) : pm_Sv b H0 H1 (locs ++ [⟨b + q, k⟩]) := by
  refine ⟨fun a ha => (ho a (by omega)).trans (h.1 a ha), fun l hl => ?_⟩
  rcases List.mem_append.mp hl with h1 | h1
  · exact h.2 l h1
  · rw [List.mem_singleton] at h1
    subst h1
    exact Nat.le_add_right _ _
theorem pm_ix_ok {i : Int32} {n : Nat} (h : pm_ix i n = true) : ¬ (i < 0 ∨ n ≤ i.toNatClampNeg) := by
  simp only [pm_ix, Bool.and_eq_true, decide_eq_true_eq] at h
  rintro (h1 | h1)
  · have := h.1
    rw [Int32.le_iff_toInt_le] at this
    rw [Int32.lt_iff_toInt_lt] at h1
    omega
  · omega
theorem pm_ix_lt {i : Int32} {n : Nat} (h : pm_ix i n = true) : i.toNatClampNeg < n := by
  simp only [pm_ix, Bool.and_eq_true, decide_eq_true_eq] at h
  exact h.2
theorem pm_updV (f : Nat → Value) (i : Nat) (v : Value) : updV (fun j => pm_cv b sa (f j)) i (pm_cv b sa v) = fun j => pm_cv b sa (pm_upd f i v j) := by
  funext j
  by_cases hj : j = i
  · simp [updV, pm_upd, hj]
  · simp [updV, pm_upd, hj]
/-- an array's cell -/
theorem pm_Wd.arr {h : pmH} {H : Heap} {q t n : Nat} {f : Nat → Value} (hW : pm_Wd D cA b sa h H) (hq : h[q]? = some (t, n, f)) (ht : 20 ≤ t) : t < 25 ∧ H[b + q]? = some (arrV (cA t) n (fun j => pm_cv b sa (f j))) := by
  rcases hW.2.2 q _ hq with ⟨h1, -⟩ | ⟨-, h2, h3⟩
  · exact absurd h1 (Nat.not_lt.mpr ht)
  · exact ⟨h2, h3⟩
/-- an array's cell, written -/
theorem pm_Wd.ast {h : pmH} {H H1 : Heap} {q t n i : Nat} {f : Nat → Value} {v : Value} (hW : pm_Wd D cA b sa h H) (hq : h[q]? = some (t, n, f)) (ht : 20 ≤ t) (e : H1[b + q]? = some ((arrV (cA t) n (fun j => pm_cv b sa (f j))).setSlot i (pm_cv b sa v))) (hz : H1.size = H.size) (ho : ∀ a : Nat, a ≠ b + q → H1[a]? = H[a]?) : pm_Wd D cA b sa (h.set q (t, n, pm_upd f i v)) H1 := by
  refine hW.set hq (Or.inr ⟨ht, (hW.arr hq ht).1, ?_⟩) hz ho
  rw [e, arrV_store, pm_updV]
end PMB
section PMG
variable {p : Program} {l : Launch} {e : Env} {R : Room} {s : State} {mi : MethodId} {args : Array Value} {below : List Frame} {meth : Method} {co : Code} {H H0 : Heap} {locs : List Loc} {Q : State → Prop}
variable {D : va_G} {cA : Nat → ClassId} {b : Nat} {sa : Nat → Nat} {m pc len : Nat} {r : List Value} {h : pmH} {c k : Nat} {ls : Array Slot} {cc : ByteArray}
/-- what the class's table says of a field -/
theorem pm_fok {m j ci f : Nat} (h : pm_fld m j = some (ci, f)) : ∃ q : vw_C, pm_cl[ci]? = some q ∧ f < q.2.2 ∧ Cond.fieldLink (pm_own (pm_oc m)) j (q.2.1 f).1 (q.2.1 f).2.1 (q.2.1 f).2.2.1 ∈ pm_ws ∧ pm_okc ci q := by
  have hm := pm_look_mem h
  obtain ⟨h1, h2⟩ := pm_fB _ _ hm
  have h3 := pm_fA _ _ (List.mem_map.mpr ⟨_, hm, rfl⟩)
  dsimp only at h1 h2
  have hlen : ci < pm_cl.length := h1
  have hg : pm_cl[ci]? = some (pm_cl[ci]'hlen) := List.getElem?_eq_getElem hlen
  have hd : pm_cl.getD ci ("", fun _ => ("", "", "", false), 0) = pm_cl[ci]'hlen := by rw [List.getD_eq_getElem?_getD, hg]; rfl
  simp only [pm_wf] at h3
  rw [hd] at h2 h3
  exact ⟨_, hg, h2, h3, pm_clok _ _ hg⟩
theorem pm_g_get {j q ci f n : Nat} {g : Nat → Value} (hx : p.tables.exec = Jvm.exec) (hb : co.code = cc) (hts : ∀ w ∈ pm_ws, w.before args s = true) (hown : s.vm.findClass (pm_own (pm_oc m)) = some mi.cls) (hK : pm_K D cA sa s) (hW : pm_Wd D cA b sa h H)
    (hf : pm_fld m j = some (ci, f)) (hq : h[q]? = some (ci, n, g)) (hdec : decode cc pc = .ok (.getfield j, 3))
    (kk : W p l e R s mi args below meth co H locs c k Q (F0 mi (pc + 3) ls (pm_cv b sa (g f) :: r))) : W p l e R s mi args below meth co H locs c k Q (F0 mi pc ls (pm_cv b sa (.ref q) :: r)) := by
  obtain ⟨qc, hc, hlt, hlk, hok⟩ := pm_fok hf
  have ha := (hW.lt hq).2.2
  rcases hW.2.2 q _ hq with ⟨h1, r0, h2, cell, q1, q2, q3, q4⟩ | ⟨h1, -⟩
  · dsimp only at h2 q1 q2 q4
    cases hc.symm.trans h2
    obtain ⟨hS, hfc, kC, hkC, hkind⟩ := hK.1 ci _ hc
    obtain ⟨cf, kf, fi, fd, hi, hsl⟩ := hS f hlt
    show W p l e R s mi args below meth co H locs c k Q (F0 mi pc ls (.ref (pm_ad b sa q) :: r))
    rw [ha]
    refine W.getf hx hb hown (hts _ hlk) hi (u_facts hfc hkC (u_lays hts hok.1 hlt) hi).1 q1 (by rw [q3]; exact fun z => by cases z) (v := pm_cv b sa (g f)) ?_ rfl rfl hdec kk
    rw [hsl, q4 f hlt]
  · have := hok
    have h3 : ci < pm_cl.length := (List.getElem?_eq_some_iff.mp hc).1
    have h4 : pm_cl.length = 12 := rfl
    dsimp only at h1
    omega
theorem pm_apart {ci : Nat} {q : vw_C} (hts : ∀ w ∈ pm_ws, w.before args s = true) (hK : pm_K D cA sa s) (hc : pm_cl[ci]? = some q) (hok : pm_okc ci q) : ∀ x y, x < q.2.2 → y < q.2.2 → x ≠ y → (D.2 ci) x ≠ (D.2 ci) y :=
  va_apart (own := "") (D := D) (cl := pm_cl) (tys := []) hts hok.1 (pm_ty ci) hok.2.1 hok.2.2.1 ⟨hK.1, fun k q h => by simp at h⟩ hc
theorem pm_g_put {j q ci f n : Nat} {g : Nat → Value} {v : Value} (hx : p.tables.exec = Jvm.exec) (hb : co.code = cc) (hts : ∀ w ∈ pm_ws, w.before args s = true) (hown : s.vm.findClass (pm_own (pm_oc m)) = some mi.cls) (hK : pm_K D cA sa s) (hW : pm_Wd D cA b sa h H) (hSv : pm_Sv b H0 H locs)
    (hf : pm_fld m j = some (ci, f)) (hq : h[q]? = some (ci, n, g)) (hv : pm_okv (pm_ty ci f) v = true) (hfi : pm_fin ci f = false ∨ (meth.name = "<init>" ∧ ci = pm_oc m)) (hdec : decode cc pc = .ok (.putfield j, 3))
    (kk : ∀ (H1 : Heap) (locs1 : List Loc), pm_Wd D cA b sa (h.set q (ci, n, pm_upd g f v)) H1 → pm_Sv b H0 H1 locs1 → W p l e R s mi args below meth co H1 locs1 c k Q (F0 mi (pc + 3) ls r)) : W p l e R s mi args below meth co H locs c k Q (F0 mi pc ls (pm_cv b sa v :: pm_cv b sa (.ref q) :: r)) := by
  obtain ⟨qc, hc, hlt, hlk, hok⟩ := pm_fok hf
  have ha := (hW.lt hq).2.2
  have hap := pm_apart hts hK hc hok
  simp only [pm_okv, Bool.and_eq_true, decide_eq_true_eq] at hv
  have hvc : narrow (pm_ty ci f) (pm_cv b sa v) = pm_cv b sa v ∧ fits (pm_ty ci f) (pm_cv b sa v) = true := by
    obtain ⟨v1, v2⟩ := hv
    cases v with
    | ref x =>
      generalize pm_ty ci f = ty at v1 v2 ⊢
      cases ty <;> first | exact ⟨rfl, rfl⟩ | exact absurd v2 (by simp [fits])
    | retAddr x =>
      generalize pm_ty ci f = ty at v1 v2 ⊢
      cases ty <;> exact absurd v2 (by simp [fits])
    | _ => exact ⟨v1, v2⟩
  rcases hW.2.2 q _ hq with ⟨h1, r0, h2, cell, q1, q2, q3, q4⟩ | ⟨h1, -⟩
  · dsimp only at h2 q1 q2 q4
    cases hc.symm.trans h2
    obtain ⟨hS, hfc, kC, hkC, hkind⟩ := hK.1 ci _ hc
    obtain ⟨cf, kf, fi, fd, hi, hsl⟩ := hS f hlt
    have hst := (u_facts hfc hkC (u_lays hts hok.1 hlt) hi).1
    have hpd := hok.2.1 f hlt
    show W p l e R s mi args below meth co H locs c k Q (F0 mi pc ls (pm_cv b sa v :: .ref (pm_ad b sa q) :: r))
    rw [ha]
    have fin : ∀ H' : Heap, H'[b + q]? = some (cell.setSlot fd.slot (pm_cv b sa v)) → H'.size = H.size → (∀ a, a ≠ b + q → H'[a]? = H[a]?) → W p l e R s mi args below meth co H' (locs ++ [⟨b + q, fd.slot⟩]) c k Q (F0 mi (pc + 3) ls r) := by
      intro H' e1 e2 e3
      refine kk H' _ (hW.set hq (Or.inl ⟨h1, _, hc, ?_⟩) e2 e3) (hSv.put e3)
      rw [hsl] at e1
      refine t_OB.to (V := updV (fun k => pm_cv b sa (g k)) f (pm_cv b sa v)) ⟨_, e1, q2, q3, t_set q4 hap hlt _⟩ (fun j _ => ?_)
      rw [pm_updV]
    cases hff : pm_fin ci f with
    | false =>
      have hlay := hts _ (hok.1 _ (u_in_lay hlt))
      unfold u_lay at hlay
      rw [if_neg (by rw [← hok.2.2.2.2.1 f, hff]; decide)] at hlay
      have h6 := u_store hfc hkC hkind hlay hi hpd hvc.1 hvc.2
      exact W.putK hx hb (f := fd) ⟨hown, hts _ hlk, ⟨_, _, _, hi⟩, hst⟩ (by rw [q2]; exact h6) q1 q3 (by rw [hsl]; exact k2_hasslot (q4 f hlt)) rfl rfl hdec fin
    | true =>
      rcases hfi with hfi | ⟨hin2, hdecl⟩
      · rw [hff] at hfi
        cases hfi
      · have hlay := hts _ (hok.1 _ (u_in_lay hlt))
        unfold u_lay at hlay
        rw [if_pos (by rw [← hok.2.2.2.2.1 f, hff])] at hlay
        have h6 := u_fits hfc hkC hkind (Or.inr hlay) hi hpd hvc.1 hvc.2
        have hcf : mi.cls = cf := by
          obtain ⟨_, _, c', _, _, _, -, -, hf', -, -, -, hown2, -⟩ := Cond.laysFinal_spec hlay
          have e1 : c' = cf := by have := hi.symm.trans hf'; simp at this; exact this.1.symm
          rw [hok.2.2.2.2.2.2 f hlt, ← hok.2.2.2.1, hdecl] at hown2
          rw [← e1]; exact Option.some.inj (hown.symm.trans hown2)
        exact W.putFinK hx hb hown (hts _ hlk) hi hst hcf hin2 (by rw [q2]; exact h6) q1 q3 (by rw [hsl]; exact k2_hasslot (q4 f hlt)) rfl rfl hdec fin
  · have h3 : ci < pm_cl.length := (List.getElem?_eq_some_iff.mp hc).1
    have h4 : pm_cl.length = 12 := rfl
    dsimp only at h1
    omega
end PMG
section PMC
variable {p : Program} {l : Launch} {e : Env} {R : Room} {s : State} {mi : MethodId} {args : Array Value} {below : List Frame} {meth : Method} {co : Code} {H H0 : Heap} {locs : List Loc} {Q : State → Prop}
variable {D : va_G} {cA : Nat → ClassId} {b : Nat} {sa : Nat → Nat} {m pc len : Nat} {r : List Value} {h : pmH} {c k : Nat} {ls : Array Slot} {cc : ByteArray}
theorem pm_cv_dflt (ty : FieldType) : pm_cv b sa (defaultValue ty) = defaultValue ty := by cases ty <;> rfl
theorem pm_g_iald {q n : Nat} {j : Int32} {f : Nat → Value} (hx : p.tables.exec = Jvm.exec) (hb : co.code = cc) (hK : pm_K D cA sa s) (hW : pm_Wd D cA b sa h H) (hq : h[q]? = some (20, n, f)) (hj : pm_ix j n = true) (hdec : decode cc pc = .ok (.iaload, 1))
    (kk : W p l e R s mi args below meth co H locs c k Q (F0 mi (pc + 1) ls (pm_cv b sa (f j.toNatClampNeg) :: r))) : W p l e R s mi args below meth co H locs c k Q (F0 mi pc ls (.int j :: pm_cv b sa (.ref q) :: r)) := by
  show W p l e R s mi args below meth co H locs c k Q (F0 mi pc ls (.int j :: .ref (pm_ad b sa q) :: r))
  rw [(hW.lt hq).2.2]
  exact W.iald hx hb (hW.arr hq (by decide)).2 ((hK.2.1 20 (by decide) (by decide)).1 n _) (fun z => by cases z) (by rw [arrV_size]; exact pm_ix_ok hj) (arrV_read _ _ (pm_ix_lt hj)) rfl rfl hdec kk
theorem pm_g_lald {q n : Nat} {j : Int32} {f : Nat → Value} (hx : p.tables.exec = Jvm.exec) (hb : co.code = cc) (hK : pm_K D cA sa s) (hW : pm_Wd D cA b sa h H) (hq : h[q]? = some (21, n, f)) (hj : pm_ix j n = true) (hdec : decode cc pc = .ok (.laload, 1))
    (kk : W p l e R s mi args below meth co H locs c k Q (F0 mi (pc + 1) ls (pm_cv b sa (f j.toNatClampNeg) :: r))) : W p l e R s mi args below meth co H locs c k Q (F0 mi pc ls (.int j :: pm_cv b sa (.ref q) :: r)) := by
  show W p l e R s mi args below meth co H locs c k Q (F0 mi pc ls (.int j :: .ref (pm_ad b sa q) :: r))
  rw [(hW.lt hq).2.2]
  exact W.lald hx hb (hW.arr hq (by decide)).2 ((hK.2.1 21 (by decide) (by decide)).1 n _) (fun z => by cases z) (by rw [arrV_size]; exact pm_ix_ok hj) (arrV_read _ _ (pm_ix_lt hj)) rfl rfl hdec kk
theorem pm_g_zald {q n : Nat} {j : Int32} {f : Nat → Value} (hx : p.tables.exec = Jvm.exec) (hb : co.code = cc) (hK : pm_K D cA sa s) (hW : pm_Wd D cA b sa h H) (hq : h[q]? = some (22, n, f)) (hj : pm_ix j n = true) (hdec : decode cc pc = .ok (.baload, 1))
    (kk : W p l e R s mi args below meth co H locs c k Q (F0 mi (pc + 1) ls (pm_cv b sa (f j.toNatClampNeg) :: r))) : W p l e R s mi args below meth co H locs c k Q (F0 mi pc ls (.int j :: pm_cv b sa (.ref q) :: r)) := by
  show W p l e R s mi args below meth co H locs c k Q (F0 mi pc ls (.int j :: .ref (pm_ad b sa q) :: r))
  rw [(hW.lt hq).2.2]
  exact W.zald hx hb (hW.arr hq (by decide)).2 ((hK.2.1 22 (by decide) (by decide)).1 n _) (fun z => by cases z) (by rw [arrV_size]; exact pm_ix_ok hj) (arrV_read _ _ (pm_ix_lt hj)) rfl rfl hdec kk
theorem pm_g_aald {q n t : Nat} {j : Int32} {f : Nat → Value} (hx : p.tables.exec = Jvm.exec) (hb : co.code = cc) (hK : pm_K D cA sa s) (hW : pm_Wd D cA b sa h H) (hq : h[q]? = some (t, n, f)) (ht : t = 23 ∨ t = 24) (hj : pm_ix j n = true) (hdec : decode cc pc = .ok (.aaload, 1))
    (kk : W p l e R s mi args below meth co H locs c k Q (F0 mi (pc + 1) ls (pm_cv b sa (f j.toNatClampNeg) :: r))) : W p l e R s mi args below meth co H locs c k Q (F0 mi pc ls (.int j :: pm_cv b sa (.ref q) :: r)) := by
  show W p l e R s mi args below meth co H locs c k Q (F0 mi pc ls (.int j :: .ref (pm_ad b sa q) :: r))
  rw [(hW.lt hq).2.2]
  exact W.aald hx hb (hW.arr hq (by rcases ht with rfl | rfl <;> decide)).2 ((hK.2.1 t (by rcases ht with rfl | rfl <;> decide) (by rcases ht with rfl | rfl <;> decide)).1 n _) (by rcases ht with rfl | rfl <;> rfl) (fun z => by cases z) (by rw [arrV_size]; exact pm_ix_ok hj) (arrV_read _ _ (pm_ix_lt hj)) rfl rfl hdec kk
theorem pm_g_iast {q n : Nat} {j x : Int32} {f : Nat → Value} (hx : p.tables.exec = Jvm.exec) (hb : co.code = cc) (hK : pm_K D cA sa s) (hW : pm_Wd D cA b sa h H) (hSv : pm_Sv b H0 H locs) (hq : h[q]? = some (20, n, f)) (hj : pm_ix j n = true) (hdec : decode cc pc = .ok (.iastore, 1))
    (kk : ∀ (H1 : Heap) (locs1 : List Loc), pm_Wd D cA b sa (h.set q (20, n, pm_upd f j.toNatClampNeg (.int x))) H1 → pm_Sv b H0 H1 locs1 → W p l e R s mi args below meth co H1 locs1 c k Q (F0 mi (pc + 1) ls r)) : W p l e R s mi args below meth co H locs c k Q (F0 mi pc ls (.int x :: .int j :: pm_cv b sa (.ref q) :: r)) := by
  show W p l e R s mi args below meth co H locs c k Q (F0 mi pc ls (.int x :: .int j :: .ref (pm_ad b sa q) :: r))
  rw [(hW.lt hq).2.2]
  exact W.iast hx hb (hW.arr hq (by decide)).2 ((hK.2.1 20 (by decide) (by decide)).1 n _) (fun z => by cases z) (by rw [arrV_size]; exact pm_ix_ok hj) rfl rfl hdec (fun H1 e1 e2 e3 => kk H1 _ (hW.ast hq (by decide) (v := .int x) e1 e2 e3) (hSv.put e3))
theorem pm_g_last {q n : Nat} {j : Int32} {x : Int64} {f : Nat → Value} (hx : p.tables.exec = Jvm.exec) (hb : co.code = cc) (hK : pm_K D cA sa s) (hW : pm_Wd D cA b sa h H) (hSv : pm_Sv b H0 H locs) (hq : h[q]? = some (21, n, f)) (hj : pm_ix j n = true) (hdec : decode cc pc = .ok (.lastore, 1))
    (kk : ∀ (H1 : Heap) (locs1 : List Loc), pm_Wd D cA b sa (h.set q (21, n, pm_upd f j.toNatClampNeg (.long x))) H1 → pm_Sv b H0 H1 locs1 → W p l e R s mi args below meth co H1 locs1 c k Q (F0 mi (pc + 1) ls r)) : W p l e R s mi args below meth co H locs c k Q (F0 mi pc ls (.long x :: .int j :: pm_cv b sa (.ref q) :: r)) := by
  show W p l e R s mi args below meth co H locs c k Q (F0 mi pc ls (.long x :: .int j :: .ref (pm_ad b sa q) :: r))
  rw [(hW.lt hq).2.2]
  exact W.last hx hb (hW.arr hq (by decide)).2 ((hK.2.1 21 (by decide) (by decide)).1 n _) (fun z => by cases z) (by rw [arrV_size]; exact pm_ix_ok hj) rfl rfl hdec (fun H1 e1 e2 e3 => kk H1 _ (hW.ast hq (by decide) (v := .long x) e1 e2 e3) (hSv.put e3))
theorem pm_g_zast {q n : Nat} {j x : Int32} {f : Nat → Value} (hx : p.tables.exec = Jvm.exec) (hb : co.code = cc) (hK : pm_K D cA sa s) (hW : pm_Wd D cA b sa h H) (hSv : pm_Sv b H0 H locs) (hq : h[q]? = some (22, n, f)) (hj : pm_ix j n = true) (hdec : decode cc pc = .ok (.bastore, 1))
    (kk : ∀ (H1 : Heap) (locs1 : List Loc), pm_Wd D cA b sa (h.set q (22, n, pm_upd f j.toNatClampNeg (.int (x &&& 1)))) H1 → pm_Sv b H0 H1 locs1 → W p l e R s mi args below meth co H1 locs1 c k Q (F0 mi (pc + 1) ls r)) : W p l e R s mi args below meth co H locs c k Q (F0 mi pc ls (.int x :: .int j :: pm_cv b sa (.ref q) :: r)) := by
  show W p l e R s mi args below meth co H locs c k Q (F0 mi pc ls (.int x :: .int j :: .ref (pm_ad b sa q) :: r))
  rw [(hW.lt hq).2.2]
  exact W.zast hx hb (hW.arr hq (by decide)).2 ((hK.2.1 22 (by decide) (by decide)).1 n _) (fun z => by cases z) (by rw [arrV_size]; exact pm_ix_ok hj) rfl rfl hdec (fun H1 e1 e2 e3 => kk H1 _ (hW.ast hq (by decide) (v := .int (x &&& 1)) e1 e2 e3) (hSv.put e3))
theorem pm_g_alen {q n t : Nat} {f : Nat → Value} (hx : p.tables.exec = Jvm.exec) (hb : co.code = cc) (hK : pm_K D cA sa s) (hW : pm_Wd D cA b sa h H) (hq : h[q]? = some (t, n, f)) (ht : t = 20 ∨ t = 21) (hdec : decode cc pc = .ok (.arraylength, 1))
    (kk : W p l e R s mi args below meth co H locs c k Q (F0 mi (pc + 1) ls (.int (Int32.ofNat n) :: r))) : W p l e R s mi args below meth co H locs c k Q (F0 mi pc ls (pm_cv b sa (.ref q) :: r)) := by
  show W p l e R s mi args below meth co H locs c k Q (F0 mi pc ls (.ref (pm_ad b sa q) :: r))
  rw [(hW.lt hq).2.2]
  exact W.alen hx hb (hW.arr hq (by rcases ht with rfl | rfl <;> decide)).2 ((hK.2.1 t (by rcases ht with rfl | rfl <;> decide) (by rcases ht with rfl | rfl <;> decide)).1 n _) (by rw [arrV_size]) rfl rfl hdec kk
/-- what is made lies behind all -/
theorem pm_Sv.grow {H0 H H1 : Heap} {locs : List Loc} (hSv : pm_Sv b H0 H locs) (hz : b ≤ H.size) (ho : ∀ a : Nat, a < H.size → H1[a]? = H[a]?) : pm_Sv b H0 H1 locs := ⟨fun q hq => (ho q (Nat.lt_of_lt_of_le hq hz)).trans (hSv.1 q hq), hSv.2⟩
theorem pm_g_new {j ci : Nat} {q : vw_C} (hx : p.tables.exec = Jvm.exec) (hb : co.code = cc) (hts : ∀ w ∈ pm_ws, w.before args s = true) (hown : s.vm.findClass (pm_own (pm_oc m)) = some mi.cls) (hK : pm_K D cA sa s) (hW : pm_Wd D cA b sa h H) (hSv : pm_Sv b H0 H locs)
    (hn : pm_look (pm_news (pm_oc m)) j = some ci) (hc : pm_cl[ci]? = some q) (hcells : c + 1 ≤ R.cells) (hslots : k + q.2.2 ≤ R.slots) (hlen : h.length < 900) (hdec : decode cc pc = .ok (.new j, 3))
    (kk : ∀ (H1 : Heap) (locs1 : List Loc), pm_Wd D cA b sa (h ++ [pm_obj ci q.2.2]) H1 → pm_Sv b H0 H1 locs1 → W p l e R s mi args below meth co H1 locs1 (c + 1) (k + q.2.2) Q (F0 mi (pc + 3) ls (pm_cv b sa (.ref h.length) :: r))) : W p l e R s mi args below meth co H locs c k Q (F0 mi pc ls r) := by
  have hok := pm_clok _ _ hc
  have hlk := hts _ (pm_wA _ _ (List.mem_map.mpr ⟨_, pm_look_mem hn, rfl⟩))
  simp only [pm_wnw, hok.2.2.2.1] at hlk
  obtain ⟨hS, hfc, kC0, hkC0, hkind⟩ := hK.1 ci _ hc
  have hci : ci < 12 := (List.getElem?_eq_some_iff.mp hc).1
  refine W.newcK hx hb hown hlk (hts _ hok.2.2.2.2.2.1.1) (hts _ hok.2.2.2.2.2.1.2) rfl hdec hcells hslots hfc rfl (fun H1 kC hkC e1 z1 o1 => ?_)
  have hadr : pm_cv b sa (.ref h.length) = .ref H.size := by
    show Value.ref (pm_ad b sa h.length) = _
    rw [pm_ad, if_pos (by omega), hW.1]
  have k1 := kk H1 locs (hW.app (by simp; omega) (by simpa using z1) o1 (fun i x hi => ?_)) (hSv.grow (by rw [hW.1]; omega) o1)
  · rw [hadr] at k1
    exact k1
  · have hi0 : i < 1 := (List.getElem?_eq_some_iff.mp hi).1
    rw [show i = 0 by omega] at hi
    cases hi
    refine Or.inl ⟨Nat.lt_of_lt_of_le hci (by decide), q, hc, ?_⟩
    have e2 : H1[b + (h.length + i)]? = some (blank (D.1 ci) kC) := by
      rw [show b + (h.length + i) = H.size by rw [hW.1]; omega]
      exact e1
    exact (u_born (pm_ty ci) hts hok.1 (hK.1 ci _ hc) hkC e2 hok.2.1).to (fun f _ => (pm_cv_dflt _).symm)
theorem pm_g_newa {t n : Nat} {v : Value} {x : Int32} {at0 : ArrayType} (hx : p.tables.exec = Jvm.exec) (hb : co.code = cc) (hts : ∀ w ∈ pm_ws, w.before args s = true) (hK : pm_K D cA sa s) (hW : pm_Wd D cA b sa h H) (hSv : pm_Sv b H0 H locs)
    (ht : 20 ≤ t ∧ t < 23) (hty : newarray.typeOf at0 = pm_aty t) (hin : Cond.arrayClass (pm_aty t) ∈ pm_ws) (hv : defaultValue (pm_aty t) = v) (hn : 0 ≤ x) (hN : x.toNatClampNeg = n) (hm : n ≤ 100000) (hcells : c + 1 ≤ R.cells) (hslots : k + n ≤ R.slots) (hlen : h.length < 900) (hdec : decode cc pc = .ok (.newarray at0, 2))
    (kk : ∀ (H1 : Heap) (locs1 : List Loc), pm_Wd D cA b sa (h ++ [pm_mk t n v]) H1 → pm_Sv b H0 H1 locs1 → W p l e R s mi args below meth co H1 locs1 (c + 1) (k + n) Q (F0 mi (pc + 2) ls (pm_cv b sa (.ref h.length) :: r))) : W p l e R s mi args below meth co H locs c k Q (F0 mi pc ls (.int x :: r)) := by
  have hx0 : ¬ x < 0 := by
    rw [Int32.le_iff_toInt_le] at hn
    rw [Int32.lt_iff_toInt_lt]
    omega
  have hbyt : n * componentBytes (newarray.typeOf at0) ≤ 536870912 := by
    have : componentBytes (newarray.typeOf at0) ≤ 8 := by cases at0 <;> decide
    calc n * componentBytes (newarray.typeOf at0) ≤ 100000 * 8 := Nat.mul_le_mul hm this
      _ ≤ 536870912 := by decide
  refine va_newaK hx hb (by rw [hty]; exact hts _ hin) rfl hdec rfl hx0 hN hbyt hcells hslots rfl (fun H1 cA1 e1 z1 o1 hAr hNm => ?_)
  have hcA : cA1 = cA t := by
    rw [hty] at hNm
    exact Option.some.inj (hNm.symm.trans (hK.2.1 t ht.1 (by omega)).2)
  have hadr : pm_cv b sa (.ref h.length) = .ref H.size := by
    show Value.ref (pm_ad b sa h.length) = _
    rw [pm_ad, if_pos (by omega), hW.1]
  have k1 := kk H1 locs (hW.app (by simp; omega) (by simpa using z1) o1 (fun i y hi => ?_)) (hSv.grow (by rw [hW.1]; omega) o1)
  · rw [hadr] at k1
    exact k1
  · have hi0 : i < 1 := (List.getElem?_eq_some_iff.mp hi).1
    rw [show i = 0 by omega] at hi
    cases hi
    refine Or.inr ⟨ht.1, by show t < 25; omega, ?_⟩
    rw [show b + (h.length + i) = H.size by rw [hW.1]; omega, e1, hcA, hty, hv]
    show _ = some (arrV (cA t) n (fun _ => pm_cv b sa v))
    rw [← hv, pm_cv_dflt]
end PMC
section PMD
variable {p : Program} {l : Launch} {e : Env} {R : Room} {s : State} {mi : MethodId} {args : Array Value} {below : List Frame} {meth : Method} {co : Code} {H H0 : Heap} {locs : List Loc} {Q : State → Prop}
variable {D : va_G} {cA : Nat → ClassId} {b : Nat} {sa : Nat → Nat} {m pc len : Nat} {r : List Value} {h : pmH} {c k : Nat} {ls : Array Slot} {cc : ByteArray}
theorem pm_outer (cl : ClassId) (N h0 : Nat) : ∀ i : Nat, Jvm.Free.Multi.outerC cl N h0 i = arrV cl N (fun j => if j < i then .ref (h0 + 1 + j) else .null)
  | 0 => by
    show ({ cls := cl, slots := Array.replicate N .null, vm := .none } : Cell) = _
    rw [arrV_new]
    refine congrArg (arrV cl N) (funext fun j => ?_)
    simp
  | i + 1 => by
    show (Jvm.Free.Multi.outerC cl N h0 i).setSlot i (.ref (h0 + 1 + i)) = _
    rw [pm_outer cl N h0 i, arrV_store]
    refine congrArg (arrV cl N) (funext fun j => ?_)
    by_cases e : j = i
    · subst e
      simp [updV]
    · by_cases hj : j < i
      · simp [updV, e, hj, Nat.lt_succ_of_lt hj]
      · simp [updV, e, hj, show ¬ j < i + 1 by omega]
theorem pm_arrV_ext {cl : ClassId} {N : Nat} {f g : Nat → Value} (h : ∀ j, j < N → f j = g j) : arrV cl N f = arrV cl N g := by
  unfold arrV
  congr 1
  congr 1
  funext j
  exact h j.val j.isLt
theorem pm_g_mna {j t : Nat} {n1 k1 : Int32} (hx : p.tables.exec = Jvm.exec) (hb : co.code = cc) (hts : ∀ w ∈ pm_ws, w.before args s = true) (hown : s.vm.findClass (pm_own (pm_oc m)) = some mi.cls) (hK : pm_K D cA sa s) (hW : pm_Wd D cA b sa h H) (hSv : pm_Sv b H0 H locs)
    (hl : pm_look (pm_mnas (pm_oc m)) j = some t) (ht : t = 20 ∨ t = 21) (hac : Cond.arrayClass (pm_aty t) ∈ pm_ws) (hn : 0 ≤ n1) (hk : 0 ≤ k1) (hN : n1.toNatClampNeg ≤ 1000) (hM : k1.toNatClampNeg ≤ 1000) (hcells : c + (1 + n1.toNatClampNeg) ≤ R.cells) (hslots : k + (n1.toNatClampNeg + n1.toNatClampNeg * k1.toNatClampNeg) ≤ R.slots) (hlen : h.length < 900) (hdec : decode cc pc = .ok (.multianewarray j 2, 4))
    (kk : ∀ (H1 : Heap) (locs1 : List Loc), pm_Wd D cA b sa (h ++ (pm_rows (t + 3) n1.toNatClampNeg (h.length + 1) :: List.replicate n1.toNatClampNeg (pm_mk t k1.toNatClampNeg (if t = 20 then .int 0 else .long 0)))) H1 → pm_Sv b H0 H1 locs1 → W p l e R s mi args below meth co H1 locs1 (c + 1 + n1.toNatClampNeg) (k + n1.toNatClampNeg + n1.toNatClampNeg * k1.toNatClampNeg) Q (F0 mi (pc + 4) ls (pm_cv b sa (.ref h.length) :: r))) : W p l e R s mi args below meth co H locs c k Q (F0 mi pc ls (.int k1 :: .int n1 :: r)) := by
  have hn0 : ¬ n1 < 0 := by
    rw [Int32.le_iff_toInt_le] at hn
    rw [Int32.lt_iff_toInt_lt]
    omega
  have hk0 : ¬ k1 < 0 := by
    rw [Int32.le_iff_toInt_le] at hk
    rw [Int32.lt_iff_toInt_lt]
    omega
  generalize hNe : n1.toNatClampNeg = N at *
  generalize hMe : k1.toNatClampNeg = M at *
  have hlk := hts _ (pm_mnA _ _ (List.mem_map.mpr ⟨_, pm_look_mem hl, rfl⟩))
  have hlk2 : (Cond.classLink (pm_own (pm_oc m)) j ("[" ++ (FieldType.array (pm_aty t)).toString)).before args s = true := by
    rcases ht with rfl | rfl
    · exact hlk
    · exact hlk
  have hover : (Cond.arrayOver (.array (pm_aty t))).before args s = true := by
    rcases hK.2.2.2.1 t with h1 | h1
    · exact h1
    · exact absurd ht h1
  have hbM : M * componentBytes (pm_aty t) ≤ 536870912 := by
    have : componentBytes (pm_aty t) ≤ 8 := by rcases ht with rfl | rfl <;> decide
    calc M * componentBytes (pm_aty t) ≤ 1000 * 8 := Nat.mul_le_mul hM this
      _ ≤ 536870912 := by decide
  intro T hT Xs
  obtain ⟨vm₁, cB, comp, -, fA, fC, -, -, X', step⟩ := Xs.multianewarray2F hx hown hlk2 hover (hts _ hac) (g := F0 mi pc ls (.int k1 :: .int n1 :: r)) rfl (by rw [hb]; exact hdec) rfl hn0 hk0 (by rw [hNe]; omega) (by rw [hMe]; exact hbM) (by rw [hMe]; omega) (by rcases ht with rfl | rfl <;> rfl) (by rcases ht with rfl | rfl <;> rfl) (by rw [hNe]; exact hcells) (by rw [hNe, hMe]; exact hslots)
  rw [hNe, hMe] at X' step
  generalize hF : Jvm.Free.Multi.fill (T.setVm vm₁) cB comp N M (defaultValue (pm_aty t)) N = F at X' step
  have hTh : (T.setVm vm₁).heap = H := hT
  obtain ⟨f1, f2, -, -⟩ := Jvm.Free.Multi.fill_facts (T.setVm vm₁) cB comp N M (defaultValue (pm_aty t)) N
  rw [hF, hTh] at f1 f2
  have hold : ∀ x : Nat, x < H.size → F.heap[x]? = H[x]? := fun x hx => by
    have := Jvm.Free.Multi.fill_old (T.setVm vm₁) cB comp N M (defaultValue (pm_aty t)) (a := x) (by rw [hTh]; exact hx) N
    rw [hF, hTh] at this
    exact this
  have hrow : ∀ i : Nat, i < N → F.heap[H.size + 1 + i]? = some (Jvm.Free.Multi.innerC comp M (defaultValue (pm_aty t))) := fun i hi => by
    have := Jvm.Free.Multi.fill_inner (T.setVm vm₁) cB comp N M (defaultValue (pm_aty t)) N i hi
    rw [hF, hTh] at this
    exact this
  have hcB : cB = cA (t + 3) := by
    have h2 := (hK.2.1 (t + 3) (by omega) (by omega)).2
    rcases ht with rfl | rfl
    · exact Option.some.inj (fA.symm.trans h2)
    · exact Option.some.inj (fA.symm.trans h2)
  have hcomp : comp = cA t := by
    have h2 := (hK.2.1 t (by omega) (by omega)).2
    rcases ht with rfl | rfl
    · exact Option.some.inj (fC.symm.trans h2)
    · exact Option.some.inj (fC.symm.trans h2)
  have hadr : pm_cv b sa (.ref h.length) = .ref H.size := by
    show Value.ref (pm_ad b sa h.length) = _
    rw [pm_ad, if_pos (by omega), hW.1]
  have hWd : pm_Wd D cA b sa (h ++ (pm_rows (t + 3) N (h.length + 1) :: List.replicate N (pm_mk t M (if t = 20 then .int 0 else .long 0)))) F.heap := by
    refine hW.app (by simp; omega) (by rw [f1]; simp; omega) hold (fun i y hi => ?_)
    cases i with
    | zero =>
      rw [List.getElem?_cons_zero] at hi
      cases hi
      refine Or.inr ⟨by show 20 ≤ t + 3; omega, by show t + 3 < 25; omega, ?_⟩
      rw [show b + (h.length + 0) = H.size by rw [hW.1]; omega, f2, pm_outer, hcB]
      refine congrArg some (pm_arrV_ext (fun i hi => ?_))
      rw [if_pos hi]
      show _ = Value.ref (pm_ad b sa (h.length + 1 + i))
      rw [pm_ad, if_pos (by omega)]
      have hz := hW.1
      exact congrArg Value.ref (show H.size + 1 + i = b + (h.length + 1 + i) by omega)
    | succ i =>
      rw [List.getElem?_cons_succ] at hi
      have hil : i < N := by
        have := (List.getElem?_eq_some_iff.mp hi).1
        rwa [List.length_replicate] at this
      rw [List.getElem?_replicate_of_lt hil] at hi
      cases hi
      refine Or.inr ⟨by show 20 ≤ t; omega, by show t < 25; omega, ?_⟩
      rw [show b + (h.length + (i + 1)) = H.size + 1 + i by rw [hW.1]; omega, hrow i hil, hcomp]
      show some ({ cls := cA t, slots := Array.replicate M (defaultValue (pm_aty t)), vm := .none } : Cell) = _
      rw [arrV_new]
      refine congrArg some (pm_arrV_ext (fun i _ => ?_))
      rcases ht with rfl | rfl <;> rfl
  obtain ⟨t2, a1, b1⟩ := kk F.heap locs hWd (hSv.grow (by rw [hW.1]; omega) hold) F rfl X'
  refine ⟨t2, step t2 ?_, b1⟩
  rw [hadr] at a1
  have e : T.heap.size = H.size := by rw [hT]
  rw [e]
  exact a1
end PMD
/-! the texts' world: nothing of it is written -/
def pm_T (b : Nat) (sa : Nat → Nat) (U : State) : Prop :=
  (∀ i : Nat, i < 19 → va_O "java/lang/String" (sa (i + 1)) (fun q => b ≤ q) U U.heap ∧ va_OF "java/lang/String" "coder" "B" (.int 0) (sa (i + 1)) (fun q => b ≤ q) U U.heap ∧ va_OF "java/lang/String" "value" "[B" (.ref (sa (i + 101))) (sa (i + 1)) (fun q => b ≤ q) U U.heap ∧ va_T .byte (sa (i + 101)) (pm_stx.getD i []).length (fun j => .int ((pm_stx.getD i []).getD j 0)) (fun q => b ≤ q) U U.heap) ∧
  va_Z "java/lang/String" "COMPACT_STRINGS" "Z" (.int 1) (fun q => b ≤ q) U U.heap ∧ va_Z "jdk/internal/util/Preconditions" "SIOOBE_FORMATTER" "Ljava/util/function/BiFunction;" (if sa 201 = 0 then .null else .ref (sa 200)) (fun q => b ≤ q) U U.heap
theorem pm_T.go {b : Nat} {sa : Nat → Nat} {u U : State} (hal : u.vm.Alike U.vm) (hq : ∀ q : Nat, q < b → U.heap[q]? = u.heap[q]?) (h : pm_T b sa u) : pm_T b sa U := by
  have hk : ∀ a : Nat, a < u.heap.size → ¬ b ≤ a → U.heap[a]? = u.heap[a]? := fun a _ ha => hq a (Nat.not_le.mp ha)
  exact ⟨fun i hi => ⟨((h.1 i hi).1.kept hk).moved hal, ((h.1 i hi).2.1.kept hk).moved hal, ((h.1 i hi).2.2.1.kept hk).moved hal, ((h.1 i hi).2.2.2.kept hk).moved hal⟩, (h.2.1.kept hk).moved hal, (h.2.2.kept hk).moved hal⟩
theorem pm_T.call {b : Nat} {sa : Nat → Nat} {U : State} {g : JFrame} {mk : MethodId} {a : Array Value} (h : pm_T b sa U) : pm_T b sa (U.calling g mk a) := h.go (Vm.Alike.refl U.vm) (fun _ _ => rfl)
theorem pm_ad_tx (b : Nat) (sa : Nat → Nat) {q : Nat} (h : 2000 ≤ q) : pm_ad b sa q = sa (q - 2000) := by
  unfold pm_ad
  rw [if_neg (by omega)]
section PMX
variable {p : Program} {l : Launch} {e : Env} {R : Room} {s : State} {mi : MethodId} {args : Array Value} {below : List Frame} {meth : Method} {co : Code} {H : Heap} {locs : List Loc} {Q : State → Prop}
variable {b : Nat} {sa : Nat → Nat} {m pc j q c k : Nat} {r : List Value} {ls : Array Slot} {cc : ByteArray}
theorem pm_x_val (hx : p.tables.exec = Jvm.exec) (hb : co.code = cc) (hts : ∀ w ∈ pm_ws, w.before args s = true) (hown : s.vm.findClass (pm_own (pm_oc m)) = some mi.cls) (hT : pm_T b sa s) (hSv : pm_Sv b s.heap H locs) (hl : pm_look (pm_xfl (pm_oc m)) j = some 0) (h1 : 2001 ≤ q) (h2 : q < 2020) (hdec : decode cc pc = .ok (.getfield j, 3))
    (kk : W p l e R s mi args below meth co H locs c k Q (F0 mi (pc + 3) ls (pm_cv b sa (.ref (q + 100)) :: r))) : W p l e R s mi args below meth co H locs c k Q (F0 mi pc ls (pm_cv b sa (.ref q) :: r)) := by
  have hlk := hts _ (pm_xfA _ _ (List.mem_map.mpr ⟨_, pm_look_mem hl, rfl⟩))
  obtain ⟨i, rfl⟩ : ∃ i : Nat, q = 2001 + i := ⟨q - 2001, by omega⟩
  obtain ⟨cf, kf, fi, f, cell, g1, g2, g3, g4, g5, -⟩ := (hT.1 i (by omega)).2.2.1.kept (fun a _ ha => hSv.1 a (Nat.not_le.mp ha))
  have e1 : pm_cv b sa (.ref (2001 + i)) = .ref (sa (i + 1)) := congrArg Value.ref ((pm_ad_tx b sa (by omega)).trans (congrArg sa (by omega)))
  have e2 : pm_cv b sa (.ref (2001 + i + 100)) = .ref (sa (i + 101)) := congrArg Value.ref ((pm_ad_tx b sa (by omega)).trans (congrArg sa (by omega)))
  rw [e1]
  rw [e2] at kk
  exact W.getf hx hb hown hlk g1 g2 g3 g4 (v := .ref (sa (i + 101))) g5 rfl rfl hdec kk
theorem pm_x_cod (hx : p.tables.exec = Jvm.exec) (hb : co.code = cc) (hts : ∀ w ∈ pm_ws, w.before args s = true) (hown : s.vm.findClass (pm_own (pm_oc m)) = some mi.cls) (hT : pm_T b sa s) (hSv : pm_Sv b s.heap H locs) (hl : pm_look (pm_xfl (pm_oc m)) j = some 1) (h1 : 2001 ≤ q) (h2 : q < 2020) (hdec : decode cc pc = .ok (.getfield j, 3))
    (kk : W p l e R s mi args below meth co H locs c k Q (F0 mi (pc + 3) ls (.int 0 :: r))) : W p l e R s mi args below meth co H locs c k Q (F0 mi pc ls (pm_cv b sa (.ref q) :: r)) := by
  have hlk := hts _ (pm_xfA _ _ (List.mem_map.mpr ⟨_, pm_look_mem hl, rfl⟩))
  obtain ⟨i, rfl⟩ : ∃ i : Nat, q = 2001 + i := ⟨q - 2001, by omega⟩
  obtain ⟨cf, kf, fi, f, cell, g1, g2, g3, g4, g5, -⟩ := (hT.1 i (by omega)).2.1.kept (fun a _ ha => hSv.1 a (Nat.not_le.mp ha))
  have e1 : pm_cv b sa (.ref (2001 + i)) = .ref (sa (i + 1)) := congrArg Value.ref ((pm_ad_tx b sa (by omega)).trans (congrArg sa (by omega)))
  rw [e1]
  exact W.getf hx hb hown hlk g1 g2 g3 g4 (v := .int 0) g5 rfl rfl hdec kk
theorem pm_x_st0 (hx : p.tables.exec = Jvm.exec) (hb : co.code = cc) (hts : ∀ w ∈ pm_ws, w.before args s = true) (hown : s.vm.findClass (pm_own (pm_oc m)) = some mi.cls) (hT : pm_T b sa s) (hSv : pm_Sv b s.heap H locs) (hl : pm_look (pm_xst (pm_oc m)) j = some 0) (hdec : decode cc pc = .ok (.getstatic j, 3))
    (kk : W p l e R s mi args below meth co H locs c k Q (F0 mi (pc + 3) ls (.int 1 :: r))) : W p l e R s mi args below meth co H locs c k Q (F0 mi pc ls r) := by
  have hlk := hts _ (pm_xsA _ _ (List.mem_map.mpr ⟨_, pm_look_mem hl, rfl⟩))
  obtain ⟨cf, kf, fi, f, a, cell, g1, g2, g3, g4, g5, g6, g7, -⟩ := hT.2.1.kept (fun a _ ha => hSv.1 a (Nat.not_le.mp ha))
  exact W.gets hx hb hown hlk g1 g2 g3 g4 g5 (fun z => by rw [z] at g6; cases g6) g7 rfl hdec kk
theorem pm_x_st1 (hx : p.tables.exec = Jvm.exec) (hb : co.code = cc) (hts : ∀ w ∈ pm_ws, w.before args s = true) (hown : s.vm.findClass (pm_own (pm_oc m)) = some mi.cls) (hT : pm_T b sa s) (hSv : pm_Sv b s.heap H locs) (hl : pm_look (pm_xst (pm_oc m)) j = some 1) (hdec : decode cc pc = .ok (.getstatic j, 3))
    (kk : W p l e R s mi args below meth co H locs c k Q (F0 mi (pc + 3) ls (pm_cv b sa (.retAddr 0) :: r))) : W p l e R s mi args below meth co H locs c k Q (F0 mi pc ls r) := by
  have hlk := hts _ (pm_xsA _ _ (List.mem_map.mpr ⟨_, pm_look_mem hl, rfl⟩))
  obtain ⟨cf, kf, fi, f, a, cell, g1, g2, g3, g4, g5, g6, g7, -⟩ := hT.2.2.kept (fun a _ ha => hSv.1 a (Nat.not_le.mp ha))
  exact W.gets hx hb hown hlk g1 g2 g3 g4 g5 (fun z => by rw [z] at g6; cases g6) g7 rfl hdec kk
theorem pm_x_txt {q : Nat} {t : List Int32} (hq : pm_stx[q]? = some t) : q < 19 ∧ pm_stx.getD q [] = t := by
  refine ⟨(List.getElem?_eq_some_iff.mp hq).1, ?_⟩
  rw [List.getD_eq_getElem?_getD, hq]
  rfl
theorem pm_x_len {t : List Int32} (hx : p.tables.exec = Jvm.exec) (hb : co.code = cc) (hT : pm_T b sa s) (hSv : pm_Sv b s.heap H locs) (h1 : 2101 ≤ q) (hq : pm_stx[q - 2101]? = some t) (hdec : decode cc pc = .ok (.arraylength, 1))
    (kk : W p l e R s mi args below meth co H locs c k Q (F0 mi (pc + 1) ls (.int (Int32.ofNat t.length) :: r))) : W p l e R s mi args below meth co H locs c k Q (F0 mi pc ls (pm_cv b sa (.ref q) :: r)) := by
  obtain ⟨i, rfl⟩ : ∃ i : Nat, q = 2101 + i := ⟨q - 2101, by omega⟩
  rw [show 2101 + i - 2101 = i by omega] at hq
  obtain ⟨hi, ht⟩ := pm_x_txt hq
  have hA := (hT.1 i hi).2.2.2.kept (fun a _ ha => hSv.1 a (Nat.not_le.mp ha))
  rw [ht] at hA
  obtain ⟨cell, g1, g2, g3, g4, g5, g6, -⟩ := hA
  have e1 : pm_cv b sa (.ref (2101 + i)) = .ref (sa (i + 101)) := congrArg Value.ref ((pm_ad_tx b sa (by omega)).trans (congrArg sa (by omega)))
  rw [e1]
  exact W.alen hx hb g1 g2 g5 rfl rfl hdec kk
theorem pm_x_bald {t : List Int32} {x : Int32} (hx : p.tables.exec = Jvm.exec) (hb : co.code = cc) (hT : pm_T b sa s) (hSv : pm_Sv b s.heap H locs) (h1 : 2101 ≤ q) (hq : pm_stx[q - 2101]? = some t) (hj : pm_ix x t.length = true) (hdec : decode cc pc = .ok (.baload, 1))
    (kk : W p l e R s mi args below meth co H locs c k Q (F0 mi (pc + 1) ls (.int (t.getD x.toNatClampNeg 0) :: r))) : W p l e R s mi args below meth co H locs c k Q (F0 mi pc ls (.int x :: pm_cv b sa (.ref q) :: r)) := by
  obtain ⟨i, rfl⟩ : ∃ i : Nat, q = 2101 + i := ⟨q - 2101, by omega⟩
  rw [show 2101 + i - 2101 = i by omega] at hq
  obtain ⟨hi, ht⟩ := pm_x_txt hq
  have hA := (hT.1 i hi).2.2.2.kept (fun a _ ha => hSv.1 a (Nat.not_le.mp ha))
  rw [ht] at hA
  obtain ⟨cell, g1, g2, g3, g4, g5, g6, -⟩ := hA
  have e1 : pm_cv b sa (.ref (2101 + i)) = .ref (sa (i + 101)) := congrArg Value.ref ((pm_ad_tx b sa (by omega)).trans (congrArg sa (by omega)))
  rw [e1]
  refine W.bald hx hb g1 g2 g3 (fun z => ?_) (g6 _ (pm_ix_lt hj)) rfl rfl hdec kk
  rcases z with z | z
  · exact pm_ix_ok hj (Or.inl z)
  · exact pm_ix_ok hj (Or.inr (Nat.le_trans g4 z))
end PMX
section PME
variable {p : Program} {l : Launch} {e : Env} {R : Room} {s : State} {mi : MethodId} {args : Array Value} {below : List Frame} {meth : Method} {co : Code} {H H0 : Heap} {locs : List Loc} {Q : State → Prop}
variable {D : va_G} {cA : Nat → ClassId} {b : Nat} {sa : Nat → Nat} {m pc len : Nat} {lv lv' : pmL} {st st' : List Value} {h h' : pmH} {c k c' k' pc' : Nat} {ls : Array Slot} {cc : ByteArray} {X : pmX}
theorem pm_acI : Cond.arrayClass (pm_aty 20) ∈ pm_ws := pm_wsin (List.mem_of_getElem? (i := 130) (by decide +kernel)) rfl
theorem pm_acJ : Cond.arrayClass (pm_aty 21) ∈ pm_ws := pm_wsin (List.mem_of_getElem? (i := 302) (by decide +kernel)) rfl
theorem pm_acZ : Cond.arrayClass (pm_aty 22) ∈ pm_ws := pm_wsin (List.mem_of_getElem? (i := 433) (by decide +kernel)) rfl
theorem pm_ad_str (b : Nat) (sa : Nat → Nat) (y : Nat) : pm_ad b sa (y + 2001) = sa (y + 1) := by
  unfold pm_ad
  rw [if_neg (by omega), show y + 2001 - 2000 = y + 1 by omega]
theorem pm_ad_scr (b : Nat) (sa : Nat → Nat) : pm_ad b sa 2000 = sa 0 := by
  unfold pm_ad
  rw [if_neg (by omega), Nat.sub_self]
set_option maxHeartbeats 4000000 in
set_option maxRecDepth 100000 in
theorem pm_stB {i : Instr} (hTx : pm_T b sa s) (hx : p.tables.exec = Jvm.exec) (hb : co.code = cc) (hts : ∀ w ∈ pm_ws, w.before args s = true) (hown : s.vm.findClass (pm_own (pm_oc m)) = some mi.cls) (hK : pm_K D cA sa s)
    (hX : ∀ x, X = some x → va_X (sa 0) x.1 x.2 s s.heap) (hsb : sa 0 < b) (hRc : pm_mc m ≤ R.cells) (hRs : pm_ms m ≤ R.slots) (hin : pm_in m = 1 → meth.name = "<init>")
    (hdec : decode cc pc = .ok (i, pm_len i len)) (hW : pm_Wd D cA b sa h H) (hSv : pm_Sv b s.heap H locs)
    (hs : pm_stepB X m i pc lv st h c k = some (pc', lv', st', h', c', k')) :
    (lv' = lv ∧ (c ≤ pm_mc m → c' ≤ pm_mc m) ∧ (k ≤ pm_ms m → k' ≤ pm_ms m)) ∧ ((∀ (H1 : Heap) (locs1 : List Loc), pm_Wd D cA b sa h' H1 → pm_Sv b s.heap H1 locs1 → W p l e R s mi args below meth co H1 locs1 c' k' Q (F0 mi pc' ls (pm_cs b sa st'))) → W p l e R s mi args below meth co H locs c k Q (F0 mi pc ls (pm_cs b sa st))) := by
  have hXH : ∀ x, X = some x → va_X (sa 0) x.1 x.2 s H := fun x hx0 => (hX x hx0).kept (hSv.1 _ hsb)
  cases i
  case tableswitch dflt lo hi offs =>
    simp only [pm_stepB] at hs; split at hs
    · next x r =>
      split at hs
      · next hc => split at hs
                   · next t ht => cases hs; exact ⟨⟨rfl, id, id⟩, fun hk => lv_tableOut hx hb hdec hc (pm_tgt_ok ht) (hk _ _ hW hSv)⟩
                   · cases hs
      · next hc => split at hs
                   · next off hoff =>
                     split at hs
                     · next t ht => cases hs; exact ⟨⟨rfl, id, id⟩, fun hk => lv_tableIn hx hb hdec (fun q => hc (Or.inl q)) (fun q => hc (Or.inr q)) hoff (pm_tgt_ok ht) (hk _ _ hW hSv)⟩
                     · cases hs
                   · cases hs
    · cases hs
  case lookupswitch dflt ps =>
    simp only [pm_stepB] at hs; split at hs
    · next x r =>
      split at hs
      · next hc => split at hs
                   · next t ht => cases hs; exact ⟨⟨rfl, id, id⟩, fun hk => lv_lookup hx hb hdec hc rfl (pm_tgt_ok ht) (hk _ _ hW hSv)⟩
                   · cases hs
      · cases hs
    · cases hs
  case ldc j =>
    simp only [pm_stepB] at hs; split at hs
    · next x hg =>
      cases hs
      have hw := hts _ (pm_kA _ _ (List.mem_flatMap.mpr ⟨_, pm_look_mem hg, List.mem_singleton.mpr rfl⟩))
      exact ⟨⟨rfl, id, id⟩, fun hk => lv_ldc hx hb hown hw hdec (hk _ _ hW hSv)⟩
    · next x hg =>
      cases hs
      have hw := pm_kB _ _ (pm_look_mem hg)
      simp only [pm_chk, Bool.and_eq_true, decide_eq_true_eq] at hw
      obtain ⟨h1, h2⟩ := hw
      obtain ⟨y, rfl⟩ : ∃ y : Nat, x = y + 2001 := ⟨x - 2001, (Nat.sub_add_cancel h1).symm⟩
      split at h2
      · next q hq =>
        have h2 := of_decide_eq_true h2
        rw [Nat.add_sub_cancel] at hq
        have hv := hK.2.2.2.2 _ _ hq
        rw [h2.1, h2.2] at hv
        refine ⟨⟨rfl, id, id⟩, fun hk => va_ldcS hx hb hown hv hdec ?_⟩
        have := hk _ _ hW hSv
        rw [show pm_cs b sa (Value.ref (y + 2001) :: st) = .ref (sa (y + 1)) :: pm_cs b sa st from congrArg (fun z => Value.ref z :: pm_cs b sa st) (pm_ad_str b sa y)] at this
        exact this
      · cases h2
    · cases hs
  case ldc_w j =>
    simp only [pm_stepB] at hs; split at hs
    · next x hg =>
      cases hs
      have hw := hts _ (pm_kA _ _ (List.mem_flatMap.mpr ⟨_, pm_look_mem hg, List.mem_singleton.mpr rfl⟩))
      exact ⟨⟨rfl, id, id⟩, fun hk => lv_ldcw hx hb hown hw hdec (hk _ _ hW hSv)⟩
    · cases hs
  case ldc2_w j =>
    simp only [pm_stepB] at hs; split at hs
    · next x hg =>
      cases hs
      have hw := hts _ (pm_kA _ _ (List.mem_flatMap.mpr ⟨_, pm_look_mem hg, List.mem_singleton.mpr rfl⟩))
      exact ⟨⟨rfl, id, id⟩, fun hk => lv_ldc2 hx hb hown hw hdec (hk _ _ hW hSv)⟩
    · cases hs
  case getstatic j =>
    simp only [pm_stepB] at hs; split at hs
    · next hl => cases hs; exact ⟨⟨rfl, id, id⟩, fun hk => pm_x_st0 hx hb hts hown hTx hSv hl hdec (hk _ _ hW hSv)⟩
    · next hl => cases hs; exact ⟨⟨rfl, id, id⟩, fun hk => pm_x_st1 hx hb hts hown hTx hSv hl hdec (hk _ _ hW hSv)⟩
    · cases hs
  case getfield j =>
    simp only [pm_stepB] at hs; split at hs
    · next q r =>
      split at hs
      · next h2001 =>
        split at hs
        · next h2020 =>
          split at hs
          · next hl => cases hs; exact ⟨⟨rfl, id, id⟩, fun hk => pm_x_val hx hb hts hown hTx hSv hl h2001 h2020 hdec (hk _ _ hW hSv)⟩
          · next hl => cases hs; exact ⟨⟨rfl, id, id⟩, fun hk => pm_x_cod hx hb hts hown hTx hSv hl h2001 h2020 hdec (hk _ _ hW hSv)⟩
          · cases hs
        · cases hs
      · split at hs
        · next ci f t n g hf hq =>
          split at hs
          · next he => cases hs; subst he; exact ⟨⟨rfl, id, id⟩, fun hk => pm_g_get hx hb hts hown hK hW hf hq hdec (hk _ _ hW hSv)⟩
          · cases hs
        · cases hs
    · cases hs
  case putfield j =>
    simp only [pm_stepB] at hs; split at hs
    · next v q r =>
      split at hs
      · next ci f t n g hf hq =>
        split at hs
        · next he =>
          obtain ⟨he, hv, hfi⟩ := he
          cases hs; subst he
          exact ⟨⟨rfl, id, id⟩, fun hk => pm_g_put hx hb hts hown hK hW hSv hf hq hv (hfi.imp id (fun z => ⟨hin z.1, z.2⟩)) hdec (fun H1 l1 a1 a2 => hk H1 l1 a1 a2)⟩
        · cases hs
      · cases hs
    · cases hs
  case iaload =>
    simp only [pm_stepB] at hs; split at hs
    · next j q r =>
      split at hs
      · next hq => split at hs
                   · next x => split at hs
                               · next hj =>
                                 cases hs; subst hq
                                 refine ⟨⟨rfl, id, id⟩, fun hk => ?_⟩
                                 obtain ⟨scr, x1, x2, x3, x4, x5⟩ := hXH x rfl
                                 have k1 := hk _ _ hW hSv
                                 rw [show pm_cs b sa (Value.int j :: Value.ref 2000 :: r) = .int j :: .ref (sa 0) :: pm_cs b sa r from congrArg (fun z => Value.int j :: Value.ref z :: pm_cs b sa r) (pm_ad_scr b sa)]
                                 exact W.iald hx hb x1 x2 x3 (by rw [x4]; exact pm_ix_ok hj) (x5 _ (pm_ix_lt hj)) rfl rfl hdec k1
                               · cases hs
                   · cases hs
      · next hq => split at hs
                   · next t n f hf => split at hs
                                      · next hc => obtain ⟨rfl, hj⟩ := hc; cases hs; exact ⟨⟨rfl, id, id⟩, fun hk => pm_g_iald hx hb hK hW hf hj hdec (hk _ _ hW hSv)⟩
                                      · cases hs
                   · cases hs
    · cases hs
  case laload =>
    simp only [pm_stepB] at hs; split at hs
    · next j q r =>
      split at hs
      · next t n f hf => split at hs
                         · next hc => obtain ⟨rfl, hj⟩ := hc; cases hs; exact ⟨⟨rfl, id, id⟩, fun hk => pm_g_lald hx hb hK hW hf hj hdec (hk _ _ hW hSv)⟩
                         · cases hs
      · cases hs
    · cases hs
  case baload =>
    simp only [pm_stepB] at hs; split at hs
    · next j q r =>
      split at hs
      · next h2101 =>
        split at hs
        · next t ht =>
          split at hs
          · next hj => cases hs; exact ⟨⟨rfl, id, id⟩, fun hk => pm_x_bald hx hb hTx hSv h2101 ht hj hdec (hk _ _ hW hSv)⟩
          · cases hs
        · cases hs
      · split at hs
        · next t n f hf => split at hs
                           · next hc => obtain ⟨rfl, hj⟩ := hc; cases hs; exact ⟨⟨rfl, id, id⟩, fun hk => pm_g_zald hx hb hK hW hf hj hdec (hk _ _ hW hSv)⟩
                           · cases hs
        · cases hs
    · cases hs
  case aaload =>
    simp only [pm_stepB] at hs; split at hs
    · next j q r =>
      split at hs
      · next t n f hf => split at hs
                         · next hc => obtain ⟨ht, hj⟩ := hc; cases hs; exact ⟨⟨rfl, id, id⟩, fun hk => pm_g_aald hx hb hK hW hf ht hj hdec (hk _ _ hW hSv)⟩
                         · cases hs
      · cases hs
    · cases hs
  case iastore =>
    simp only [pm_stepB] at hs; split at hs
    · next x j q r =>
      split at hs
      · next t n f hf => split at hs
                         · next hc => obtain ⟨rfl, hj⟩ := hc; cases hs; exact ⟨⟨rfl, id, id⟩, fun hk => pm_g_iast hx hb hK hW hSv hf hj hdec (fun H1 l1 a1 a2 => hk H1 l1 a1 a2)⟩
                         · cases hs
      · cases hs
    · cases hs
  case lastore =>
    simp only [pm_stepB] at hs; split at hs
    · next x j q r =>
      split at hs
      · next t n f hf => split at hs
                         · next hc => obtain ⟨rfl, hj⟩ := hc; cases hs; exact ⟨⟨rfl, id, id⟩, fun hk => pm_g_last hx hb hK hW hSv hf hj hdec (fun H1 l1 a1 a2 => hk H1 l1 a1 a2)⟩
                         · cases hs
      · cases hs
    · cases hs
  case bastore =>
    simp only [pm_stepB] at hs; split at hs
    · next x j q r =>
      split at hs
      · next t n f hf => split at hs
                         · next hc => obtain ⟨rfl, hj⟩ := hc; cases hs; exact ⟨⟨rfl, id, id⟩, fun hk => pm_g_zast hx hb hK hW hSv hf hj hdec (fun H1 l1 a1 a2 => hk H1 l1 a1 a2)⟩
                         · cases hs
      · cases hs
    · cases hs
  case arraylength =>
    simp only [pm_stepB] at hs; split at hs
    · next q r =>
      split at hs
      · next hq =>
        split at hs
        · next x =>
          cases hs; subst hq
          refine ⟨⟨rfl, id, id⟩, fun hk => ?_⟩
          obtain ⟨scr, x1, x2, x3, x4, x5⟩ := hXH x rfl
          have k1 := hk _ _ hW hSv
          rw [show pm_cs b sa (Value.ref 2000 :: r) = .ref (sa 0) :: pm_cs b sa r from congrArg (fun z => Value.ref z :: pm_cs b sa r) (pm_ad_scr b sa)]
          exact W.alen hx hb x1 x2 (by rw [x4]) rfl rfl hdec k1
        · cases hs
      · next hq => split at hs
                   · next h2101 =>
                     split at hs
                     · next t ht => cases hs; exact ⟨⟨rfl, id, id⟩, fun hk => pm_x_len hx hb hTx hSv h2101 ht hdec (hk _ _ hW hSv)⟩
                     · cases hs
                   · split at hs
                     · next t n f hf => split at hs
                                        · next ht => cases hs; exact ⟨⟨rfl, id, id⟩, fun hk => pm_g_alen hx hb hK hW hf ht hdec (hk _ _ hW hSv)⟩
                                        · cases hs
                     · cases hs
    · cases hs
  case new j =>
    simp only [pm_stepB] at hs; split at hs
    · next ci hn =>
      split at hs
      · next q hq =>
        split at hs
        · next hc =>
          cases hs
          exact ⟨⟨rfl, fun _ => hc.1, fun _ => hc.2.1⟩, fun hk => pm_g_new hx hb hts hown hK hW hSv hn hq (Nat.le_trans hc.1 hRc) (Nat.le_trans hc.2.1 hRs) hc.2.2 hdec (fun H1 l1 a1 a2 => hk H1 l1 a1 a2)⟩
        · cases hs
      · cases hs
    · cases hs
  case newarray ty =>
    simp only [pm_stepB] at hs; split at hs
    · next n r =>
      split at hs
      · next hc =>
        obtain ⟨h1, h2, h3, h4, h5⟩ := hc
        cases ty <;> simp only at hs
        case int => cases hs; exact ⟨⟨rfl, fun _ => h3, fun _ => h4⟩, fun hk => pm_g_newa (t := 20) hx hb hts hK hW hSv (by decide) rfl pm_acI rfl h1 rfl h2 (Nat.le_trans h3 hRc) (Nat.le_trans h4 hRs) h5 hdec (fun H1 l1 a1 a2 => hk H1 l1 a1 a2)⟩
        case long => cases hs; exact ⟨⟨rfl, fun _ => h3, fun _ => h4⟩, fun hk => pm_g_newa (t := 21) hx hb hts hK hW hSv (by decide) rfl pm_acJ rfl h1 rfl h2 (Nat.le_trans h3 hRc) (Nat.le_trans h4 hRs) h5 hdec (fun H1 l1 a1 a2 => hk H1 l1 a1 a2)⟩
        case boolean => cases hs; exact ⟨⟨rfl, fun _ => h3, fun _ => h4⟩, fun hk => pm_g_newa (t := 22) hx hb hts hK hW hSv (by decide) rfl pm_acZ rfl h1 rfl h2 (Nat.le_trans h3 hRc) (Nat.le_trans h4 hRs) h5 hdec (fun H1 l1 a1 a2 => hk H1 l1 a1 a2)⟩
        all_goals cases hs
      · cases hs
    · cases hs
  case multianewarray j d =>
    simp only [pm_stepB] at hs; split at hs
    · next k1 n1 r =>
      split at hs
      · next t hl =>
        split at hs
        · next hc =>
          obtain ⟨rfl, h1, h2, h3, h4, h5, h6, h7, h8⟩ := hc
          cases hs
          refine ⟨⟨rfl, fun _ => by omega, fun _ => by omega⟩, fun hk => pm_g_mna hx hb hts hown hK hW hSv hl h8 ?_ h1 h2 h3 h4 (Nat.le_trans h5 hRc) (Nat.le_trans h6 hRs) h7 hdec (fun H1 l1 a1 a2 => hk H1 l1 a1 a2)⟩
          rcases h8 with rfl | rfl
          · exact pm_acI
          · exact pm_acJ
        · cases hs
      · cases hs
    · cases hs
  all_goals exact absurd hs (by simp [pm_stepB])
end PME
