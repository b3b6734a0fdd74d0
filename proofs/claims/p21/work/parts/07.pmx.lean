/-- switches, constants, fields, arrays, makings -/
def pm_upd (f : Nat → Value) (i : Nat) (v : Value) : Nat → Value := fun j => if j = i then v else f j
def pm_okv (ty : FieldType) (v : Value) : Bool := decide (narrow ty v = v) && fits ty v
def pm_mk (t n : Nat) (v : Value) : pmC := (t, n, fun _ => v)
def pm_rows (t n b : Nat) : pmC := (t, n, fun i => .ref (b + i))
def pm_obj (ci n : Nat) : pmC := (ci, n, fun f => defaultValue (pm_ty ci f))
def pm_stepB (X : pmX) (m : Nat) (i : Instr) (pc : Nat) (ls : pmL) (st : List Value) (h : pmH) (c k : Nat) : Option pmS :=
  match i with
  | .tableswitch dflt lo hi offs => match st with
    | .int x :: r =>
      if x.toInt < lo ∨ hi < x.toInt then (match pm_tgt pc dflt with
        | some t => some (t, ls, r, h, c, k)
        | none => none)
      else match offs[(x.toInt - lo).toNat]? with
        | some off => (match pm_tgt pc off with
          | some t => some (t, ls, r, h, c, k)
          | none => none)
        | none => none
    | _ => none
  | .lookupswitch dflt ps => match st with
    | .int x :: r =>
      if (ps.toList.zip (ps.toList.drop 1)).all (fun (a, next) => a.1 < next.1) = true then (match pm_tgt pc (Op.lookupswitch.offset ps.toList dflt x.toInt) with
        | some t => some (t, ls, r, h, c, k)
        | none => none)
      else none
    | _ => none
  | .ldc j => match pm_look (pm_cons (pm_oc m)) j with
    | some (.int x) => some (pc + 2, ls, .int x :: st, h, c, k)
    | some (.ref x) => some (pc + 2, ls, .ref x :: st, h, c, k)
    | _ => none
  | .ldc_w j => match pm_look (pm_cons (pm_oc m)) j with
    | some (.int x) => some (pc + 3, ls, .int x :: st, h, c, k)
    | _ => none
  | .ldc2_w j => match pm_look (pm_cons (pm_oc m)) j with
    | some (.long x) => some (pc + 3, ls, .long x :: st, h, c, k)
    | _ => none
  | .getstatic j => match pm_look (pm_xst (pm_oc m)) j with
    | some 0 => some (pc + 3, ls, .int 1 :: st, h, c, k)
    | some 1 => some (pc + 3, ls, .retAddr 0 :: st, h, c, k)
    | _ => none
  | .getfield j => match st with
    | .ref q :: r =>
      if 2001 ≤ q then (if q < 2020 then (match pm_look (pm_xfl (pm_oc m)) j with
        | some 0 => some (pc + 3, ls, .ref (q + 100) :: r, h, c, k)
        | some 1 => some (pc + 3, ls, .int 0 :: r, h, c, k)
        | _ => none) else none)
      else match pm_fld m j, h[q]? with
      | some (ci, f), some (t, _, g) => if ci = t then some (pc + 3, ls, g f :: r, h, c, k) else none
      | _, _ => none
    | _ => none
  | .putfield j => match st with
    | v :: .ref q :: r => match pm_fld m j, h[q]? with
      | some (ci, f), some (t, n, g) =>
        if ci = t ∧ pm_okv (pm_ty ci f) v = true ∧ ((pm_fin ci f = false) ∨ (pm_in m = 1 ∧ ci = pm_oc m)) then some (pc + 3, ls, r, h.set q (t, n, pm_upd g f v), c, k) else none
      | _, _ => none
    | _ => none
  | .iaload => match st with
    | .int j :: .ref q :: r =>
      if q = 2000 then (match X with
        | some x => if pm_ix j x.1 = true then some (pc + 1, ls, .int (x.2 j.toNatClampNeg) :: r, h, c, k) else none
        | none => none)
      else match h[q]? with
        | some (t, n, f) => if t = 20 ∧ pm_ix j n = true then some (pc + 1, ls, f j.toNatClampNeg :: r, h, c, k) else none
        | none => none
    | _ => none
  | .laload => match st with
    | .int j :: .ref q :: r => match h[q]? with
      | some (t, n, f) => if t = 21 ∧ pm_ix j n = true then some (pc + 1, ls, f j.toNatClampNeg :: r, h, c, k) else none
      | none => none
    | _ => none
  | .baload => match st with
    | .int j :: .ref q :: r =>
      if 2101 ≤ q then (match pm_stx[q - 2101]? with
        | some t => if pm_ix j t.length = true then some (pc + 1, ls, .int (t.getD j.toNatClampNeg 0) :: r, h, c, k) else none
        | none => none)
      else match h[q]? with
      | some (t, n, f) => if t = 22 ∧ pm_ix j n = true then some (pc + 1, ls, f j.toNatClampNeg :: r, h, c, k) else none
      | none => none
    | _ => none
  | .aaload => match st with
    | .int j :: .ref q :: r => match h[q]? with
      | some (t, n, f) => if (t = 23 ∨ t = 24) ∧ pm_ix j n = true then some (pc + 1, ls, f j.toNatClampNeg :: r, h, c, k) else none
      | none => none
    | _ => none
  | .iastore => match st with
    | .int x :: .int j :: .ref q :: r => match h[q]? with
      | some (t, n, f) => if t = 20 ∧ pm_ix j n = true then some (pc + 1, ls, r, h.set q (t, n, pm_upd f j.toNatClampNeg (.int x)), c, k) else none
      | none => none
    | _ => none
  | .lastore => match st with
    | .long x :: .int j :: .ref q :: r => match h[q]? with
      | some (t, n, f) => if t = 21 ∧ pm_ix j n = true then some (pc + 1, ls, r, h.set q (t, n, pm_upd f j.toNatClampNeg (.long x)), c, k) else none
      | none => none
    | _ => none
  | .bastore => match st with
    | .int x :: .int j :: .ref q :: r => match h[q]? with
      | some (t, n, f) => if t = 22 ∧ pm_ix j n = true then some (pc + 1, ls, r, h.set q (t, n, pm_upd f j.toNatClampNeg (.int (x &&& 1))), c, k) else none
      | none => none
    | _ => none
  | .arraylength => match st with
    | .ref q :: r =>
      if q = 2000 then (match X with
        | some x => some (pc + 1, ls, .int (Int32.ofNat x.1) :: r, h, c, k)
        | none => none)
      else if 2101 ≤ q then (match pm_stx[q - 2101]? with
        | some t => some (pc + 1, ls, .int (Int32.ofNat t.length) :: r, h, c, k)
        | none => none)
      else match h[q]? with
        | some (t, n, _) => if t = 20 ∨ t = 21 then some (pc + 1, ls, .int (Int32.ofNat n) :: r, h, c, k) else none
        | none => none
    | _ => none
  | .new j => match pm_look (pm_news (pm_oc m)) j with
    | some ci => match pm_cl[ci]? with
      | some q => if c + 1 ≤ pm_mc m ∧ k + q.2.2 ≤ pm_ms m ∧ h.length < 900 then some (pc + 3, ls, .ref h.length :: st, h ++ [pm_obj ci q.2.2], c + 1, k + q.2.2) else none
      | none => none
    | none => none
  | .newarray ty => match st with
    | .int n :: r =>
      if 0 ≤ n ∧ n.toNatClampNeg ≤ 100000 ∧ c + 1 ≤ pm_mc m ∧ k + n.toNatClampNeg ≤ pm_ms m ∧ h.length < 900 then (match ty with
        | .int => some (pc + 2, ls, .ref h.length :: r, h ++ [pm_mk 20 n.toNatClampNeg (.int 0)], c + 1, k + n.toNatClampNeg)
        | .long => some (pc + 2, ls, .ref h.length :: r, h ++ [pm_mk 21 n.toNatClampNeg (.long 0)], c + 1, k + n.toNatClampNeg)
        | .boolean => some (pc + 2, ls, .ref h.length :: r, h ++ [pm_mk 22 n.toNatClampNeg (.int 0)], c + 1, k + n.toNatClampNeg)
        | _ => none)
      else none
    | _ => none
  | .multianewarray j d => match st with
    | .int k1 :: .int n1 :: r => match pm_look (pm_mnas (pm_oc m)) j with
      | some t =>
        if d = 2 ∧ 0 ≤ n1 ∧ 0 ≤ k1 ∧ n1.toNatClampNeg ≤ 1000 ∧ k1.toNatClampNeg ≤ 1000 ∧ c + (1 + n1.toNatClampNeg) ≤ pm_mc m ∧ k + (n1.toNatClampNeg + n1.toNatClampNeg * k1.toNatClampNeg) ≤ pm_ms m ∧ h.length < 900 ∧ (t = 20 ∨ t = 21) then
          some (pc + 4, ls, .ref h.length :: r, h ++ (pm_rows (t + 3) n1.toNatClampNeg (h.length + 1) :: List.replicate n1.toNatClampNeg (pm_mk t k1.toNatClampNeg (if t = 20 then .int 0 else .long 0))), c + 1 + n1.toNatClampNeg, k + n1.toNatClampNeg + n1.toNatClampNeg * k1.toNatClampNeg)
        else none
      | none => none
    | _ => none
  | _ => none
def pm_step (X : pmX) (m : Nat) (i : Instr) (pc : Nat) (ls : pmL) (st : List Value) (h : pmH) (c k : Nat) : Option pmS :=
  match pm_stepA m i pc ls st h c k with
  | some r => some r
  | none => pm_stepB X m i pc ls st h c k
/-- the end of a method -/
def pm_end (m : Nat) (i : Instr) (st : List Value) : Option (Option Value) :=
  match i with
  | .ireturn => match st, pm_ret m with
    | [.int v], some .int => some (some (.int v))
    | [.int v], some .boolean => if v &&& 1 = v then some (some (.int v)) else none
    | [.int v], some .byte => if narrow .byte (.int v) = .int v then some (some (.int v)) else none
    | [.int v], some .char => if narrow .char (.int v) = .int v then some (some (.int v)) else none
    | _, _ => none
  | .lreturn => match st, pm_ret m with
    | [.long v], some .long => some (some (.long v))
    | _, _ => none
  | .return_ => match st, pm_ret m with
    | [], none => some none
    | _, _ => none
  | _ => none
/-- a call: who is called (objInit: none), with what, what stays on the stack -/
def pm_inv (m : Nat) (i : Instr) (st : List Value) (h : pmH) (c k : Nat) : Option (Option Nat × List Value × List Value) :=
  let j : Option (Nat × Nat) := match i with
    | .invokevirtual j => some (j, 0)
    | .invokestatic j => some (j, 1)
    | .invokespecial j => some (j, 2)
    | _ => none
  match j with
  | none => none
  | some (j, op) => match pm_look (pm_calls (pm_oc m)) j with
    | none => none
    | some (y, kind, n) =>
      if kind = 3 then (if op = 2 ∧ 1 ≤ pm_fr m then match st with
        | .ref q :: r => if (r.map fun v => v.category).sum + 12 ≤ pm_lo m then some (none, [.ref q], r) else none
        | _ => none
        else none)
      else if kind % 10 = op ∧ n ≤ st.length ∧ pm_fr y + 1 ≤ pm_fr m ∧ 8 + (pm_maxL y + 11) + pm_lo y ≤ pm_lo m ∧ c + pm_mc y ≤ pm_mc m ∧ k + pm_ms y ≤ pm_ms m then
        let as := (st.take n).reverse
        if op = 1 then (if ((st.drop n).map fun v => v.category).sum ≤ 8 ∧ (as.map fun v => v.category).sum ≤ pm_maxL y ∧ pm_oc y < pm_lawc then some (some y, as, st.drop n) else none)
        else match st.drop n with
          | .ref q :: r => if 2001 ≤ q then (if q < 2020 ∧ op = 0 ∧ pm_oc y = pm_strc ∧ (r.map fun v => v.category).sum ≤ 8 ∧ 1 + (as.map fun v => v.category).sum ≤ pm_maxL y then some (some y, .ref q :: as, r) else none)
            else match h[q]? with
            | some (t, _, _) => if t = pm_oc y ∧ t < 12 ∧ (r.map fun v => v.category).sum ≤ 8 ∧ 1 + (as.map fun v => v.category).sum ≤ pm_maxL y then some (some y, .ref q :: as, r) else none
            | none => none
          | _ => none
      else none
def pm_exec : pmX → Nat → Nat → Nat → pmL → List Value → pmH → Nat → Nat → Option (pmH × Option Value)
  | _, 0, _, _, _, _, _, _, _ => none
  | X, n + 1, m, pc, ls, st, h, c, k =>
    match pm_look (pm_kl m) pc with
    | none => none
    | some (i, len) => match pm_end m i st with
      | some r => some (h, r)
      | none => match pm_inv m i st h c k with
        | some (some y, as, rest) => match pm_exec none n y 0 (lv_args 0 as) [] h 0 0 with
          | some (h', r) => pm_exec X n m (pc + 3) ls (r.toList ++ rest) h' (c + pm_mc y) (k + pm_ms y)
          | none => none
        | some (none, _, rest) => pm_exec X n m (pc + 3) ls rest h c k
        | none => match pm_step X m i pc ls st h c k with
          | some (pc', ls', st', h', c', k') => pm_exec X n m pc' ls' st' h' c' k'
          | none => none
/-- a whole call -/
def pm_call (X : pmX) (n y : Nat) (as : List Value) (h : pmH) : Option (pmH × Option Value) := pm_exec X n y 0 (lv_args 0 as) [] h 0 0
