/-! THE BOX MACHINE: the pure machine over boxes. A value: (0 int, 1 long, 2 reference, 3 null; least, most; the symbol that it is (0: none), and by how much it is more). Facts: (0 'equal', 1 'less'; symbol, symbol, whether). -/
abbrev aV : Type := Nat × Int × Int × Nat × Int
abbrev aL : Type := List (Nat × aV)
abbrev aC : Type := Nat × Nat × aV × List (Nat × aV)
abbrev aH : Type := Nat × List (Nat × aC)
abbrev aF : Type := List (Nat × Nat × Nat × Bool)
def am_le (a b : Int) : Bool := match a, b with
  | .ofNat x, .ofNat y => Nat.ble x y
  | .negSucc _, .ofNat _ => true
  | .ofNat _, .negSucc _ => false
  | .negSucc x, .negSucc y => Nat.ble y x
def am_ieq (a b : Int) : Bool := am_le a b && am_le b a
def am_in32 (n : Int) : Bool := am_le (-2147483648) n && am_le n 2147483647
def am_cat (a : aV) : Nat := cond (Nat.beq a.1 1) 2 1
def am_c (n : Int) : aV := (0, n, n, 0, 0)
def am_j (n : Int) : aV := (1, n, n, 0, 0)
def am_top : aV := (0, -2147483648, 2147483647, 0, 0)
def am_ltop : aV := (1, -9223372036854775808, 9223372036854775807, 0, 0)
def am_isc (a : aV) : Bool := am_ieq a.2.1 a.2.2.1
/-- the symbol of a sum -/
def am_ids (a b : aV) : Nat × Int := cond (am_isc b) (a.2.2.2.1, a.2.2.2.2 + b.2.1) (cond (am_isc a) (b.2.2.2.1, b.2.2.2.2 + a.2.1) (0, 0))
def am_add (a b : aV) : aV := cond (am_in32 (a.2.1 + b.2.1) && am_in32 (a.2.2.1 + b.2.2.1)) (0, a.2.1 + b.2.1, a.2.2.1 + b.2.2.1, (am_ids a b).1, (am_ids a b).2) (0, -2147483648, 2147483647, (am_ids a b).1, (am_ids a b).2)
def am_sub (a b : aV) : aV := cond (am_in32 (a.2.1 - b.2.2.1) && am_in32 (a.2.2.1 - b.2.1)) (0, a.2.1 - b.2.2.1, a.2.2.1 - b.2.1, 0, 0) am_top
def am_k2 (f : Int32 → Int32 → Int32) (a b : aV) : aV := cond (am_isc a && am_isc b) (am_c (f (Int32.ofInt a.2.1) (Int32.ofInt b.2.1)).toInt) am_top
def am_l2 (f : Int64 → Int64 → Int64) (a b : aV) : aV := cond (am_isc a && am_isc b) (am_j (f (Int64.ofInt a.2.1) (Int64.ofInt b.2.1)).toInt) am_ltop
def am_l3 (f : Int64 → Int32 → Int64) (a b : aV) : aV := cond (am_isc a && am_isc b) (am_j (f (Int64.ofInt a.2.1) (Int32.ofInt b.2.1)).toInt) am_ltop
def am_and (a b : aV) : aV := cond (am_isc b && am_le 0 b.2.1 && !(am_isc a)) (0, 0, b.2.1, 0, 0) (am_k2 (fun x y => x &&& y) a b)
def am_fact (F : aF) (r i j : Nat) : Option Bool := match F with
  | [] => none
  | (r', i', j', t) :: G => cond (Nat.beq r r' && Nat.beq i i' && Nat.beq j j') (some t) (am_fact G r i j)
/-- is a less than b? -/
def am_lt (F : aF) (a b : aV) : Option Bool := cond (am_le (a.2.2.1 + 1) b.2.1) (some true) (cond (am_le b.2.2.1 a.2.1) (some false)
  (cond (Nat.beq a.2.2.2.1 0 || Nat.beq b.2.2.2.1 0 || !(am_ieq a.2.2.2.2 0) || !(am_ieq b.2.2.2.2 0)) none (am_fact F 1 a.2.2.2.1 b.2.2.2.1)))
def am_eq (F : aF) (a b : aV) : Option Bool := cond (am_isc a && am_isc b && am_ieq a.2.1 b.2.1) (some true) (cond (am_le (a.2.2.1 + 1) b.2.1 || am_le (b.2.2.1 + 1) a.2.1) (some false)
  (cond (Nat.beq a.2.2.2.1 0 || Nat.beq b.2.2.2.1 0) none (cond (Nat.beq a.2.2.2.1 b.2.2.2.1 && am_ieq a.2.2.2.2 b.2.2.2.2) (some true) (cond (am_ieq a.2.2.2.2 0 && am_ieq b.2.2.2.2 0) (am_fact F 0 a.2.2.2.1 b.2.2.2.1) none))))
def am_lcmp (F : aF) (a b : aV) : aV :=
  (0, (match am_lt F b a with
    | some true => 1
    | _ => (match am_lt F a b with
      | some false => 0
      | _ => -1)), (match am_lt F a b with
    | some true => -1
    | _ => (match am_lt F b a with
      | some false => 0
      | _ => 1)), 0, 0)
def am_st1 (ls : aL) (i : Nat) (v : aV) : aL := (i, v) :: ls.filter (fun q => !(q.1 == i) && !(q.1 + 1 == i && am_cat q.2 == 2))
def am_st2 (ls : aL) (i : Nat) (v : aV) : aL := (i, v) :: ls.filter (fun q => !(q.1 == i) && (!(q.1 == i + 1) && !(q.1 + 1 == i && am_cat q.2 == 2)))
abbrev aS : Type := Nat × aL × List aV
def am_ld (ls : aL) (st : List aV) (j t pc : Nat) : Option aS := match pm_look ls j with
  | some a => cond (Nat.beq a.1 t) (some (pc, ls, a :: st)) none
  | none => none
def am_sto (ml : Nat) (ls : aL) (st : List aV) (j t pc : Nat) : Option aS := match st with
  | a :: r => cond (Nat.beq a.1 t && Nat.blt j ml) (some (pc, am_st1 ls j a, r)) none
  | [] => none
def am_stl (ml : Nat) (ls : aL) (st : List aV) (j pc : Nat) : Option aS := match st with
  | a :: r => cond (Nat.beq a.1 1 && Nat.blt (j + 1) ml) (some (pc, am_st2 ls j a, r)) none
  | [] => none
def am_bin (ls : aL) (st : List aV) (pc t u : Nat) (f : aV → aV → aV) : Option aS := match st with
  | y :: x :: r => cond (Nat.beq y.1 t && Nat.beq x.1 u) (some (pc + 1, ls, f x y :: r)) none
  | _ => none
def am_br (b : Option Bool) (pc : Nat) (off : Int) (ls : aL) (st : List aV) : Option aS := match b, pm_tgt pc off with
  | some b, some t => some (cond b t (pc + 3), ls, st)
  | _, _ => none
def am_not (b : Option Bool) : Option Bool := match b with
  | some b => some (!b)
  | none => none
def am_stepA (F : aF) (ml : Nat) (i : Instr) (pc : Nat) (ls : aL) (st : List aV) : Option aS :=
  match i with
  | .iconst n => cond (am_in32 n) (some (pc + 1, ls, am_c n :: st)) none
  | .bipush n => cond (am_le (-128) n && am_le n 127) (some (pc + 2, ls, am_c n :: st)) none
  | .sipush n => cond (am_le (-32768) n && am_le n 32767) (some (pc + 3, ls, am_c n :: st)) none
  | .lconst n => cond (Nat.ble n 1) (some (pc + 1, ls, am_j (n : Nat) :: st)) none
  | .iload_n j => am_ld ls st j 0 (pc + 1)
  | .iload j => am_ld ls st j 0 (pc + 2)
  | .lload_n j => am_ld ls st j 1 (pc + 1)
  | .lload j => am_ld ls st j 1 (pc + 2)
  | .aload_n j => am_ld ls st j 2 (pc + 1)
  | .aload j => am_ld ls st j 2 (pc + 2)
  | .istore_n j => am_sto ml ls st j 0 (pc + 1)
  | .istore j => am_sto ml ls st j 0 (pc + 2)
  | .lstore_n j => am_stl ml ls st j (pc + 1)
  | .lstore j => am_stl ml ls st j (pc + 2)
  | .astore_n j => am_sto ml ls st j 2 (pc + 1)
  | .astore j => am_sto ml ls st j 2 (pc + 2)
  | .iinc j n => match pm_look ls j with
    | some a => cond (Nat.beq a.1 0 && Nat.blt j ml && am_in32 n) (some (pc + 3, am_st1 ls j (am_add a (am_c n)), st)) none
    | none => none
  | .dup => match st with
    | a :: r => cond (Nat.beq a.1 0 || Nat.beq a.1 2) (some (pc + 1, ls, a :: a :: r)) none
    | [] => none
  | .dup2 => match st with
    | x :: y :: r => cond (Nat.beq x.1 0 && Nat.beq y.1 2) (some (pc + 1, ls, x :: y :: x :: y :: r)) none
    | _ => none
  | .iadd => am_bin ls st pc 0 0 am_add
  | .isub => am_bin ls st pc 0 0 am_sub
  | .imul => am_bin ls st pc 0 0 (am_k2 (fun x y => x * y))
  | .idiv => match st with
    | y :: x :: r => cond (Nat.beq y.1 0 && Nat.beq x.1 0 && (am_le 1 y.2.1 || am_le y.2.2.1 (-1))) (some (pc + 1, ls, am_k2 (fun x y => x / y) x y :: r)) none
    | _ => none
  | .irem => match st with
    | y :: x :: r => cond (Nat.beq y.1 0 && Nat.beq x.1 0 && (am_le 1 y.2.1 || am_le y.2.2.1 (-1))) (some (pc + 1, ls, am_k2 (fun x y => x - x / y * y) x y :: r)) none
    | _ => none
  | .iand => am_bin ls st pc 0 0 am_and
  | .ior => am_bin ls st pc 0 0 (am_k2 (fun x y => x ||| y))
  | .ishl => am_bin ls st pc 0 0 (am_k2 (fun x y => x <<< (y &&& 31)))
  | .ishr => am_bin ls st pc 0 0 (am_k2 (fun x y => x >>> (y &&& 31)))
  | .iushr => am_bin ls st pc 0 0 (am_k2 (fun x y => (x.toUInt32 >>> (y.toUInt32 &&& Int32.toUInt32 31)).toInt32))
  | .ladd => am_bin ls st pc 1 1 (am_l2 (fun x y => x + y))
  | .lsub => am_bin ls st pc 1 1 (am_l2 (fun x y => x - y))
  | .lmul => am_bin ls st pc 1 1 (am_l2 (fun x y => x * y))
  | .land => am_bin ls st pc 1 1 (am_l2 (fun x y => x &&& y))
  | .lor => am_bin ls st pc 1 1 (am_l2 (fun x y => x ||| y))
  | .lxor => am_bin ls st pc 1 1 (am_l2 (fun x y => x ^^^ y))
  | .lshl => am_bin ls st pc 0 1 (am_l3 (fun x y => x <<< (y.toInt64 &&& 63)))
  | .lshr => am_bin ls st pc 0 1 (am_l3 (fun x y => x >>> (y.toInt64 &&& 63)))
  | .lushr => am_bin ls st pc 0 1 (am_l3 (fun x y => (x.toUInt64 >>> (y.toInt64.toUInt64 &&& Int64.toUInt64 63)).toInt64))
  | .i2l => match st with
    | a :: r => cond (Nat.beq a.1 0) (some (pc + 1, ls, (1, a.2.1, a.2.2.1, cond (am_ieq a.2.2.2.2 0) a.2.2.2.1 0, 0) :: r)) none
    | [] => none
  | .l2i => match st with
    | a :: r => cond (Nat.beq a.1 1) (some (pc + 1, ls, cond (am_isc a) (am_c (Int64.ofInt a.2.1).toInt32.toInt) am_top :: r)) none
    | [] => none
  | .lcmp => am_bin ls st pc 1 1 (am_lcmp F)
  | .goto off => match pm_tgt pc off with
    | some t => some (t, ls, st)
    | none => none
  | .if_icmp cd off => match st with
    | y :: x :: r => cond (Nat.beq y.1 0 && Nat.beq x.1 0) (match cd with
      | .eq => am_br (am_eq F x y) pc off ls r
      | .ne => am_br (am_not (am_eq F x y)) pc off ls r
      | .lt => am_br (am_lt F x y) pc off ls r
      | .ge => am_br (am_not (am_lt F x y)) pc off ls r
      | .gt => am_br (am_lt F y x) pc off ls r
      | .le => am_br (am_not (am_lt F y x)) pc off ls r) none
    | _ => none
  | .ifCond cd off => match st with
    | x :: r => cond (Nat.beq x.1 0) (match cd with
      | .eq => am_br (am_eq F x (am_c 0)) pc off ls r
      | .ne => am_br (am_not (am_eq F x (am_c 0))) pc off ls r
      | .lt => am_br (am_lt F x (am_c 0)) pc off ls r
      | .ge => am_br (am_not (am_lt F x (am_c 0))) pc off ls r
      | .gt => am_br (am_lt F (am_c 0) x) pc off ls r
      | .le => am_br (am_not (am_lt F (am_c 0) x)) pc off ls r) none
    | [] => none
  | _ => none
/-- what stands at a place of a cell -/
def am_rd (d : aV) (ov : List (Nat × aV)) (i : Nat) : aV := match pm_look ov i with
  | some a => a
  | none => cond (Nat.beq d.1 4) (2, d.2.1 + (i : Nat), d.2.1 + (i : Nat), 0, 0) d
def am_ix (a : aV) (n : Nat) : Option Nat := cond (Nat.beq a.1 0 && am_isc a && am_le 0 a.2.1 && Nat.blt a.2.1.toNat n) (some a.2.1.toNat) none
def am_okv (ty : FieldType) (a : aV) : Bool := match ty with
  | .int => Nat.beq a.1 0
  | .long => Nat.beq a.1 1
  | .boolean => Nat.beq a.1 0 && am_le 0 a.2.1 && am_le a.2.2.1 1
  | .object _ => Nat.beq a.1 2
  | .array _ => Nat.beq a.1 2
  | _ => false
def am_set (l : List (Nat × aC)) (q : Nat) (c : aC) : List (Nat × aC) := match l with
  | [] => [(q, c)]
  | e :: r => cond (Nat.beq e.1 q) ((q, c) :: r) (e :: am_set r q c)
abbrev aT : Type := Nat × aL × List aV × aH × Nat × Nat
/-- an array's element -/
def am_ald (t1 t2 : Nat) (ls : aL) (st : List aV) (h : aH) (c k pc : Nat) : Option aT := match st with
  | j :: q :: r => cond (Nat.beq q.1 2) (match pm_look h.2 q.2.1.toNat with
    | some (t, n, d, ov) => cond (Nat.beq t t1 || Nat.beq t t2) (match am_ix j n with
      | some i => cond (Nat.ble (am_rd d ov i).1 3) (some (pc + 1, ls, am_rd d ov i :: r, h, c, k)) none
      | none => none) none
    | none => none) none
  | _ => none
def am_ast (t1 u : Nat) (f : aV → aV) (ls : aL) (st : List aV) (h : aH) (c k pc : Nat) : Option aT := match st with
  | v :: j :: q :: r => cond (Nat.beq q.1 2 && Nat.beq v.1 u) (match pm_look h.2 q.2.1.toNat with
    | some (t, n, d, ov) => cond (Nat.beq t t1) (match am_ix j n with
      | some i => some (pc + 1, ls, r, (h.1, am_set h.2 q.2.1.toNat (t, n, d, (i, f v) :: ov)), c, k)
      | none => none) none
    | none => none) none
  | _ => none
def am_dv (ty : FieldType) : aV := match ty with
  | .int => am_c 0
  | .boolean => am_c 0
  | .long => am_j 0
  | .object _ => (3, 0, 0, 0, 0)
  | .array _ => (3, 0, 0, 0, 0)
  | _ => (9, 0, 0, 0, 0)
def am_fresh (ci : Nat) : Nat → List (Nat × aV)
  | 0 => []
  | n + 1 => (n, am_dv (pm_ty ci n)) :: am_fresh ci n
def am_rows (t k : Nat) (d : aV) (b : Nat) : Nat → List (Nat × aC)
  | 0 => []
  | n + 1 => (b + n, (t, k, d, [])) :: am_rows t k d b n
def am_stepB (AX : Option (Nat × List aV)) (m oc : Nat) (i : Instr) (pc : Nat) (ls : aL) (st : List aV) (h : aH) (c k : Nat) : Option aT :=
  match i with
  | .tableswitch dflt lo hi offs => match st with
    | x :: r => cond (Nat.beq x.1 0) (cond (am_le (x.2.2.1 + 1) lo || am_le (hi + 1) x.2.1) (match pm_tgt pc dflt with
        | some t => some (t, ls, r, h, c, k)
        | none => none) (cond (am_isc x) (match offs.toList[(x.2.1 - lo).toNat]? with
        | some off => (match pm_tgt pc off with
          | some t => some (t, ls, r, h, c, k)
          | none => none)
        | none => none) none)) none
    | [] => none
  | .lookupswitch dflt ps => match st with
    | x :: r => cond (Nat.beq x.1 0 && am_isc x) (if (ps.toList.zip (ps.toList.drop 1)).all (fun (a, next) => a.1 < next.1) = true then (match pm_tgt pc (Op.lookupswitch.offset ps.toList dflt x.2.1) with
        | some t => some (t, ls, r, h, c, k)
        | none => none) else none) none
    | [] => none
  | .ldc j => match pm_look (pm_cons oc) j with
    | some (.int x) => some (pc + 2, ls, am_c x.toInt :: st, h, c, k)
    | some (.ref x) => some (pc + 2, ls, (2, (x : Nat), (x : Nat), 0, 0) :: st, h, c, k)
    | _ => none
  | .ldc2_w j => match pm_look (pm_cons oc) j with
    | some (.long x) => some (pc + 3, ls, am_j x.toInt :: st, h, c, k)
    | _ => none
  | .getfield j => match st with
    | q :: r => cond (Nat.beq q.1 2 && Nat.blt q.2.1.toNat 2001) (match pm_look (pm_flds oc) j, pm_look h.2 q.2.1.toNat with
      | some (ci, f), some (t, n, d, ov) => cond (Nat.beq ci t && Nat.blt f n && Nat.ble (am_rd d ov f).1 3) (some (pc + 3, ls, am_rd d ov f :: r, h, c, k)) none
      | _, _ => none) none
    | [] => none
  | .putfield j => match st with
    | v :: q :: r => cond (Nat.beq q.1 2) (match pm_look (pm_flds oc) j, pm_look h.2 q.2.1.toNat with
      | some (ci, f), some (t, n, d, ov) => cond (Nat.beq ci t && am_okv (pm_ty ci f) v && (!(pm_fin ci f) || (Nat.beq (pm_in m) 1 && Nat.beq ci oc))) (some (pc + 3, ls, r, (h.1, am_set h.2 q.2.1.toNat (t, n, d, (f, v) :: ov)), c, k)) none
      | _, _ => none) none
    | _ => none
  | .iaload => match st with
    | j :: q :: r => cond (Nat.beq q.1 2 && am_ieq q.2.1 2000) (match AX with
      | some x => (match am_ix j x.1 with
        | some i => (match x.2[i]? with
          | some a => some (pc + 1, ls, a :: r, h, c, k)
          | none => none)
        | none => none)
      | none => none) (am_ald 20 20 ls st h c k pc)
    | _ => none
  | .laload => am_ald 21 21 ls st h c k pc
  | .baload => none
  | .aaload => am_ald 23 24 ls st h c k pc
  | .iastore => am_ast 20 0 (fun v => v) ls st h c k pc
  | .lastore => am_ast 21 1 (fun v => v) ls st h c k pc
  | .bastore => am_ast 22 0 (fun v => am_and v (am_c 1)) ls st h c k pc
  | .arraylength => match st with
    | q :: r => cond (Nat.beq q.1 2) (cond (am_ieq q.2.1 2000) (match AX with
      | some x => cond (Nat.ble x.1 100000) (some (pc + 1, ls, am_c (x.1 : Nat) :: r, h, c, k)) none
      | none => none) (cond (Nat.blt q.2.1.toNat 2101) (match pm_look h.2 q.2.1.toNat with
      | some (t, n, _) => cond ((Nat.beq t 20 || Nat.beq t 21) && Nat.ble n 100000) (some (pc + 1, ls, am_c (n : Nat) :: r, h, c, k)) none
      | none => none) none)) none
    | [] => none
  | .new j => match pm_look (pm_news oc) j with
    | some ci => match pm_cl[ci]? with
      | some q => cond (Nat.ble (c + 1) (pm_mc m) && Nat.ble (k + q.2.2) (pm_ms m) && Nat.blt h.1 900) (some (pc + 3, ls, (2, (h.1 : Nat), (h.1 : Nat), 0, 0) :: st, (h.1 + 1, (h.1, (ci, q.2.2, (9, 0, 0, 0, 0), am_fresh ci q.2.2)) :: h.2), c + 1, k + q.2.2)) none
      | none => none
    | none => none
  | .newarray ty => match st with
    | n :: r => (match am_ix n 100001 with
      | some n => cond (Nat.ble (c + 1) (pm_mc m) && Nat.ble (k + n) (pm_ms m) && Nat.blt h.1 900) (match ty with
        | .int => some (pc + 2, ls, (2, (h.1 : Nat), (h.1 : Nat), 0, 0) :: r, (h.1 + 1, (h.1, (20, n, am_c 0, [])) :: h.2), c + 1, k + n)
        | .long => some (pc + 2, ls, (2, (h.1 : Nat), (h.1 : Nat), 0, 0) :: r, (h.1 + 1, (h.1, (21, n, am_j 0, [])) :: h.2), c + 1, k + n)
        | .boolean => some (pc + 2, ls, (2, (h.1 : Nat), (h.1 : Nat), 0, 0) :: r, (h.1 + 1, (h.1, (22, n, am_c 0, [])) :: h.2), c + 1, k + n)
        | _ => none) none
      | none => none)
    | [] => none
  | .multianewarray j d => match st with
    | k1 :: n1 :: r => (match pm_look (pm_mnas oc) j, am_ix k1 1001, am_ix n1 1001 with
      | some t, some k1, some n1 => cond (Nat.beq d 2 && Nat.ble (c + (1 + n1)) (pm_mc m) && Nat.ble (k + (n1 + n1 * k1)) (pm_ms m) && Nat.blt h.1 900 && (Nat.beq t 20 || Nat.beq t 21))
          (some (pc + 4, ls, (2, (h.1 : Nat), (h.1 : Nat), 0, 0) :: r, (h.1 + 1 + n1, (h.1, (t + 3, n1, (4, (h.1 + 1 : Nat), 0, 0, 0), [])) :: (h.2 ++ am_rows t k1 (cond (Nat.beq t 20) (am_c 0) (am_j 0)) (h.1 + 1) n1)), c + 1 + n1, k + n1 + n1 * k1)) none
      | _, _, _ => none)
    | _ => none
  | _ => none
def am_args : Nat → List aV → aL
  | _, [] => []
  | i, v :: vs => (i, v) :: am_args (if am_cat v = 2 then i + 2 else i + 1) vs
def am_end (m : Nat) (i : Instr) (st : List aV) : Option (Option aV) :=
  match i with
  | .ireturn => match st, pm_ret m with
    | [a], some .int => cond (Nat.beq a.1 0) (some (some a)) none
    | [a], some .boolean => cond (Nat.beq a.1 0 && am_le 0 a.2.1 && am_le a.2.2.1 1) (some (some a)) none
    | _, _ => none
  | .lreturn => match st, pm_ret m with
    | [a], some .long => cond (Nat.beq a.1 1) (some (some a)) none
    | _, _ => none
  | .return_ => match st, pm_ret m with
    | [], none => some none
    | _, _ => none
  | _ => none
def am_op (i : Instr) : Option (Nat × Nat) := match i with
    | .invokevirtual j => some (j, 0)
    | .invokestatic j => some (j, 1)
    | .invokespecial j => some (j, 2)
    | _ => none
def am_inv (m oc : Nat) (i : Instr) (st : List aV) (h : aH) (c k : Nat) : Option (Option Nat × List aV × List aV) :=
  match am_op i with
  | none => none
  | some (j, op) => match pm_look (pm_calls oc) j with
    | none => none
    | some (y, kind, n) =>
      if kind = 3 then (if op = 2 ∧ 1 ≤ pm_fr m then match st with
        | a :: r => if a.1 = 2 ∧ (r.map am_cat).sum + 12 ≤ pm_lo m then some (none, [a], r) else none
        | [] => none
        else none)
      else if kind % 10 = op ∧ n ≤ st.length ∧ pm_fr y + 1 ≤ pm_fr m ∧ 8 + (pm_maxL y + 11) + pm_lo y ≤ pm_lo m ∧ c + pm_mc y ≤ pm_mc m ∧ k + pm_ms y ≤ pm_ms m then
        (if op = 1 then (if ((st.drop n).map am_cat).sum ≤ 8 ∧ (((st.take n).reverse).map am_cat).sum ≤ pm_maxL y ∧ pm_oc y < pm_lawc then some (some y, (st.take n).reverse, st.drop n) else none)
        else match st.drop n with
          | a :: r => if a.1 = 2 ∧ a.2.1.toNat < 2001 then (match pm_look h.2 a.2.1.toNat with
            | some (t, _) => if t = pm_oc y ∧ t < 12 ∧ (r.map am_cat).sum ≤ 8 ∧ 1 + (((st.take n).reverse).map am_cat).sum ≤ pm_maxL y then some (some y, a :: (st.take n).reverse, r) else none
            | none => none) else none
          | [] => none)
      else none
def am_drop (l : List (Nat × Instr × Nat)) (pc : Nat) : List (Nat × Instr × Nat) := match l with
  | [] => []
  | e :: r => cond (Nat.beq e.1 pc) (e :: r) (am_drop r pc)
def am_next (kl rest : List (Nat × Instr × Nat)) (pc : Nat) : List (Nat × Instr × Nat) := match rest with
  | e :: r => cond (Nat.beq e.1 pc) (e :: r) (am_drop kl pc)
  | [] => am_drop kl pc
def am_isret (i : Instr) : Bool := match i with
  | .ireturn => true
  | .lreturn => true
  | .return_ => true
  | _ => false
/-- (true: returned, its answer on the stack; false: come to stop; fuel left) -/
abbrev aR : Type := Bool × aL × List aV × aH × Nat × Nat × Nat
def am_exec (F : aF) : Nat → Option (Nat × List aV) → Nat → Nat → Nat → Nat → List (Nat × Instr × Nat) → aL → List aV → aH → Nat → Nat → Option aR
  | 0, _, _, _, _, _, _, _, _, _, _, _ => none
  | n + 1, AX, stop, m, oc, ml, code, ls, st, h, c, k =>
    match code with
    | [] => none
    | (pc, i, _) :: rest => cond (Nat.beq pc stop) (some (false, ls, st, h, c, k, n + 1)) (cond (am_isret i) (match am_end m i st with
        | some r => some (true, [], r.toList, h, 0, 0, 0)
        | none => none) (match am_op i with
        | some _ => (match am_inv m oc i st h c k with
          | some (some y, as, r) => (match am_exec F n none 99999 y (pm_oc y) (pm_maxL y) (pm_kl y) (am_args 0 as) [] h 0 0 with
            | some (true, _, a, h', _) => am_exec F n AX stop m oc ml (am_next (pm_kl m) rest (pc + 3)) ls (a ++ r) h' (c + pm_mc y) (k + pm_ms y)
            | _ => none)
          | some (none, _, r) => am_exec F n AX stop m oc ml (am_next (pm_kl m) rest (pc + 3)) ls r h c k
          | none => none)
        | none => (match am_stepA F ml i pc ls st with
          | some (pc', ls', st') => am_exec F n AX stop m oc ml (am_next (pm_kl m) rest pc') ls' st' h c k
          | none => (match am_stepB AX m oc i pc ls st h c k with
            | some (pc', ls', st', h', c', k') => am_exec F n AX stop m oc ml (am_next (pm_kl m) rest pc') ls' st' h' c' k'
            | none => none))))
/-! THE BOX MACHINE IS SOUND, first half: numbers, locals, stack -/
def am_I (ρ : Nat → Int32) (a : aV) (x : Int32) : Prop := a.2.1 ≤ x.toInt ∧ x.toInt ≤ a.2.2.1 ∧ (a.2.2.2.1 = 0 ∨ x = ρ a.2.2.2.1 + Int32.ofInt a.2.2.2.2)
def am_J (ρ : Nat → Int32) (a : aV) (x : Int64) : Prop := a.2.1 ≤ x.toInt ∧ x.toInt ≤ a.2.2.1 ∧ (a.2.2.2.1 = 0 ∨ (a.2.2.2.2 = 0 ∧ x.toInt = (ρ a.2.2.2.1).toInt))
def am_v (ρ : Nat → Int32) (a : aV) (v : Value) : Prop := (a.1 = 0 ∧ ∃ x, v = .int x ∧ am_I ρ a x) ∨ (a.1 = 1 ∧ ∃ x, v = .long x ∧ am_J ρ a x) ∨ (a.1 = 2 ∧ ∃ n : Nat, v = .ref n ∧ a.2.1 = (n : Int)) ∨ (a.1 = 3 ∧ v = .null)
def am_all {α β : Type} (R : α → β → Prop) : List α → List β → Prop
  | [], [] => True
  | a :: as, b :: bs => R a b ∧ am_all R as bs
  | [], _ :: _ => False
  | _ :: _, [] => False
abbrev am_ls (ρ : Nat → Int32) (a : aL) (l : pmL) : Prop := am_all (fun p q => p.1 = q.1 ∧ am_v ρ p.2 q.2) a l
abbrev am_sk (ρ : Nat → Int32) (a : List aV) (l : List Value) : Prop := am_all (am_v ρ) a l
def am_Fo (ρ : Nat → Int32) (F : aF) : Prop := ∀ e ∈ F, (e.1 = 0 → (e.2.2.2 = true ↔ ρ e.2.1 = ρ e.2.2.1)) ∧ (e.1 = 1 → (e.2.2.2 = true ↔ (ρ e.2.1).toInt < (ρ e.2.2.1).toInt))
theorem am_le_iff {a b : Int} : am_le a b = true ↔ a ≤ b := match a, b with
  | .ofNat x, .ofNat y => by show Nat.ble x y = true ↔ (x : Int) ≤ (y : Int); rw [Nat.ble_eq]; omega
  | .negSucc x, .ofNat y => ⟨fun _ => by show Int.negSucc x ≤ (y : Int); omega, fun _ => rfl⟩
  | .ofNat x, .negSucc y => ⟨fun h => (by cases h), fun h => by have h : (x : Int) ≤ Int.negSucc y := h; omega⟩
  | .negSucc x, .negSucc y => by show Nat.ble y x = true ↔ Int.negSucc x ≤ Int.negSucc y; rw [Nat.ble_eq]; omega
theorem am_ieq_iff {a b : Int} : am_ieq a b = true ↔ a = b := by
  simp only [am_ieq, Bool.and_eq_true, am_le_iff]; omega
theorem am_in32_iff {n : Int} : am_in32 n = true ↔ -2147483648 ≤ n ∧ n ≤ 2147483647 := by
  simp only [am_in32, Bool.and_eq_true, am_le_iff]
theorem am_isc_iff {a : aV} : am_isc a = true ↔ a.2.1 = a.2.2.1 := am_ieq_iff
theorem am_cond {α : Type} {b : Bool} {x : Option α} {r : α} (h : cond b x none = some r) : b = true ∧ x = some r := by
  cases b
  · cases h
  · exact ⟨rfl, h⟩
theorem am_bq {a b : Nat} (h : Nat.beq a b = true) : a = b := Nat.eq_of_beq_eq_true h
theorem am_lo32 (x : Int32) : -2147483648 ≤ x.toInt := x.le_toInt
theorem am_hi32 (x : Int32) : x.toInt ≤ 2147483647 := by have := x.toInt_lt; omega
theorem am_lo64 (x : Int64) : -9223372036854775808 ≤ x.toInt := x.le_toInt
theorem am_hi64 (x : Int64) : x.toInt ≤ 9223372036854775807 := by have := x.toInt_lt; omega
theorem am_of32 {n : Int} (h : -2147483648 ≤ n ∧ n ≤ 2147483647) : (Int32.ofInt n).toInt = n := Int32.toInt_ofInt_of_le h.1 (by have := h.2; omega)
section AMA
variable {ρ : Nat → Int32} {F : aF}
theorem am_v.int {a : aV} {v : Value} (h : am_v ρ a v) (t : a.1 = 0) : ∃ x, v = .int x ∧ am_I ρ a x := by
  rcases h with ⟨_, h⟩ | ⟨h, _⟩ | ⟨h, _⟩ | ⟨h, _⟩
  · exact h
  all_goals omega
theorem am_v.long {a : aV} {v : Value} (h : am_v ρ a v) (t : a.1 = 1) : ∃ x, v = .long x ∧ am_J ρ a x := by
  rcases h with ⟨h, _⟩ | ⟨_, h⟩ | ⟨h, _⟩ | ⟨h, _⟩
  · omega
  · exact h
  all_goals omega
theorem am_v.ref {a : aV} {v : Value} (h : am_v ρ a v) (t : a.1 = 2) : ∃ n : Nat, v = .ref n ∧ a.2.1 = (n : Int) := by
  rcases h with ⟨h, _⟩ | ⟨h, _⟩ | ⟨_, h⟩ | ⟨h, _⟩
  · omega
  · omega
  · exact h
  · omega
theorem am_v.ofI {a : aV} {x : Int32} (t : a.1 = 0) (h : am_I ρ a x) : am_v ρ a (.int x) := Or.inl ⟨t, x, rfl, h⟩
theorem am_v.ofJ {a : aV} {x : Int64} (t : a.1 = 1) (h : am_J ρ a x) : am_v ρ a (.long x) := Or.inr (Or.inl ⟨t, x, rfl, h⟩)
theorem am_v.ofR {a : aV} {n : Nat} (t : a.1 = 2) (h : a.2.1 = (n : Int)) : am_v ρ a (.ref n) := Or.inr (Or.inr (Or.inl ⟨t, n, rfl, h⟩))
theorem am_v.cat {a : aV} {v : Value} (h : am_v ρ a v) : v.category = am_cat a := by
  obtain ⟨t, r⟩ := a
  rcases h with ⟨h, x, rfl, _⟩ | ⟨h, x, rfl, _⟩ | ⟨h, x, rfl, _⟩ | ⟨h, rfl⟩ <;> (dsimp only at h; subst h; rfl)
theorem am_all.c {α β : Type} {R : α → β → Prop} {a : α} {as : List α} {l : List β} (h : am_all R (a :: as) l) : ∃ v vs, l = v :: vs ∧ R a v ∧ am_all R as vs := by
  cases l with
  | nil => exact h.elim
  | cons v vs => exact ⟨v, vs, rfl, h.1, h.2⟩
theorem am_all.n {α β : Type} {R : α → β → Prop} {l : List β} (h : am_all R [] l) : l = [] := by
  cases l with
  | nil => rfl
  | cons v vs => exact h.elim
theorem am_all.len {α β : Type} {R : α → β → Prop} : ∀ {a : List α} {l : List β}, am_all R a l → a.length = l.length
  | [], [], _ => rfl
  | _ :: _, _ :: _, h => by rw [List.length_cons, List.length_cons, h.2.len]
  | [], _ :: _, h => h.elim
  | _ :: _, [], h => h.elim
theorem am_all.app {α β : Type} {R : α → β → Prop} : ∀ {a a2 : List α} {l l2 : List β}, am_all R a l → am_all R a2 l2 → am_all R (a ++ a2) (l ++ l2)
  | [], _, [], _, _, h2 => h2
  | _ :: _, _, _ :: _, _, h, h2 => ⟨h.1, h.2.app h2⟩
  | [], _, _ :: _, _, h, _ => h.elim
  | _ :: _, _, [], _, h, _ => h.elim
theorem am_all.rev {α β : Type} {R : α → β → Prop} : ∀ {a : List α} {l : List β}, am_all R a l → am_all R a.reverse l.reverse
  | [], [], _ => trivial
  | a :: as, b :: bs, h => by
    rw [List.reverse_cons, List.reverse_cons]
    exact h.2.rev.app ⟨h.1, trivial⟩
  | [], _ :: _, h => h.elim
  | _ :: _, [], h => h.elim
theorem am_all.take {α β : Type} {R : α → β → Prop} : ∀ {a : List α} {l : List β} (n : Nat), am_all R a l → am_all R (a.take n) (l.take n)
  | _, _, 0, _ => trivial
  | [], [], _ + 1, _ => trivial
  | _ :: _, _ :: _, n + 1, h => ⟨h.1, h.2.take n⟩
  | [], _ :: _, _ + 1, h => h.elim
  | _ :: _, [], _ + 1, h => h.elim
theorem am_all.drop {α β : Type} {R : α → β → Prop} : ∀ {a : List α} {l : List β} (n : Nat), am_all R a l → am_all R (a.drop n) (l.drop n)
  | _, _, 0, h => h
  | [], [], _ + 1, _ => trivial
  | _ :: _, _ :: _, n + 1, h => h.2.drop n
  | [], _ :: _, _ + 1, h => h.elim
  | _ :: _, [], _ + 1, h => h.elim
theorem am_cats : ∀ {a : List aV} {l : List Value}, am_sk ρ a l → (l.map fun v => v.category) = a.map am_cat
  | [], [], _ => rfl
  | _ :: _, _ :: _, h => by rw [List.map_cons, List.map_cons, h.1.cat, am_cats h.2]
  | [], _ :: _, h => h.elim
  | _ :: _, [], h => h.elim
theorem am_look {j : Nat} {x : aV} : ∀ {a : aL} {l : pmL}, am_ls ρ a l → pm_look a j = some x → ∃ v, pm_look l j = some v ∧ am_v ρ x v
  | [], [], _, h => by simp [pm_look] at h
  | (i, y) :: as, (i2, w) :: bs, hl, h => by
    obtain ⟨⟨h1, h2⟩, h3⟩ := hl
    dsimp only at h1 h2
    subst h1
    unfold pm_look at h ⊢
    split at h
    · next e => cases h; rw [if_pos e]; exact ⟨w, rfl, h2⟩
    · next e => rw [if_neg e]; exact am_look h3 h
  | [], _ :: _, h, _ => h.elim
  | _ :: _, [], h, _ => h.elim
theorem am_filter {f : Nat × aV → Bool} {g : Nat × Value → Bool} (hfg : ∀ p q, p.1 = q.1 ∧ am_v ρ p.2 q.2 → f p = g q) : ∀ {a : aL} {l : pmL}, am_ls ρ a l → am_ls ρ (a.filter f) (l.filter g)
  | [], [], _ => trivial
  | p :: as, q :: bs, h => by
    rw [List.filter_cons, List.filter_cons, hfg p q h.1]
    split
    · exact ⟨h.1, am_filter hfg h.2⟩
    · exact am_filter hfg h.2
  | [], _ :: _, h => h.elim
  | _ :: _, [], h => h.elim
theorem am_st1_ok {a : aL} {l : pmL} {i : Nat} {x : aV} {v : Value} (hl : am_ls ρ a l) (hv : am_v ρ x v) : am_ls ρ (am_st1 a i x) (pm_st1 l i v) :=
  ⟨⟨rfl, hv⟩, am_filter (fun p q h => by rw [h.1, h.2.cat]) hl⟩
theorem am_st2_ok {a : aL} {l : pmL} {i : Nat} {x : aV} {v : Value} (hl : am_ls ρ a l) (hv : am_v ρ x v) : am_ls ρ (am_st2 a i x) (pm_st2 l i v) :=
  ⟨⟨rfl, hv⟩, am_filter (fun p q h => by rw [h.1, h.2.cat]) hl⟩
/-! numbers -/
theorem am_I.const {a : aV} {x : Int32} (h : am_I ρ a x) (hc : am_isc a = true) : x = Int32.ofInt a.2.1 := by
  have := am_isc_iff.mp hc
  have h1 : x.toInt = a.2.1 := by have := h.1; have := h.2.1; omega
  rw [← h1, Int32.ofInt_toInt]
theorem am_J.const {a : aV} {x : Int64} (h : am_J ρ a x) (hc : am_isc a = true) : x = Int64.ofInt a.2.1 := by
  have := am_isc_iff.mp hc
  have h1 : x.toInt = a.2.1 := by have := h.1; have := h.2.1; omega
  rw [← h1, Int64.ofInt_toInt]
theorem am_c_ok (x : Int32) : am_I ρ (am_c x.toInt) x := ⟨Int.le_refl _, Int.le_refl _, Or.inl rfl⟩
theorem am_c_of {n : Int} (h : am_in32 n = true) : am_I ρ (am_c n) (Int32.ofInt n) := by
  have := am_of32 (am_in32_iff.mp h)
  refine ⟨?_, ?_, Or.inl rfl⟩ <;> (show _ ≤ _; rw [this]; exact Int.le_refl _)
theorem am_j_ok (x : Int64) : am_J ρ (am_j x.toInt) x := ⟨Int.le_refl _, Int.le_refl _, Or.inl rfl⟩
theorem am_top_ok (x : Int32) : am_I ρ am_top x := ⟨am_lo32 x, am_hi32 x, Or.inl rfl⟩
theorem am_ltop_ok (x : Int64) : am_J ρ am_ltop x := ⟨am_lo64 x, am_hi64 x, Or.inl rfl⟩
theorem am_ids_ok {a b : aV} {x y : Int32} (hx : am_I ρ a x) (hy : am_I ρ b y) : (am_ids a b).1 = 0 ∨ x + y = ρ (am_ids a b).1 + Int32.ofInt (am_ids a b).2 := by
  unfold am_ids
  cases hb : am_isc b
  · cases ha : am_isc a
    · exact Or.inl rfl
    · rcases hy.2.2 with h | h
      · exact Or.inl h
      · right
        rw [hx.const ha]
        show Int32.ofInt a.2.1 + y = ρ b.2.2.2.1 + Int32.ofInt (b.2.2.2.2 + a.2.1)
        rw [Int32.ofInt_add, ← Int32.add_assoc, ← h, Int32.add_comm]
  · rcases hx.2.2 with h | h
    · exact Or.inl h
    · right
      rw [hy.const hb]
      show x + Int32.ofInt b.2.1 = ρ a.2.2.2.1 + Int32.ofInt (a.2.2.2.2 + b.2.1)
      rw [Int32.ofInt_add, ← Int32.add_assoc, ← h]
theorem am_add_ok {a b : aV} {x y : Int32} (hx : am_I ρ a x) (hy : am_I ρ b y) : am_I ρ (am_add a b) (x + y) := by
  have hid := am_ids_ok hx hy
  unfold am_add
  cases hc : am_in32 (a.2.1 + b.2.1) && am_in32 (a.2.2.1 + b.2.2.1)
  · exact ⟨am_lo32 _, am_hi32 _, hid⟩
  · rw [Bool.and_eq_true, am_in32_iff, am_in32_iff] at hc
    have h1 := hx.1; have h2 := hx.2.1; have h3 := hy.1; have h4 := hy.2.1
    have he : (x + y).toInt = x.toInt + y.toInt := by
      rw [Int32.toInt_add]
      exact Int.bmod_eq_of_le (by omega) (by omega)
    exact ⟨by show a.2.1 + b.2.1 ≤ _; omega, by show _ ≤ a.2.2.1 + b.2.2.1; omega, hid⟩
theorem am_sub_ok {a b : aV} {x y : Int32} (hx : am_I ρ a x) (hy : am_I ρ b y) : am_I ρ (am_sub a b) (x - y) := by
  unfold am_sub
  cases hc : am_in32 (a.2.1 - b.2.2.1) && am_in32 (a.2.2.1 - b.2.1)
  · exact am_top_ok _
  · rw [Bool.and_eq_true, am_in32_iff, am_in32_iff] at hc
    have h1 := hx.1; have h2 := hx.2.1; have h3 := hy.1; have h4 := hy.2.1
    have he : (x - y).toInt = x.toInt - y.toInt := by
      rw [Int32.toInt_sub]
      exact Int.bmod_eq_of_le (by omega) (by omega)
    exact ⟨by show a.2.1 - b.2.2.1 ≤ _; omega, by show _ ≤ a.2.2.1 - b.2.1; omega, Or.inl rfl⟩
theorem am_k2_ok {f : Int32 → Int32 → Int32} {a b : aV} {x y : Int32} (hx : am_I ρ a x) (hy : am_I ρ b y) : am_I ρ (am_k2 f a b) (f x y) := by
  unfold am_k2
  cases hc : am_isc a && am_isc b
  · exact am_top_ok _
  · rw [Bool.and_eq_true] at hc
    rw [hx.const hc.1, hy.const hc.2]
    exact am_c_ok _
theorem am_l2_ok {f : Int64 → Int64 → Int64} {a b : aV} {x y : Int64} (hx : am_J ρ a x) (hy : am_J ρ b y) : am_J ρ (am_l2 f a b) (f x y) := by
  unfold am_l2
  cases hc : am_isc a && am_isc b
  · exact am_ltop_ok _
  · rw [Bool.and_eq_true] at hc
    rw [hx.const hc.1, hy.const hc.2]
    exact am_j_ok _
theorem am_l3_ok {f : Int64 → Int32 → Int64} {a b : aV} {x : Int64} {y : Int32} (hx : am_J ρ a x) (hy : am_I ρ b y) : am_J ρ (am_l3 f a b) (f x y) := by
  unfold am_l3
  cases hc : am_isc a && am_isc b
  · exact am_ltop_ok _
  · rw [Bool.and_eq_true] at hc
    rw [hx.const hc.1, hy.const hc.2]
    exact am_j_ok _
theorem am_and_le {x y : Int32} (h : 0 ≤ y.toInt) : 0 ≤ (x &&& y).toInt ∧ (x &&& y).toInt ≤ y.toInt := by
  have e : ∀ z : Int32, z.toInt = z.toBitVec.toInt := fun z => rfl
  rw [e y] at h
  rw [e y, e (x &&& y), Int32.toBitVec_and]
  have hy : y.toBitVec.toInt = y.toBitVec.toNat := by
    rw [BitVec.toInt_eq_toNat_cond] at h ⊢
    have := y.toBitVec.isLt
    split
    · rfl
    · next hn => rw [if_neg hn] at h; omega
  have hle : (x.toBitVec &&& y.toBitVec).toNat ≤ y.toBitVec.toNat := by rw [BitVec.toNat_and]; exact Nat.and_le_right
  have hz : (x.toBitVec &&& y.toBitVec).toInt = (x.toBitVec &&& y.toBitVec).toNat := by
    rw [BitVec.toInt_eq_toNat_cond, if_pos]
    rw [BitVec.toInt_eq_toNat_cond] at hy
    have := y.toBitVec.isLt
    split at hy
    · omega
    · omega
  rw [hy, hz]
  omega
theorem am_and_ok {a b : aV} {x y : Int32} (hx : am_I ρ a x) (hy : am_I ρ b y) : am_I ρ (am_and a b) (x &&& y) := by
  unfold am_and
  cases hc : am_isc b && am_le 0 b.2.1 && !(am_isc a)
  · exact am_k2_ok (f := fun x y => x &&& y) hx hy
  · rw [Bool.and_eq_true, Bool.and_eq_true, am_le_iff] at hc
    have hb := am_isc_iff.mp hc.1.1
    have h1 := hy.1; have h2 := hy.2.1
    have := am_and_le (x := x) (y := y) (by omega)
    exact ⟨this.1, by show _ ≤ b.2.1; omega, Or.inl rfl⟩
theorem am_and_tag (a b : aV) : (am_and a b).1 = 0 := by
  unfold am_and am_k2
  cases am_isc b && am_le 0 b.2.1 && !(am_isc a)
  · cases am_isc a && am_isc b <;> rfl
  · rfl
theorem am_fact_ok {r i j : Nat} {t : Bool} : ∀ {F : aF}, am_Fo ρ F → am_fact F r i j = some t → (r, i, j, t) ∈ F
  | [], _, h => by simp [am_fact] at h
  | (r', i', j', t') :: G, hF, h => by
    unfold am_fact at h
    cases hc : Nat.beq r r' && Nat.beq i i' && Nat.beq j j'
    · rw [hc] at h
      exact List.mem_cons_of_mem _ (am_fact_ok (fun e he => hF e (List.mem_cons_of_mem _ he)) h)
    · rw [hc] at h
      rw [Bool.and_eq_true, Bool.and_eq_true] at hc
      cases h
      rw [am_bq hc.1.1, am_bq hc.1.2, am_bq hc.2]
      exact List.mem_cons_self
theorem am_lt_ok (hF : am_Fo ρ F) {a b : aV} {X Y : Int} {t : Bool} (h1 : a.2.1 ≤ X ∧ X ≤ a.2.2.1) (h2 : b.2.1 ≤ Y ∧ Y ≤ b.2.2.1) (h3 : a.2.2.2.1 = 0 ∨ (a.2.2.2.2 = 0 → X = (ρ a.2.2.2.1).toInt)) (h4 : b.2.2.2.1 = 0 ∨ (b.2.2.2.2 = 0 → Y = (ρ b.2.2.2.1).toInt)) (h : am_lt F a b = some t) : t = true ↔ X < Y := by
  unfold am_lt at h
  cases hc : am_le (a.2.2.1 + 1) b.2.1
  · rw [hc] at h
    cases hd : am_le b.2.2.1 a.2.1
    · rw [hd] at h
      cases he : (Nat.beq a.2.2.2.1 0 || Nat.beq b.2.2.2.1 0 || !(am_ieq a.2.2.2.2 0) || !(am_ieq b.2.2.2.2 0))
      · rw [he] at h
        simp only [Bool.or_eq_false_iff, Bool.not_eq_false', am_ieq_iff] at he
        obtain ⟨⟨⟨e1, e2⟩, e3⟩, e4⟩ := he
        have e1 : a.2.2.2.1 ≠ 0 := fun z => by rw [z] at e1; cases e1
        have e2 : b.2.2.2.1 ≠ 0 := fun z => by rw [z] at e2; cases e2
        have hm := (hF _ (am_fact_ok hF h)).2 rfl
        dsimp only at hm
        rw [hm, h3.resolve_left e1 e3, h4.resolve_left e2 e4]
      · rw [he] at h
        cases h
    · rw [hd] at h
      cases h
      rw [am_le_iff] at hd
      constructor
      · intro z; cases z
      · intro z; omega
  · rw [hc] at h
    cases h
    rw [am_le_iff] at hc
    constructor
    · intro _; omega
    · intro _; rfl
theorem am_ofInt0 : Int32.ofInt 0 = 0 := rfl
theorem am_I.sym {a : aV} {x : Int32} (h : am_I ρ a x) : a.2.2.2.1 = 0 ∨ (a.2.2.2.2 = 0 → x.toInt = (ρ a.2.2.2.1).toInt) := by
  rcases h.2.2 with h | h
  · exact Or.inl h
  · refine Or.inr (fun z => ?_)
    rw [h, z, am_ofInt0, Int32.add_zero]
theorem am_J.sym {a : aV} {x : Int64} (h : am_J ρ a x) : a.2.2.2.1 = 0 ∨ (a.2.2.2.2 = 0 → x.toInt = (ρ a.2.2.2.1).toInt) := by
  rcases h.2.2 with h | h
  · exact Or.inl h
  · exact Or.inr (fun _ => h.2)
theorem am_ltI (hF : am_Fo ρ F) {a b : aV} {x y : Int32} {t : Bool} (hx : am_I ρ a x) (hy : am_I ρ b y) (h : am_lt F a b = some t) : decide (x < y) = t := by
  have := am_lt_ok hF ⟨hx.1, hx.2.1⟩ ⟨hy.1, hy.2.1⟩ hx.sym hy.sym h
  rw [← Int32.lt_iff_toInt_lt] at this
  cases t
  · exact decide_eq_false (fun z => by have := this.mpr z; cases this)
  · exact decide_eq_true (this.mp rfl)
theorem am_eqI (hF : am_Fo ρ F) {a b : aV} {x y : Int32} {t : Bool} (hx : am_I ρ a x) (hy : am_I ρ b y) (h : am_eq F a b = some t) : decide (x = y) = t := by
  have h1 := hx.1; have h2 := hx.2.1; have h3 := hy.1; have h4 := hy.2.1
  unfold am_eq at h
  cases hc : am_isc a && am_isc b && am_ieq a.2.1 b.2.1
  · rw [hc] at h
    cases hd : am_le (a.2.2.1 + 1) b.2.1 || am_le (b.2.2.1 + 1) a.2.1
    · rw [hd] at h
      cases he : Nat.beq a.2.2.2.1 0 || Nat.beq b.2.2.2.1 0
      · rw [he] at h
        rw [Bool.or_eq_false_iff] at he
        have e1 : a.2.2.2.1 ≠ 0 := fun z => by rw [z] at he; cases he.1
        have e2 : b.2.2.2.1 ≠ 0 := fun z => by rw [z] at he; cases he.2
        cases hg : Nat.beq a.2.2.2.1 b.2.2.2.1 && am_ieq a.2.2.2.2 b.2.2.2.2
        · rw [hg] at h
          obtain ⟨g1, g2⟩ := am_cond h
          rw [Bool.and_eq_true, am_ieq_iff, am_ieq_iff] at g1
          have hm := (hF _ (am_fact_ok hF g2)).1 rfl
          dsimp only at hm
          have q1 := hx.2.2.resolve_left e1
          have q2 := hy.2.2.resolve_left e2
          rw [g1.1, am_ofInt0, Int32.add_zero] at q1
          rw [g1.2, am_ofInt0, Int32.add_zero] at q2
          rw [← q1, ← q2] at hm
          cases t
          · exact decide_eq_false (fun z => by have := hm.mpr z; cases this)
          · exact decide_eq_true (hm.mp rfl)
        · rw [hg] at h
          rw [Bool.and_eq_true, am_ieq_iff] at hg
          cases h
          refine decide_eq_true ?_
          rw [hx.2.2.resolve_left e1, hy.2.2.resolve_left e2, am_bq hg.1, hg.2]
      · rw [he] at h
        cases h
    · rw [hd] at h
      cases h
      rw [Bool.or_eq_true, am_le_iff, am_le_iff] at hd
      refine decide_eq_false (fun z => ?_)
      subst z
      omega
  · rw [hc] at h
    cases h
    rw [Bool.and_eq_true, Bool.and_eq_true, am_ieq_iff] at hc
    refine decide_eq_true ?_
    rw [hx.const hc.1.1, hy.const hc.1.2, hc.2]
theorem am_lcmp_ok (hF : am_Fo ρ F) {a b : aV} {x y : Int64} (hx : am_J ρ a x) (hy : am_J ρ b y) : am_I ρ (am_lcmp F a b) (lg_cmp x y) := by
  have L : ∀ t, am_lt F a b = some t → (t = true ↔ x.toInt < y.toInt) := fun t h => am_lt_ok hF ⟨hx.1, hx.2.1⟩ ⟨hy.1, hy.2.1⟩ hx.sym hy.sym h
  have G : ∀ t, am_lt F b a = some t → (t = true ↔ y.toInt < x.toInt) := fun t h => am_lt_ok hF ⟨hy.1, hy.2.1⟩ ⟨hx.1, hx.2.1⟩ hy.sym hx.sym h
  have hv : (lg_cmp x y).toInt = if y.toInt < x.toInt then 1 else if x.toInt = y.toInt then 0 else -1 := by
    unfold lg_cmp
    simp only [gt_iff_lt, Int64.lt_iff_toInt_lt, ← Int64.toInt_inj]
    split
    · rfl
    · split <;> rfl
  have L1 : am_lt F a b = some true → x.toInt < y.toInt := fun h => (L _ h).mp rfl
  have L0 : am_lt F a b = some false → ¬ x.toInt < y.toInt := fun h z => Bool.noConfusion ((L _ h).mpr z)
  have G1 : am_lt F b a = some true → y.toInt < x.toInt := fun h => (G _ h).mp rfl
  have G0 : am_lt F b a = some false → ¬ y.toInt < x.toInt := fun h z => Bool.noConfusion ((G _ h).mpr z)
  unfold am_lcmp am_I
  rw [hv]
  refine ⟨?_, ?_, Or.inl rfl⟩ <;> dsimp only
  · rcases ha : am_lt F a b with _ | _ | _ <;> rcases hb : am_lt F b a with _ | _ | _ <;> dsimp only <;> (try have l1 := L1 ha) <;> (try have l0 := L0 ha) <;> (try have g1 := G1 hb) <;> (try have g0 := G0 hb) <;> (repeat' split) <;> omega
  · rcases ha : am_lt F a b with _ | _ | _ <;> rcases hb : am_lt F b a with _ | _ | _ <;> dsimp only <;> (try have l1 := L1 ha) <;> (try have l0 := L0 ha) <;> (try have g1 := G1 hb) <;> (try have g0 := G0 hb) <;> (repeat' split) <;> omega
end AMA
/-! THE BOX MACHINE IS SOUND: steps without the heap -/
section AMB
variable {ρ : Nat → Int32} {F : aF} {m : Nat} {pc pc' : Nat} {als als' : aL} {ast ast' : List aV} {ls : pmL} {st : List Value} {hh : pmH} {c k : Nat}
def am_A (ρ : Nat → Int32) (m : Nat) (i : Instr) (pc : Nat) (ls : pmL) (st : List Value) (hh : pmH) (c k : Nat) (pc' : Nat) (als' : aL) (ast' : List aV) : Prop :=
  ∃ ls' st', pm_stepA m i pc ls st hh c k = some (pc', ls', st', hh, c, k) ∧ am_ls ρ als' ls' ∧ am_sk ρ ast' st'
theorem am_ld_ok {j t q : Nat} (hl : am_ls ρ als ls) (hs : am_sk ρ ast st) (h : am_ld als ast j t q = some (pc', als', ast')) : ∃ v a, pm_get ls j = some v ∧ a.1 = t ∧ am_v ρ a v ∧ pc' = q ∧ als' = als ∧ ast' = a :: ast := by
  unfold am_ld at h
  split at h
  · next a ha =>
    obtain ⟨h1, h2⟩ := am_cond h
    cases h2
    obtain ⟨v, h3, h4⟩ := am_look hl ha
    exact ⟨v, a, h3, am_bq h1, h4, rfl, rfl, rfl⟩
  · cases h
theorem am_blt {a b : Nat} (h : Nat.blt a b = true) : a < b := Nat.le_of_ble_eq_true h
theorem am_sto_ok {ml j t q : Nat} (hl : am_ls ρ als ls) (hs : am_sk ρ ast st) (h : am_sto ml als ast j t q = some (pc', als', ast')) : ∃ v vs a, st = v :: vs ∧ a.1 = t ∧ am_v ρ a v ∧ j < ml ∧ pc' = q ∧ am_ls ρ als' (pm_st1 ls j v) ∧ am_sk ρ ast' vs := by
  unfold am_sto at h
  split at h
  · next a r =>
    obtain ⟨h1, h2⟩ := am_cond h
    rw [Bool.and_eq_true] at h1
    cases h2
    obtain ⟨v, vs, rfl, h3, h4⟩ := hs.c
    exact ⟨v, vs, a, rfl, am_bq h1.1, h3, am_blt h1.2, rfl, am_st1_ok hl h3, h4⟩
  · cases h
theorem am_stl_ok {ml j q : Nat} (hl : am_ls ρ als ls) (hs : am_sk ρ ast st) (h : am_stl ml als ast j q = some (pc', als', ast')) : ∃ x vs, st = .long x :: vs ∧ j + 1 < ml ∧ pc' = q ∧ am_ls ρ als' (pm_st2 ls j (.long x)) ∧ am_sk ρ ast' vs := by
  unfold am_stl at h
  split at h
  · next a r =>
    obtain ⟨h1, h2⟩ := am_cond h
    rw [Bool.and_eq_true] at h1
    cases h2
    obtain ⟨v, vs, rfl, h3, h4⟩ := hs.c
    obtain ⟨x, rfl, _⟩ := h3.long (am_bq h1.1)
    exact ⟨x, vs, rfl, am_blt h1.2, rfl, am_st2_ok hl h3, h4⟩
  · cases h
theorem am_bin_ok {t u : Nat} {f : aV → aV → aV} (hs : am_sk ρ ast st) (h : am_bin als ast pc t u f = some (pc', als', ast')) : ∃ v w vs a b r, st = w :: v :: vs ∧ b.1 = t ∧ a.1 = u ∧ am_v ρ a v ∧ am_v ρ b w ∧ am_sk ρ r vs ∧ pc' = pc + 1 ∧ als' = als ∧ ast' = f a b :: r := by
  unfold am_bin at h
  split at h
  · next y x r =>
    obtain ⟨h1, h2⟩ := am_cond h
    rw [Bool.and_eq_true] at h1
    cases h2
    obtain ⟨w, vs, rfl, h3, h4⟩ := hs.c
    obtain ⟨v, vs, rfl, h5, h6⟩ := h4.c
    exact ⟨v, w, vs, x, y, r, rfl, am_bq h1.1, am_bq h1.2, h5, h3, h6, rfl, rfl, rfl⟩
  · cases h
theorem am_bII {f : aV → aV → aV} {g : Int32 → Int32 → Int32} {i : Instr} (hf : ∀ a b, a.1 = 0 → b.1 = 0 → (f a b).1 = 0) (hfg : ∀ a b x y, am_I ρ a x → am_I ρ b y → am_I ρ (f a b) (g x y)) (hg : ∀ x y r, pm_stepA m i pc ls (.int y :: .int x :: r) hh c k = some (pc + 1, ls, .int (g x y) :: r, hh, c, k)) (hl : am_ls ρ als ls) (hs : am_sk ρ ast st) (h : am_bin als ast pc 0 0 f = some (pc', als', ast')) : am_A ρ m i pc ls st hh c k pc' als' ast' := by
  obtain ⟨v, w, vs, a, b, r, rfl, hb, ha, hv, hw, hr, rfl, rfl, rfl⟩ := am_bin_ok hs h
  obtain ⟨x, rfl, hx⟩ := hv.int ha
  obtain ⟨y, rfl, hy⟩ := hw.int hb
  exact ⟨_, _, hg x y vs, hl, .ofI (hf a b ha hb) (hfg a b x y hx hy), hr⟩
theorem am_bJJ {f : aV → aV → aV} {g : Int64 → Int64 → Int64} {i : Instr} (hf : ∀ a b, (f a b).1 = 1) (hfg : ∀ a b x y, am_J ρ a x → am_J ρ b y → am_J ρ (f a b) (g x y)) (hg : ∀ x y r, pm_stepA m i pc ls (.long y :: .long x :: r) hh c k = some (pc + 1, ls, .long (g x y) :: r, hh, c, k)) (hl : am_ls ρ als ls) (hs : am_sk ρ ast st) (h : am_bin als ast pc 1 1 f = some (pc', als', ast')) : am_A ρ m i pc ls st hh c k pc' als' ast' := by
  obtain ⟨v, w, vs, a, b, r, rfl, hb, ha, hv, hw, hr, rfl, rfl, rfl⟩ := am_bin_ok hs h
  obtain ⟨x, rfl, hx⟩ := hv.long ha
  obtain ⟨y, rfl, hy⟩ := hw.long hb
  exact ⟨_, _, hg x y vs, hl, .ofJ (hf a b) (hfg a b x y hx hy), hr⟩
theorem am_bJI {f : aV → aV → aV} {g : Int64 → Int32 → Int64} {i : Instr} (hf : ∀ a b, (f a b).1 = 1) (hfg : ∀ a b x y, am_J ρ a x → am_I ρ b y → am_J ρ (f a b) (g x y)) (hg : ∀ x y r, pm_stepA m i pc ls (.int y :: .long x :: r) hh c k = some (pc + 1, ls, .long (g x y) :: r, hh, c, k)) (hl : am_ls ρ als ls) (hs : am_sk ρ ast st) (h : am_bin als ast pc 0 1 f = some (pc', als', ast')) : am_A ρ m i pc ls st hh c k pc' als' ast' := by
  obtain ⟨v, w, vs, a, b, r, rfl, hb, ha, hv, hw, hr, rfl, rfl, rfl⟩ := am_bin_ok hs h
  obtain ⟨x, rfl, hx⟩ := hv.long ha
  obtain ⟨y, rfl, hy⟩ := hw.int hb
  exact ⟨_, _, hg x y vs, hl, .ofJ (hf a b) (hfg a b x y hx hy), hr⟩
theorem am_br_ok {ob : Option Bool} {off : Int} {r : aS} (h : am_br ob pc off als ast = some r) : ∃ b t, ob = some b ∧ pm_tgt pc off = some t ∧ r = (cond b t (pc + 3), als, ast) := by
  unfold am_br at h
  split at h
  · next b t ht => exact ⟨b, t, rfl, ht, (Option.some.inj h).symm⟩
  · cases h
theorem am_not_ok {o : Option Bool} {b : Bool} (h : am_not o = some b) : o = some (!b) := by
  unfold am_not at h
  split at h
  · next b' => cases h; rw [Bool.not_not]
  · cases h
theorem am_brr {b' : Bool} {ob : Option Bool} {off : Int} {i : Instr} {r : List Value} (hl : am_ls ρ als ls) (hr : am_sk ρ ast r) (h : am_br ob pc off als ast = some (pc', als', ast')) (hb : ∀ b, ob = some b → b' = b) (hg : pm_stepA m i pc ls st hh c k = pm_br b' pc off ls r hh c k) : am_A ρ m i pc ls st hh c k pc' als' ast' := by
  obtain ⟨b, t, h1, h2, h3⟩ := am_br_ok h
  cases h3
  refine ⟨ls, r, ?_, hl, hr⟩
  rw [hg, hb b h1]
  unfold pm_br
  rw [h2]
theorem am_k2_tag (f : Int32 → Int32 → Int32) (a b : aV) : (am_k2 f a b).1 = 0 := by unfold am_k2; cases am_isc a && am_isc b <;> rfl
theorem am_l2_tag (f : Int64 → Int64 → Int64) (a b : aV) : (am_l2 f a b).1 = 1 := by unfold am_l2; cases am_isc a && am_isc b <;> rfl
theorem am_l3_tag (f : Int64 → Int32 → Int64) (a b : aV) : (am_l3 f a b).1 = 1 := by unfold am_l3; cases am_isc a && am_isc b <;> rfl
theorem am_add_tag (a b : aV) : (am_add a b).1 = 0 := by unfold am_add; cases am_in32 (a.2.1 + b.2.1) && am_in32 (a.2.2.1 + b.2.2.1) <;> rfl
theorem am_sub_tag (a b : aV) : (am_sub a b).1 = 0 := by unfold am_sub; cases am_in32 (a.2.1 - b.2.2.1) && am_in32 (a.2.2.1 - b.2.1) <;> rfl
theorem am_ne0 {a : aV} {y : Int32} (hy : am_I ρ a y) (h : (am_le 1 a.2.1 || am_le a.2.2.1 (-1)) = true) : ¬ y = 0 := by
  rw [Bool.or_eq_true, am_le_iff, am_le_iff] at h
  have h1 := hy.1; have h2 := hy.2.1
  rintro rfl
  have : (0 : Int32).toInt = 0 := rfl
  omega
theorem am_c0 : am_I ρ (am_c 0) 0 := am_c_ok 0
theorem am_le32 {x y : Int32} : decide (y ≤ x) = !decide (x < y) := by
  rw [← decide_not]
  exact decide_eq_decide.mpr Int32.not_lt.symm
theorem am_nq {x y : Int32} : decide (¬ x = y) = !decide (x = y) := decide_not
set_option maxHeartbeats 4000000 in
theorem am_stA (hF : am_Fo ρ F) {i : Instr} (hl : am_ls ρ als ls) (hs : am_sk ρ ast st) (h : am_stepA F (pm_maxL m) i pc als ast = some (pc', als', ast')) : am_A ρ m i pc ls st hh c k pc' als' ast' := by
  cases i
  case iconst n => simp only [am_stepA] at h; obtain ⟨h1, h2⟩ := am_cond h; cases h2; exact ⟨_, _, rfl, hl, .ofI rfl (am_c_of h1), hs⟩
  case bipush n =>
    simp only [am_stepA] at h; obtain ⟨h1, h2⟩ := am_cond h; cases h2
    rw [Bool.and_eq_true, am_le_iff, am_le_iff] at h1
    have e : (Int8.ofInt n).toInt32.toInt = n := by rw [Int8.toInt_toInt32]; exact Int8.toInt_ofInt_of_le h1.1 (by have := h1.2; omega)
    refine ⟨_, _, rfl, hl, .ofI rfl ?_, hs⟩
    have := am_c_ok (ρ := ρ) (Int8.ofInt n).toInt32
    rwa [e] at this
  case sipush n =>
    simp only [am_stepA] at h; obtain ⟨h1, h2⟩ := am_cond h; cases h2
    rw [Bool.and_eq_true, am_le_iff, am_le_iff] at h1
    have e : (Int16.ofInt n).toInt32.toInt = n := by rw [Int16.toInt_toInt32]; exact Int16.toInt_ofInt_of_le h1.1 (by have := h1.2; omega)
    refine ⟨_, _, rfl, hl, .ofI rfl ?_, hs⟩
    have := am_c_ok (ρ := ρ) (Int16.ofInt n).toInt32
    rwa [e] at this
  case lconst n =>
    simp only [am_stepA] at h; obtain ⟨h1, h2⟩ := am_cond h; cases h2
    have h1 := Nat.le_of_ble_eq_true h1
    refine ⟨_, _, rfl, hl, .ofJ rfl ?_, hs⟩
    have e : (Int64.ofNat n).toInt = (n : Nat) := by
      have : (n : Nat) = 0 ∨ (n : Nat) = 1 := by omega
      rcases this with z | z <;> (rw [z]; rfl)
    have := am_j_ok (ρ := ρ) (Int64.ofNat n)
    rwa [e] at this
  case iload_n j =>
    simp only [am_stepA] at h
    obtain ⟨v, a, h1, h2, h3, rfl, rfl, rfl⟩ := am_ld_ok hl hs h
    obtain ⟨x, rfl, hx⟩ := h3.int h2
    exact ⟨ls, .int x :: st, by simp only [pm_stepA, h1], hl, h3, hs⟩
  case iload j =>
    simp only [am_stepA] at h
    obtain ⟨v, a, h1, h2, h3, rfl, rfl, rfl⟩ := am_ld_ok hl hs h
    obtain ⟨x, rfl, hx⟩ := h3.int h2
    exact ⟨ls, .int x :: st, by simp only [pm_stepA, h1], hl, h3, hs⟩
  case lload_n j =>
    simp only [am_stepA] at h
    obtain ⟨v, a, h1, h2, h3, rfl, rfl, rfl⟩ := am_ld_ok hl hs h
    obtain ⟨x, rfl, hx⟩ := h3.long h2
    exact ⟨ls, .long x :: st, by simp only [pm_stepA, h1], hl, h3, hs⟩
  case lload j =>
    simp only [am_stepA] at h
    obtain ⟨v, a, h1, h2, h3, rfl, rfl, rfl⟩ := am_ld_ok hl hs h
    obtain ⟨x, rfl, hx⟩ := h3.long h2
    exact ⟨ls, .long x :: st, by simp only [pm_stepA, h1], hl, h3, hs⟩
  case aload_n j =>
    simp only [am_stepA] at h
    obtain ⟨v, a, h1, h2, h3, rfl, rfl, rfl⟩ := am_ld_ok hl hs h
    obtain ⟨x, rfl, hx⟩ := h3.ref h2
    exact ⟨ls, .ref x :: st, by simp only [pm_stepA, h1], hl, h3, hs⟩
  case aload j =>
    simp only [am_stepA] at h
    obtain ⟨v, a, h1, h2, h3, rfl, rfl, rfl⟩ := am_ld_ok hl hs h
    obtain ⟨x, rfl, hx⟩ := h3.ref h2
    exact ⟨ls, .ref x :: st, by simp only [pm_stepA, h1], hl, h3, hs⟩
  case istore_n j =>
    simp only [am_stepA] at h
    obtain ⟨v, vs, a, rfl, h2, h3, h4, rfl, h5, h6⟩ := am_sto_ok hl hs h
    obtain ⟨x, rfl, hx⟩ := h3.int h2
    exact ⟨_, _, by simp only [pm_stepA, if_pos h4], h5, h6⟩
  case istore j =>
    simp only [am_stepA] at h
    obtain ⟨v, vs, a, rfl, h2, h3, h4, rfl, h5, h6⟩ := am_sto_ok hl hs h
    obtain ⟨x, rfl, hx⟩ := h3.int h2
    exact ⟨_, _, by simp only [pm_stepA, if_pos h4], h5, h6⟩
  case lstore_n j =>
    simp only [am_stepA] at h
    obtain ⟨x, vs, rfl, h4, rfl, h5, h6⟩ := am_stl_ok hl hs h
    exact ⟨_, _, by simp only [pm_stepA, if_pos h4], h5, h6⟩
  case lstore j =>
    simp only [am_stepA] at h
    obtain ⟨x, vs, rfl, h4, rfl, h5, h6⟩ := am_stl_ok hl hs h
    exact ⟨_, _, by simp only [pm_stepA, if_pos h4], h5, h6⟩
  case astore_n j =>
    simp only [am_stepA] at h
    obtain ⟨v, vs, a, rfl, h2, h3, h4, rfl, h5, h6⟩ := am_sto_ok hl hs h
    obtain ⟨x, rfl, hx⟩ := h3.ref h2
    exact ⟨_, _, by simp only [pm_stepA, if_pos h4], h5, h6⟩
  case astore j =>
    simp only [am_stepA] at h
    obtain ⟨v, vs, a, rfl, h2, h3, h4, rfl, h5, h6⟩ := am_sto_ok hl hs h
    obtain ⟨x, rfl, hx⟩ := h3.ref h2
    exact ⟨_, _, by simp only [pm_stepA, if_pos h4], h5, h6⟩
  case iinc j n =>
    simp only [am_stepA] at h; split at h
    · next a ha =>
      obtain ⟨h1, h2⟩ := am_cond h
      cases h2
      rw [Bool.and_eq_true, Bool.and_eq_true] at h1
      obtain ⟨v, h3, h4⟩ := am_look hl ha
      obtain ⟨x, rfl, hx⟩ := h4.int (am_bq h1.1.1)
      have h3 : pm_get ls j = some (.int x) := h3
      exact ⟨_, _, by simp only [pm_stepA, h3, if_pos (am_blt h1.1.2)], am_st1_ok hl (.ofI (am_add_tag _ _) (am_add_ok hx (am_c_of h1.2))), hs⟩
    · cases h
  case dup =>
    simp only [am_stepA] at h; split at h
    · next a r =>
      obtain ⟨h1, h2⟩ := am_cond h
      cases h2
      obtain ⟨v, vs, rfl, h3, h4⟩ := hs.c
      rw [Bool.or_eq_true] at h1
      rcases h1 with h1 | h1
      · obtain ⟨x, rfl, hx⟩ := h3.int (am_bq h1)
        exact ⟨_, _, rfl, hl, h3, h3, h4⟩
      · obtain ⟨x, rfl, hx⟩ := h3.ref (am_bq h1)
        exact ⟨_, _, rfl, hl, h3, h3, h4⟩
    · cases h
  case dup2 =>
    simp only [am_stepA] at h; split at h
    · next a b r =>
      obtain ⟨h1, h2⟩ := am_cond h
      cases h2
      obtain ⟨v, vs, rfl, h3, h4⟩ := hs.c
      obtain ⟨w, vs, rfl, h5, h6⟩ := h4.c
      rw [Bool.and_eq_true] at h1
      obtain ⟨x, rfl, hx⟩ := h3.int (am_bq h1.1)
      obtain ⟨y, rfl, hy⟩ := h5.ref (am_bq h1.2)
      exact ⟨_, _, rfl, hl, h3, h5, h3, h5, h6⟩
    · cases h
  case iadd => exact am_bII (g := fun x y => x + y) (fun a b _ _ => am_add_tag a b) (fun a b x y => am_add_ok) (fun x y r => rfl) hl hs h
  case isub => exact am_bII (g := fun x y => x - y) (fun a b _ _ => am_sub_tag a b) (fun a b x y => am_sub_ok) (fun x y r => rfl) hl hs h
  case imul => exact am_bII (g := fun x y => x * y) (fun a b _ _ => am_k2_tag _ a b) (fun a b x y => am_k2_ok) (fun x y r => rfl) hl hs h
  case idiv =>
    simp only [am_stepA] at h; split at h
    · next y x r =>
      obtain ⟨h1, h2⟩ := am_cond h
      cases h2
      rw [Bool.and_eq_true, Bool.and_eq_true] at h1
      obtain ⟨v, vs, rfl, h3, h4⟩ := hs.c
      obtain ⟨w, vs, rfl, h5, h6⟩ := h4.c
      obtain ⟨y', rfl, hy⟩ := h3.int (am_bq h1.1.1)
      obtain ⟨x', rfl, hx⟩ := h5.int (am_bq h1.1.2)
      exact ⟨ls, .int (x' / y') :: vs, by simp only [pm_stepA, if_neg (am_ne0 hy h1.2)], hl, .ofI (am_k2_tag _ _ _) (am_k2_ok (f := fun x y => x / y) hx hy), h6⟩
    · cases h
  case irem =>
    simp only [am_stepA] at h; split at h
    · next y x r =>
      obtain ⟨h1, h2⟩ := am_cond h
      cases h2
      rw [Bool.and_eq_true, Bool.and_eq_true] at h1
      obtain ⟨v, vs, rfl, h3, h4⟩ := hs.c
      obtain ⟨w, vs, rfl, h5, h6⟩ := h4.c
      obtain ⟨y', rfl, hy⟩ := h3.int (am_bq h1.1.1)
      obtain ⟨x', rfl, hx⟩ := h5.int (am_bq h1.1.2)
      exact ⟨ls, .int (x' - x' / y' * y') :: vs, by simp only [pm_stepA, if_neg (am_ne0 hy h1.2)], hl, .ofI (am_k2_tag _ _ _) (am_k2_ok (f := fun x y => x - x / y * y) hx hy), h6⟩
    · cases h
  case iand => exact am_bII (g := fun x y => x &&& y) (fun a b _ _ => am_and_tag a b) (fun a b x y => am_and_ok) (fun x y r => rfl) hl hs h
  case ior => exact am_bII (g := fun x y => x ||| y) (fun a b _ _ => am_k2_tag _ a b) (fun a b x y => am_k2_ok) (fun x y r => rfl) hl hs h
  case ishl => exact am_bII (g := fun x y => x <<< (y &&& 31)) (fun a b _ _ => am_k2_tag _ a b) (fun a b x y => am_k2_ok) (fun x y r => rfl) hl hs h
  case ishr => exact am_bII (g := fun x y => x >>> (y &&& 31)) (fun a b _ _ => am_k2_tag _ a b) (fun a b x y => am_k2_ok) (fun x y r => rfl) hl hs h
  case iushr => exact am_bII (g := fun x y => (x.toUInt32 >>> (y.toUInt32 &&& Int32.toUInt32 31)).toInt32) (fun a b _ _ => am_k2_tag _ a b) (fun a b x y => am_k2_ok) (fun x y r => rfl) hl hs h
  case ladd => exact am_bJJ (g := fun x y => x + y) (fun a b => am_l2_tag _ a b) (fun a b x y => am_l2_ok) (fun x y r => rfl) hl hs h
  case lsub => exact am_bJJ (g := fun x y => x - y) (fun a b => am_l2_tag _ a b) (fun a b x y => am_l2_ok) (fun x y r => rfl) hl hs h
  case lmul => exact am_bJJ (g := fun x y => x * y) (fun a b => am_l2_tag _ a b) (fun a b x y => am_l2_ok) (fun x y r => rfl) hl hs h
  case land => exact am_bJJ (g := fun x y => x &&& y) (fun a b => am_l2_tag _ a b) (fun a b x y => am_l2_ok) (fun x y r => rfl) hl hs h
  case lor => exact am_bJJ (g := fun x y => x ||| y) (fun a b => am_l2_tag _ a b) (fun a b x y => am_l2_ok) (fun x y r => rfl) hl hs h
  case lxor => exact am_bJJ (g := fun x y => x ^^^ y) (fun a b => am_l2_tag _ a b) (fun a b x y => am_l2_ok) (fun x y r => rfl) hl hs h
  case lshl => exact am_bJI (g := fun x y => x <<< (y.toInt64 &&& 63)) (fun a b => am_l3_tag _ a b) (fun a b x y => am_l3_ok) (fun x y r => rfl) hl hs h
  case lshr => exact am_bJI (g := fun x y => x >>> (y.toInt64 &&& 63)) (fun a b => am_l3_tag _ a b) (fun a b x y => am_l3_ok) (fun x y r => rfl) hl hs h
  case lushr => exact am_bJI (g := fun x y => (x.toUInt64 >>> (y.toInt64.toUInt64 &&& Int64.toUInt64 63)).toInt64) (fun a b => am_l3_tag _ a b) (fun a b x y => am_l3_ok) (fun x y r => rfl) hl hs h
  case i2l =>
    simp only [am_stepA] at h; split at h
    · next a r =>
      obtain ⟨h1, h2⟩ := am_cond h
      cases h2
      obtain ⟨v, vs, rfl, h3, h4⟩ := hs.c
      obtain ⟨x, rfl, hx⟩ := h3.int (am_bq h1)
      refine ⟨_, _, rfl, hl, .ofJ rfl ⟨?_, ?_, ?_⟩, h4⟩
      · show a.2.1 ≤ _; rw [Int32.toInt_toInt64]; exact hx.1
      · show _ ≤ a.2.2.1; rw [Int32.toInt_toInt64]; exact hx.2.1
      · show (cond (am_ieq a.2.2.2.2 0) a.2.2.2.1 0) = 0 ∨ _
        cases ho : am_ieq a.2.2.2.2 0
        · exact Or.inl rfl
        · rcases hx.sym with z | z
          · exact Or.inl z
          · exact Or.inr ⟨rfl, by rw [Int32.toInt_toInt64]; exact z (am_ieq_iff.mp ho)⟩
    · cases h
  case l2i =>
    simp only [am_stepA] at h; split at h
    · next a r =>
      obtain ⟨h1, h2⟩ := am_cond h
      cases h2
      obtain ⟨v, vs, rfl, h3, h4⟩ := hs.c
      obtain ⟨x, rfl, hx⟩ := h3.long (am_bq h1)
      refine ⟨_, _, rfl, hl, ?_, h4⟩
      cases hc : am_isc a
      · exact .ofI rfl (am_top_ok _)
      · rw [hx.const hc]
        exact .ofI rfl (am_c_ok _)
    · cases h
  case lcmp =>
    simp only [am_stepA] at h
    obtain ⟨v, w, vs, a, b, r, rfl, hb, ha, hv, hw, hr, rfl, rfl, rfl⟩ := am_bin_ok hs h
    obtain ⟨x, rfl, hx⟩ := hv.long ha
    obtain ⟨y, rfl, hy⟩ := hw.long hb
    exact ⟨_, _, rfl, hl, .ofI rfl (am_lcmp_ok hF hx hy), hr⟩
  case goto off =>
    simp only [am_stepA] at h; split at h
    · next t ht => cases h; exact ⟨_, _, by simp only [pm_stepA, ht], hl, hs⟩
    · cases h
  case if_icmp cd off =>
    simp only [am_stepA] at h; split at h
    · next y x r =>
      obtain ⟨h1, h2⟩ := am_cond h
      rw [Bool.and_eq_true] at h1
      obtain ⟨v, vs, rfl, h3, h4⟩ := hs.c
      obtain ⟨w, vs, rfl, h5, h6⟩ := h4.c
      obtain ⟨y', rfl, hy⟩ := h3.int (am_bq h1.1)
      obtain ⟨x', rfl, hx⟩ := h5.int (am_bq h1.2)
      cases cd <;> simp only at h2
      case eq => exact am_brr (b' := decide (x' = y')) hl h6 h2 (fun b hb => am_eqI hF hx hy hb) rfl
      case ne => exact am_brr (b' := decide (¬ x' = y')) hl h6 h2 (fun b hb => by rw [am_nq, am_eqI hF hx hy (am_not_ok hb), Bool.not_not]) rfl
      case lt => exact am_brr (b' := decide (x' < y')) hl h6 h2 (fun b hb => am_ltI hF hx hy hb) rfl
      case ge => exact am_brr (b' := decide (y' ≤ x')) hl h6 h2 (fun b hb => by rw [am_le32, am_ltI hF hx hy (am_not_ok hb), Bool.not_not]) rfl
      case gt => exact am_brr (b' := decide (y' < x')) hl h6 h2 (fun b hb => am_ltI hF hy hx hb) rfl
      case le => exact am_brr (b' := decide (x' ≤ y')) hl h6 h2 (fun b hb => by rw [am_le32, am_ltI hF hy hx (am_not_ok hb), Bool.not_not]) rfl
    · cases h
  case ifCond cd off =>
    simp only [am_stepA] at h; split at h
    · next x r =>
      obtain ⟨h1, h2⟩ := am_cond h
      obtain ⟨w, vs, rfl, h5, h6⟩ := hs.c
      obtain ⟨x', rfl, hx⟩ := h5.int (am_bq h1)
      have hy := am_c0 (ρ := ρ)
      cases cd <;> simp only at h2
      case eq => exact am_brr (b' := decide (x' = 0)) hl h6 h2 (fun b hb => am_eqI hF hx hy hb) rfl
      case ne => exact am_brr (b' := decide (¬ x' = 0)) hl h6 h2 (fun b hb => by rw [am_nq, am_eqI hF hx hy (am_not_ok hb), Bool.not_not]) rfl
      case lt => exact am_brr (b' := decide (x' < 0)) hl h6 h2 (fun b hb => am_ltI hF hx hy hb) rfl
      case ge => exact am_brr (b' := decide (0 ≤ x')) hl h6 h2 (fun b hb => by rw [am_le32, am_ltI hF hx hy (am_not_ok hb), Bool.not_not]) rfl
      case gt => exact am_brr (b' := decide (0 < x')) hl h6 h2 (fun b hb => am_ltI hF hy hx hb) rfl
      case le => exact am_brr (b' := decide (x' ≤ 0)) hl h6 h2 (fun b hb => by rw [am_le32, am_ltI hF hy hx (am_not_ok hb), Bool.not_not]) rfl
    · cases h
  all_goals exact absurd h (by simp [am_stepA])
end AMB
/-! THE BOX MACHINE IS SOUND: the heap -/
def am_C (ρ : Nat → Int32) (a : aC) (x : pmC) : Prop := x.1 = a.1 ∧ x.2.1 = a.2.1 ∧ ∀ i, i < a.2.1 → (am_rd a.2.2.1 a.2.2.2 i).1 = 9 ∨ am_v ρ (am_rd a.2.2.1 a.2.2.2 i) (x.2.2 i)
def am_H (ρ : Nat → Int32) (a : aH) (h : pmH) : Prop := h.length = a.1 ∧ ∀ q x, pm_look a.2 q = some x → ∃ y, h[q]? = some y ∧ am_C ρ x y
def am_X (ρ : Nat → Int32) (AX : Option (Nat × List aV)) (X : pmX) : Prop := ∀ x, AX = some x → ∃ f, X = some (x.1, f) ∧ ∀ i a, x.2[i]? = some a → am_v ρ a (.int (f i))
theorem am_set_look {q q' : Nat} {c : aC} : ∀ {l : List (Nat × aC)}, pm_look (am_set l q c) q' = if q = q' then some c else pm_look l q'
  | [] => rfl
  | (j, a) :: r => by
    unfold am_set
    cases hj : Nat.beq j q
    · show pm_look ((j, a) :: am_set r q c) q' = _
      unfold pm_look
      have hne : j ≠ q := fun z => by rw [z, Nat.beq_refl] at hj; cases hj
      split
      · next e => rw [if_neg (fun z => hne (by rw [e, z]))]
      · exact am_set_look
    · show pm_look ((q, c) :: r) q' = _
      have hj := am_bq hj
      subst hj
      show (if j = q' then some c else pm_look r q') = if j = q' then some c else (if j = q' then some a else pm_look r q')
      split <;> rfl
theorem am_look_app {α : Type} {q : Nat} {x : α} : ∀ {l l2 : List (Nat × α)}, pm_look (l ++ l2) q = some x → pm_look l q = some x ∨ pm_look l2 q = some x
  | [], _, h => Or.inr h
  | (j, a) :: r, l2, h => by
    have h : (if j = q then some a else pm_look (r ++ l2) q) = some x := h
    show (if j = q then some a else pm_look r q) = some x ∨ _
    split at h
    · next e => rw [if_pos e]; exact Or.inl h
    · next e => rw [if_neg e]; exact am_look_app h
section AMC
variable {ρ : Nat → Int32}
theorem am_H.set {ah : aH} {h : pmH} {q : Nat} {a a' : aC} {x' : pmC} (hH : am_H ρ ah h) (hq : pm_look ah.2 q = some a) (hc : am_C ρ a' x') : am_H ρ (ah.1, am_set ah.2 q a') (h.set q x') := by
  refine ⟨by rw [List.length_set]; exact hH.1, fun q2 x hx => ?_⟩
  dsimp only at hx
  rw [am_set_look] at hx
  obtain ⟨y, hy, -⟩ := hH.2 _ _ hq
  split at hx
  · next e => subst e; cases hx; exact ⟨x', List.getElem?_set_self (List.getElem?_eq_some_iff.mp hy).1, hc⟩
  · next e =>
    obtain ⟨z, hz, hzc⟩ := hH.2 _ _ hx
    exact ⟨z, by rw [List.getElem?_set_ne e]; exact hz, hzc⟩
theorem am_H.lt {ah : aH} {h : pmH} {q : Nat} {a : aC} (hH : am_H ρ ah h) (hq : pm_look ah.2 q = some a) : q < ah.1 := by
  obtain ⟨y, hy, -⟩ := hH.2 _ _ hq
  have := (List.getElem?_eq_some_iff.mp hy).1
  rw [hH.1] at this
  exact this
theorem am_H.new {ah : aH} {h : pmH} {a : aC} {x : pmC} (hH : am_H ρ ah h) (hc : am_C ρ a x) : am_H ρ (ah.1 + 1, (ah.1, a) :: ah.2) (h ++ [x]) := by
  refine ⟨by rw [List.length_append, hH.1]; rfl, fun q y hy => ?_⟩
  replace hy : (if ah.1 = q then some a else pm_look ah.2 q) = some y := hy
  split at hy
  · next e => subst e; cases hy; exact ⟨x, by rw [← hH.1, List.getElem?_append_right (Nat.le_refl _), Nat.sub_self]; rfl, hc⟩
  · obtain ⟨z, hz, hzc⟩ := hH.2 _ _ hy
    exact ⟨z, by rw [List.getElem?_append_left (List.getElem?_eq_some_iff.mp hz).1]; exact hz, hzc⟩
theorem am_rows_look {t k b q : Nat} {d : aV} {y : aC} : ∀ {n : Nat}, pm_look (am_rows t k d b n) q = some y → ∃ j, j < n ∧ q = b + j ∧ y = (t, k, d, [])
  | 0, h => by simp [am_rows, pm_look] at h
  | n + 1, h => by
    have h : (if b + n = q then some ((t, k, d, []) : aC) else pm_look (am_rows t k d b n) q) = some y := h
    split at h
    · next e => cases h; exact ⟨n, Nat.lt_succ_self n, e.symm, rfl⟩
    · obtain ⟨j, h1, h2, h3⟩ := am_rows_look h
      exact ⟨j, Nat.lt_succ_of_lt h1, h2, h3⟩
theorem am_H.mna {ah : aH} {h : pmH} {t k n : Nat} {d : aV} {v : Value} (hH : am_H ρ ah h) (hd : am_v ρ d v) (h4 : d.1 ≠ 4) : am_H ρ (ah.1 + 1 + n, (ah.1, (t + 3, n, (4, (ah.1 + 1 : Nat), 0, 0, 0), [])) :: (ah.2 ++ am_rows t k d (ah.1 + 1) n)) (h ++ (pm_rows (t + 3) n (h.length + 1) :: List.replicate n (pm_mk t k v))) := by
  refine ⟨by rw [List.length_append, List.length_cons, List.length_replicate, hH.1]; dsimp only; omega, fun q y hy => ?_⟩
  replace hy : (if ah.1 = q then some ((t + 3, n, (4, ((ah.1 + 1 : Nat) : Int), 0, 0, 0), []) : aC) else pm_look (ah.2 ++ am_rows t k d (ah.1 + 1) n) q) = some y := hy
  split at hy
  · next e =>
    subst e
    cases hy
    refine ⟨pm_rows (t + 3) n (h.length + 1), by rw [← hH.1, List.getElem?_append_right (Nat.le_refl _), Nat.sub_self]; rfl, rfl, rfl, fun i hi => Or.inr ?_⟩
    refine .ofR (n := h.length + 1 + i) rfl ?_
    show ((ah.1 + 1 : Nat) : Int) + (i : Nat) = ((h.length + 1 + i : Nat) : Int)
    rw [hH.1]
    omega
  · rcases am_look_app hy with hy | hy
    · obtain ⟨z, hz, hzc⟩ := hH.2 _ _ hy
      exact ⟨z, by rw [List.getElem?_append_left (List.getElem?_eq_some_iff.mp hz).1]; exact hz, hzc⟩
    · obtain ⟨j, hj, rfl, rfl⟩ := am_rows_look hy
      refine ⟨pm_mk t k v, ?_, rfl, rfl, fun i _ => Or.inr ?_⟩
      · rw [List.getElem?_append_right (by rw [hH.1]; omega), hH.1, show ah.1 + 1 + j - ah.1 = j + 1 by omega, List.getElem?_cons_succ, List.getElem?_replicate, if_pos hj]
      · show am_v ρ (cond (Nat.beq d.1 4) _ d) v
        have : Nat.beq d.1 4 = false := by
          cases hb : Nat.beq d.1 4
          · rfl
          · exact absurd (am_bq hb) h4
        rw [this]
        exact hd
theorem am_fresh_look {ci i : Nat} : ∀ {n : Nat}, i < n → pm_look (am_fresh ci n) i = some (am_dv (pm_ty ci i))
  | 0, h => absurd h (Nat.not_lt_zero _)
  | n + 1, h => by
    show (if n = i then some (am_dv (pm_ty ci n)) else pm_look (am_fresh ci n) i) = _
    split
    · next e => rw [e]
    · exact am_fresh_look (by omega)
theorem am_dv_ok (ty : FieldType) : (am_dv ty).1 = 9 ∨ am_v ρ (am_dv ty) (defaultValue ty) := by
  cases ty
  case int => exact Or.inr (.ofI rfl (am_c_ok 0))
  case boolean => exact Or.inr (.ofI rfl (am_c_ok 0))
  case long => exact Or.inr (.ofJ rfl (am_j_ok 0))
  case object => exact Or.inr (Or.inr (Or.inr (Or.inr ⟨rfl, rfl⟩)))
  case array => exact Or.inr (Or.inr (Or.inr (Or.inr ⟨rfl, rfl⟩)))
  all_goals exact Or.inl rfl
theorem am_obj_ok (ci n : Nat) : am_C ρ (ci, n, (9, 0, 0, 0, 0), am_fresh ci n) (pm_obj ci n) := by
  refine ⟨rfl, rfl, fun i hi => ?_⟩
  show (am_rd (9, 0, 0, 0, 0) (am_fresh ci n) i).1 = 9 ∨ am_v ρ (am_rd (9, 0, 0, 0, 0) (am_fresh ci n) i) (defaultValue (pm_ty ci i))
  unfold am_rd
  rw [am_fresh_look hi]
  exact am_dv_ok _
theorem am_mk_ok {t n : Nat} {d : aV} {v : Value} (hd : am_v ρ d v) (h4 : d.1 ≠ 4) : am_C ρ (t, n, d, []) (pm_mk t n v) := by
  refine ⟨rfl, rfl, fun i hi => Or.inr ?_⟩
  show am_v ρ (cond (Nat.beq d.1 4) _ d) v
  have : Nat.beq d.1 4 = false := by
    cases hb : Nat.beq d.1 4
    · rfl
    · exact absurd (am_bq hb) h4
  rw [this]
  exact hd
/-- a place of a cell, written -/
theorem am_C.upd {t n : Nat} {d : aV} {ov : List (Nat × aV)} {x : pmC} {i : Nat} {a : aV} {v : Value} (h : am_C ρ (t, n, d, ov) x) (hv : am_v ρ a v) : am_C ρ (t, n, d, (i, a) :: ov) (x.1, x.2.1, pm_upd x.2.2 i v) := by
  refine ⟨h.1, h.2.1, fun j hj => ?_⟩
  have hr : am_rd d ((i, a) :: ov) j = if i = j then a else am_rd d ov j := by
    show (match (if i = j then some a else pm_look ov j) with | some a => a | none => _) = _
    split <;> (split <;> rename_i h1 h2 <;> first | (rw [if_pos h2] at h1; cases h1; rfl) | (rw [if_neg h2] at h1; unfold am_rd; rw [h1]) | (rw [if_pos h2] at h1; cases h1))
  show (am_rd d ((i, a) :: ov) j).1 = 9 ∨ am_v ρ (am_rd d ((i, a) :: ov) j) (if j = i then v else x.2.2 j)
  rw [hr]
  by_cases e : i = j
  · rw [if_pos e, if_pos e.symm]; exact Or.inr hv
  · rw [if_neg e, if_neg (fun z => e z.symm)]; exact h.2.2 j hj
theorem am_tn {x : Int32} : x.toNatClampNeg = x.toInt.toNat := rfl
theorem am_ix_ok {a : aV} {v : Value} {n i : Nat} (h : am_ix a n = some i) (hv : am_v ρ a v) : ∃ x, v = .int x ∧ pm_ix x n = true ∧ x.toNatClampNeg = i ∧ i < n ∧ 0 ≤ x := by
  unfold am_ix at h
  obtain ⟨h1, h2⟩ := am_cond h
  rw [Bool.and_eq_true, Bool.and_eq_true, Bool.and_eq_true, am_le_iff] at h1
  obtain ⟨⟨⟨h3, h4⟩, h5⟩, h6⟩ := h1
  obtain ⟨x, rfl, hx⟩ := hv.int (am_bq h3)
  have h4 := am_isc_iff.mp h4
  have h6 := am_blt h6
  cases h2
  have e : x.toInt = a.2.1 := by have := hx.1; have := hx.2.1; omega
  have h0 : 0 ≤ x := by rw [Int32.le_iff_toInt_le]; show 0 ≤ x.toInt; omega
  refine ⟨x, rfl, ?_, ?_, h6, h0⟩
  · unfold pm_ix
    rw [am_tn, e, Bool.and_eq_true]
    exact ⟨decide_eq_true h0, decide_eq_true h6⟩
  · rw [am_tn, e]
theorem am_okv_ok {ty : FieldType} {a : aV} {v : Value} (h : am_okv ty a = true) (hv : am_v ρ a v) : pm_okv ty v = true := by
  unfold pm_okv
  cases ty <;> simp only [am_okv, Bool.false_eq_true] at h
  case int => obtain ⟨x, rfl, _⟩ := hv.int (am_bq h); rw [decide_eq_true (show narrow .int (.int x) = .int x from rfl)]; rfl
  case long => obtain ⟨x, rfl, _⟩ := hv.long (am_bq h); rw [decide_eq_true (show narrow .long (.long x) = .long x from rfl)]; rfl
  case boolean =>
    rw [Bool.and_eq_true, Bool.and_eq_true, am_le_iff, am_le_iff] at h
    obtain ⟨x, rfl, hx⟩ := hv.int (am_bq h.1.1)
    have h1 := hx.1; have h2 := hx.2.1
    have : x = 0 ∨ x = 1 := by
      rw [← Int32.toInt_inj, ← Int32.toInt_inj]
      have e0 : (0 : Int32).toInt = 0 := rfl
      have e1 : (1 : Int32).toInt = 1 := rfl
      omega
    rcases this with rfl | rfl <;> decide
  case object => obtain ⟨x, rfl, _⟩ := hv.ref (am_bq h); rw [decide_eq_true (show narrow (.object _) (.ref x) = .ref x from rfl)]; rfl
  case array => obtain ⟨x, rfl, _⟩ := hv.ref (am_bq h); rw [decide_eq_true (show narrow (.array _) (.ref x) = .ref x from rfl)]; rfl
end AMC
/-! THE BOX MACHINE IS SOUND: steps with the heap -/
section AMD
variable {ρ : Nat → Int32} {AX : Option (Nat × List aV)} {X : pmX} {m : Nat} {pc pc' : Nat} {als als' : aL} {ast ast' : List aV} {ah ah' : aH} {ls : pmL} {st : List Value} {h : pmH} {c k c' k' : Nat}
def am_B (ρ : Nat → Int32) (X : pmX) (m : Nat) (i : Instr) (pc : Nat) (ls : pmL) (st : List Value) (h : pmH) (c k : Nat) (pc' : Nat) (als' : aL) (ast' : List aV) (ah' : aH) (c' k' : Nat) : Prop :=
  pm_stepA m i pc ls st h c k = none ∧ ∃ ls' st' h', pm_stepB X m i pc ls st h c k = some (pc', ls', st', h', c', k') ∧ am_ls ρ als' ls' ∧ am_sk ρ ast' st' ∧ am_H ρ ah' h'
theorem am_rdn {x : aV} {v : Value} (h : x.1 = 9 ∨ am_v ρ x v) (h3 : Nat.ble x.1 3 = true) : am_v ρ x v := by
  rcases h with h | h
  · rw [h] at h3; cases h3
  · exact h
theorem am_ald_ok {t1 t2 : Nat} (hs : am_sk ρ ast st) (hH : am_H ρ ah h) (hx : am_ald t1 t2 als ast ah c k pc = some (pc', als', ast', ah', c', k')) :
    ∃ j q r t n f, st = .int j :: .ref q :: r ∧ h[q]? = some (t, n, f) ∧ (t = t1 ∨ t = t2) ∧ pm_ix j n = true ∧ am_sk ρ ast' (f j.toNatClampNeg :: r) ∧ pc' = pc + 1 ∧ als' = als ∧ ah' = ah ∧ c' = c ∧ k' = k := by
  unfold am_ald at hx
  split at hx
  · next a b r =>
    obtain ⟨h1, h2⟩ := am_cond hx
    split at h2
    · next t n d ov hl =>
      obtain ⟨h3, h4⟩ := am_cond h2
      split at h4
      · next i hi =>
        obtain ⟨h5, h6⟩ := am_cond h4
        cases h6
        obtain ⟨v, vs, rfl, s1, s2⟩ := hs.c
        obtain ⟨w, vs, rfl, s3, s4⟩ := s2.c
        obtain ⟨x, rfl, g1, g2, g3, -⟩ := am_ix_ok hi s1
        obtain ⟨q, rfl, hq⟩ := s3.ref (am_bq h1)
        rw [hq, Int.toNat_natCast] at hl
        obtain ⟨⟨t', n', f⟩, hy, e1, e2, e3⟩ := hH.2 _ _ hl
        dsimp only at e1 e2 e3
        subst e1 e2
        refine ⟨x, q, vs, t', n', f, rfl, hy, ?_, g1, ?_, rfl, rfl, rfl, rfl, rfl⟩
        · rw [Bool.or_eq_true] at h3
          exact h3.imp am_bq am_bq
        · rw [g2]
          exact ⟨am_rdn (e3 i g3) h5, s4⟩
      · cases h4
    · cases h2
  · cases hx
theorem am_ast_ok {t1 u : Nat} {f : aV → aV} {g : Value → Value} (hfg : ∀ a v, a.1 = u → am_v ρ a v → am_v ρ (f a) (g v)) (hs : am_sk ρ ast st) (hH : am_H ρ ah h) (hx : am_ast t1 u f als ast ah c k pc = some (pc', als', ast', ah', c', k')) :
    ∃ v j q r n F a, st = v :: .int j :: .ref q :: r ∧ am_v ρ a v ∧ a.1 = u ∧ h[q]? = some (t1, n, F) ∧ pm_ix j n = true ∧ am_sk ρ ast' r ∧ am_H ρ ah' (h.set q (t1, n, pm_upd F j.toNatClampNeg (g v))) ∧ pc' = pc + 1 ∧ als' = als ∧ c' = c ∧ k' = k := by
  unfold am_ast at hx
  split at hx
  · next a b d0 r =>
    obtain ⟨h1, h2⟩ := am_cond hx
    rw [Bool.and_eq_true] at h1
    split at h2
    · next t n d ov hl =>
      obtain ⟨h3, h4⟩ := am_cond h2
      have h3 := am_bq h3
      subst h3
      split at h4
      · next i hi =>
        cases h4
        obtain ⟨v, vs, rfl, s1, s2⟩ := hs.c
        obtain ⟨w, vs, rfl, s3, s4⟩ := s2.c
        obtain ⟨z, vs, rfl, s5, s6⟩ := s4.c
        obtain ⟨x, rfl, g1, g2, g3, -⟩ := am_ix_ok hi s3
        obtain ⟨q, rfl, hq⟩ := s5.ref (am_bq h1.1)
        rw [hq, Int.toNat_natCast] at hl
        obtain ⟨⟨t', n', F⟩, hy, e⟩ := hH.2 _ _ hl
        have e1 := e.1
        have e2 := e.2.1
        dsimp only at e1 e2
        subst e1 e2
        refine ⟨v, x, q, vs, n', F, a, rfl, s1, am_bq h1.2, hy, g1, s6, ?_, rfl, rfl, rfl, rfl⟩
        rw [hq, Int.toNat_natCast, g2]
        exact hH.set hl (e.upd (i := i) (hfg a v (am_bq h1.2) s1))
      · cases h4
    · cases h2
  · cases hx
theorem am_ofN {n : Nat} (h : Nat.ble n 100000 = true) : am_I ρ (am_c (n : Nat)) (Int32.ofNat n) := by
  have h := Nat.le_of_ble_eq_true h
  rw [← Int32.ofInt_eq_ofNat]
  exact am_c_of (am_in32_iff.mpr (by omega))
theorem am_new_ok {a : aC} {x : pmC} (hs : am_sk ρ ast st) (hH : am_H ρ ah h) (hc : am_C ρ a x) : am_sk ρ ((2, (ah.1 : Nat), (ah.1 : Nat), 0, 0) :: ast) (.ref h.length :: st) ∧ am_H ρ (ah.1 + 1, (ah.1, a) :: ah.2) (h ++ [x]) := ⟨⟨.ofR rfl (by show ((ah.1 : Nat) : Int) = _; rw [hH.1]), hs⟩, hH.new hc⟩
set_option maxHeartbeats 4000000 in
theorem am_stB {i : Instr} (hX : am_X ρ AX X) (hl : am_ls ρ als ls) (hs : am_sk ρ ast st) (hH : am_H ρ ah h) (hx : am_stepB AX m (pm_oc m) i pc als ast ah c k = some (pc', als', ast', ah', c', k')) : am_B ρ X m i pc ls st h c k pc' als' ast' ah' c' k' := by
  cases i
  case tableswitch dflt lo hi offs =>
    refine ⟨rfl, ?_⟩
    simp only [am_stepB] at hx; split at hx
    · next a r =>
      obtain ⟨h1, h2⟩ := am_cond hx
      obtain ⟨v, vs, rfl, s1, s2⟩ := hs.c
      obtain ⟨x, rfl, g⟩ := s1.int (am_bq h1)
      have g1 := g.1
      have g2 := g.2.1
      cases hc : am_le (a.2.2.1 + 1) lo || am_le (hi + 1) a.2.1
      · rw [hc] at h2
        rw [Bool.or_eq_false_iff] at hc
        simp only [cond_false] at h2
        obtain ⟨h3, h4⟩ := am_cond h2
        have hq := am_isc_iff.mp h3
        have e : x.toInt = a.2.1 := by omega
        have c1 : ¬ (x.toInt < lo ∨ hi < x.toInt) := by
          rw [e]
          rintro (z | z)
          · have := am_le_iff.mpr (show a.2.2.1 + 1 ≤ lo by omega); rw [hc.1] at this; cases this
          · have := am_le_iff.mpr (show hi + 1 ≤ a.2.1 by omega); rw [hc.2] at this; cases this
        split at h4
        · next off ho =>
          split at h4
          · next t ht =>
            cases h4
            rw [Array.getElem?_toList] at ho
            exact ⟨ls, vs, h, by simp only [pm_stepB]; rw [if_neg c1]; simp only [e, ho, ht], hl, s2, hH⟩
          · cases h4
        · cases h4
      · rw [hc] at h2
        rw [Bool.or_eq_true, am_le_iff, am_le_iff] at hc
        have c1 : x.toInt < lo ∨ hi < x.toInt := by omega
        simp only [cond_true] at h2
        split at h2
        · next t ht =>
          cases h2
          exact ⟨ls, vs, h, by simp only [pm_stepB]; rw [if_pos c1]; simp only [ht], hl, s2, hH⟩
        · cases h2
    · cases hx
  case lookupswitch dflt ps =>
    refine ⟨rfl, ?_⟩
    simp only [am_stepB] at hx; split at hx
    · next a r =>
      obtain ⟨h1, h2⟩ := am_cond hx
      rw [Bool.and_eq_true] at h1
      obtain ⟨v, vs, rfl, s1, s2⟩ := hs.c
      obtain ⟨x, rfl, g⟩ := s1.int (am_bq h1.1)
      have e : x.toInt = a.2.1 := by have := am_isc_iff.mp h1.2; have := g.1; have := g.2.1; omega
      split at h2
      · next hc =>
        split at h2
        · next t ht =>
          cases h2
          exact ⟨ls, vs, h, by simp only [pm_stepB]; rw [if_pos hc]; simp only [e, ht], hl, s2, hH⟩
        · cases h2
      · cases h2
    · cases hx
  case ldc j =>
    refine ⟨rfl, ?_⟩
    simp only [am_stepB] at hx; split at hx
    · next x hg => cases hx; exact ⟨ls, .int x :: st, h, by simp only [pm_stepB, hg], hl, ⟨.ofI rfl (am_c_ok x), hs⟩, hH⟩
    · next x hg => cases hx; exact ⟨ls, .ref x :: st, h, by simp only [pm_stepB, hg], hl, ⟨.ofR rfl rfl, hs⟩, hH⟩
    · cases hx
  case ldc2_w j =>
    refine ⟨rfl, ?_⟩
    simp only [am_stepB] at hx; split at hx
    · next x hg => cases hx; exact ⟨ls, .long x :: st, h, by simp only [pm_stepB, hg], hl, ⟨.ofJ rfl (am_j_ok x), hs⟩, hH⟩
    · cases hx
  case getfield j =>
    refine ⟨rfl, ?_⟩
    simp only [am_stepB] at hx; split at hx
    · next a r =>
      obtain ⟨h1, h2⟩ := am_cond hx
      rw [Bool.and_eq_true] at h1
      obtain ⟨h1, h1b⟩ := h1
      obtain ⟨v, vs, rfl, s1, s2⟩ := hs.c
      obtain ⟨q, rfl, hq⟩ := s1.ref (am_bq h1)
      rw [hq, Int.toNat_natCast] at h2 h1b
      have hq9 : ¬ 2001 ≤ q := by have := am_blt h1b; omega
      split at h2
      · next ci f t n d ov hf hlk =>
        obtain ⟨h3, h4⟩ := am_cond h2
        rw [Bool.and_eq_true, Bool.and_eq_true] at h3
        cases h4
        obtain ⟨⟨t', n', F⟩, hy, e1, e2, e3⟩ := hH.2 _ _ hlk
        dsimp only at e1 e2 e3
        subst e1 e2
        have h5 := am_bq h3.1.1
        have hf : pm_fld m j = some (ci, f) := hf
        exact ⟨ls, F f :: vs, h, by simp only [pm_stepB]; rw [if_neg hq9]; simp only [hf, hy, if_pos h5], hl, ⟨am_rdn (e3 f (am_blt h3.1.2)) h3.2, s2⟩, hH⟩
      · cases h2
    · cases hx
  case putfield j =>
    refine ⟨rfl, ?_⟩
    simp only [am_stepB] at hx; split at hx
    · next a b r =>
      obtain ⟨h1, h2⟩ := am_cond hx
      obtain ⟨v, vs, rfl, s1, s2⟩ := hs.c
      obtain ⟨w, vs, rfl, s3, s4⟩ := s2.c
      obtain ⟨q, rfl, hq⟩ := s3.ref (am_bq h1)
      rw [hq, Int.toNat_natCast] at h2
      split at h2
      · next ci f t n d ov hf hlk =>
        obtain ⟨h3, h4⟩ := am_cond h2
        rw [Bool.and_eq_true, Bool.and_eq_true] at h3
        cases h4
        obtain ⟨⟨t', n', F⟩, hy, e⟩ := hH.2 _ _ hlk
        have e1 := e.1
        have e2 := e.2.1
        dsimp only at e1 e2
        subst e1 e2
        have h5 := am_bq h3.1.1
        have hf : pm_fld m j = some (ci, f) := hf
        have hfin : pm_fin ci f = false ∨ (pm_in m = 1 ∧ ci = pm_oc m) := by
          have := h3.2
          rw [Bool.or_eq_true, Bool.and_eq_true, Bool.not_eq_true'] at this
          exact this.imp id (fun z => ⟨am_bq z.1, am_bq z.2⟩)
        exact ⟨ls, vs, h.set q (t', n', pm_upd F f v), by simp only [pm_stepB, hf, hy]; rw [if_pos ⟨h5, am_okv_ok h3.1.2 s1, hfin⟩], hl, s4, hH.set hlk (e.upd s1)⟩
      · cases h2
    · cases hx
  case iaload =>
    refine ⟨rfl, ?_⟩
    simp only [am_stepB] at hx; split at hx
    · next a b r =>
      cases hc : Nat.beq b.1 2 && am_ieq b.2.1 2000
      · rw [hc] at hx
        obtain ⟨j, q, rr, t, n, f, rfl, hy, ht, hj, hsk, rfl, rfl, rfl, rfl, rfl⟩ := am_ald_ok hs hH hx
        have ht : t = 20 := ht.elim id id
        have hq : ¬ q = 2000 := by
          rintro rfl
          obtain ⟨v, vs, hv, s1, s2⟩ := hs.c
          obtain ⟨w, vs, hw, s3, s4⟩ := s2.c
          cases hv
          cases hw
          rcases s3 with ⟨_, x, z, _⟩ | ⟨_, x, z, _⟩ | ⟨hb, x, z, hx⟩ | ⟨_, z⟩
          · cases z
          · cases z
          · cases z
            rw [hb, am_ieq_iff.mpr (show b.2.1 = 2000 from hx)] at hc
            cases hc
          · cases z
        exact ⟨ls, f j.toNatClampNeg :: rr, h, by simp only [pm_stepB]; rw [if_neg hq]; simp only [hy]; rw [if_pos ⟨ht, hj⟩], hl, hsk, hH⟩
      · rw [hc] at hx
        rw [Bool.and_eq_true, am_ieq_iff] at hc
        simp only [cond_true] at hx
        split at hx
        · next x =>
          split at hx
          · next i hi =>
            split at hx
            · next aa haa =>
              cases hx
              obtain ⟨v, vs, rfl, s1, s2⟩ := hs.c
              obtain ⟨w, vs, rfl, s3, s4⟩ := s2.c
              obtain ⟨f, rfl, hf⟩ := hX _ rfl
              obtain ⟨y, rfl, g1, g2, g3, -⟩ := am_ix_ok hi s1
              obtain ⟨q, rfl, hq⟩ := s3.ref (am_bq hc.1)
              have hq : q = 2000 := by omega
              exact ⟨ls, .int (f y.toNatClampNeg) :: vs, h, by simp only [pm_stepB]; rw [if_pos hq]; simp only [g1, if_true], hl, ⟨by rw [g2]; exact hf _ _ haa, s4⟩, hH⟩
            · cases hx
          · cases hx
        · cases hx
    · cases hx
  case laload =>
    refine ⟨rfl, ?_⟩
    obtain ⟨j, q, rr, t, n, f, rfl, hy, ht, hj, hsk, rfl, rfl, rfl, rfl, rfl⟩ := am_ald_ok hs hH hx
    have ht : t = 21 := ht.elim id id
    exact ⟨ls, f j.toNatClampNeg :: rr, h, by simp only [pm_stepB, hy]; rw [if_pos ⟨ht, hj⟩], hl, hsk, hH⟩
  case baload => cases hx
  case aaload =>
    refine ⟨rfl, ?_⟩
    obtain ⟨j, q, rr, t, n, f, rfl, hy, ht, hj, hsk, rfl, rfl, rfl, rfl, rfl⟩ := am_ald_ok hs hH hx
    exact ⟨ls, f j.toNatClampNeg :: rr, h, by simp only [pm_stepB, hy]; rw [if_pos ⟨ht, hj⟩], hl, hsk, hH⟩
  case iastore =>
    refine ⟨rfl, ?_⟩
    obtain ⟨v, j, q, r, n, F, a, rfl, ha, ha0, hy, hj, hsk, hH', rfl, rfl, rfl, rfl⟩ := am_ast_ok (g := fun v => v) (fun a v _ hv => hv) hs hH hx
    obtain ⟨x, rfl, _⟩ := ha.int ha0
    exact ⟨ls, _, _, by simp only [pm_stepB, hy, hj, and_self, if_true], hl, hsk, hH'⟩
  case lastore =>
    refine ⟨rfl, ?_⟩
    obtain ⟨v, j, q, r, n, F, a, rfl, ha, ha0, hy, hj, hsk, hH', rfl, rfl, rfl, rfl⟩ := am_ast_ok (g := fun v => v) (fun a v _ hv => hv) hs hH hx
    obtain ⟨x, rfl, _⟩ := ha.long ha0
    exact ⟨ls, _, _, by simp only [pm_stepB, hy, hj, and_self, if_true], hl, hsk, hH'⟩
  case bastore =>
    refine ⟨rfl, ?_⟩
    obtain ⟨v, j, q, r, n, F, a, rfl, ha, ha0, hy, hj, hsk, hH', rfl, rfl, rfl, rfl⟩ := am_ast_ok (g := fun v => match v with
      | .int x => .int (x &&& 1)
      | v => v) (fun a v h0 hv => by
        obtain ⟨x, rfl, hx⟩ := hv.int h0
        exact .ofI (am_and_tag _ _) (am_and_ok hx (am_c_ok 1))) hs hH hx
    obtain ⟨x, rfl, _⟩ := ha.int ha0
    exact ⟨ls, _, _, by simp only [pm_stepB, hy, hj, and_self, if_true], hl, hsk, hH'⟩
  case arraylength =>
    refine ⟨rfl, ?_⟩
    simp only [am_stepB] at hx; split at hx
    · next a r =>
      obtain ⟨h1, h2⟩ := am_cond hx
      obtain ⟨v, vs, rfl, s1, s2⟩ := hs.c
      obtain ⟨q, rfl, hq⟩ := s1.ref (am_bq h1)
      cases hc : am_ieq a.2.1 2000
      · rw [hc] at h2
        have hq2 : ¬ q = 2000 := by
          rintro rfl
          rw [am_ieq_iff.mpr (show a.2.1 = 2000 from hq)] at hc
          cases hc
        simp only [cond_false] at h2
        obtain ⟨h2b, h2⟩ := am_cond h2
        rw [hq, Int.toNat_natCast] at h2 h2b
        have hq9 : ¬ 2101 ≤ q := by have := am_blt h2b; omega
        split at h2
        · next t n d hlk =>
          obtain ⟨h3, h4⟩ := am_cond h2
          cases h4
          rw [Bool.and_eq_true, Bool.or_eq_true] at h3
          obtain ⟨⟨t', n', F⟩, hy, e1, e2, e3⟩ := hH.2 _ _ hlk
          dsimp only at e1 e2 e3
          subst e1 e2
          exact ⟨ls, .int (Int32.ofNat n') :: vs, h, by simp only [pm_stepB]; rw [if_neg hq2, if_neg hq9]; simp only [hy]; rw [if_pos (h3.1.imp am_bq am_bq)], hl, ⟨.ofI rfl (am_ofN h3.2), s2⟩, hH⟩
        · cases h2
      · rw [hc] at h2
        have hc := am_ieq_iff.mp hc
        have hq2 : q = 2000 := by omega
        simp only [cond_true] at h2
        split at h2
        · next x =>
          obtain ⟨h3, h4⟩ := am_cond h2
          cases h4
          obtain ⟨f, rfl, hf⟩ := hX _ rfl
          exact ⟨ls, .int (Int32.ofNat x.1) :: vs, h, by simp only [pm_stepB]; rw [if_pos hq2], hl, ⟨.ofI rfl (am_ofN h3), s2⟩, hH⟩
        · cases h2
    · cases hx
  case new j =>
    refine ⟨rfl, ?_⟩
    simp only [am_stepB] at hx; split at hx
    · next ci hn =>
      split at hx
      · next q hq =>
        obtain ⟨h1, h2⟩ := am_cond hx
        cases h2
        rw [Bool.and_eq_true, Bool.and_eq_true] at h1
        obtain ⟨p1, p2⟩ := am_new_ok hs hH (am_obj_ok (ρ := ρ) ci q.2.2)
        exact ⟨ls, .ref h.length :: st, h ++ [pm_obj ci q.2.2], by simp only [pm_stepB, hn, hq]; rw [if_pos ⟨Nat.le_of_ble_eq_true h1.1.1, Nat.le_of_ble_eq_true h1.1.2, by rw [hH.1]; exact am_blt h1.2⟩], hl, p1, p2⟩
      · cases hx
    · cases hx
  case newarray ty =>
    refine ⟨rfl, ?_⟩
    simp only [am_stepB] at hx; split at hx
    · next a r =>
      split at hx
      · next n hn =>
        obtain ⟨h1, h2⟩ := am_cond hx
        rw [Bool.and_eq_true, Bool.and_eq_true] at h1
        obtain ⟨v, vs, rfl, s1, s2⟩ := hs.c
        obtain ⟨x, rfl, g1, g2, g3, g4⟩ := am_ix_ok hn s1
        have hc : 0 ≤ x ∧ x.toNatClampNeg ≤ 100000 ∧ c + 1 ≤ pm_mc m ∧ k + x.toNatClampNeg ≤ pm_ms m ∧ h.length < 900 := ⟨g4, by omega, Nat.le_of_ble_eq_true h1.1.1, by rw [g2]; exact Nat.le_of_ble_eq_true h1.1.2, by rw [hH.1]; exact am_blt h1.2⟩
        cases ty <;> simp only at h2
        case int =>
          cases h2
          obtain ⟨p1, p2⟩ := am_new_ok s2 hH (am_mk_ok (t := 20) (n := n) (.ofI rfl (am_c_ok (ρ := ρ) 0)) (by decide))
          refine ⟨ls, .ref h.length :: vs, h ++ [pm_mk 20 n (.int 0)], by simp only [pm_stepB]; rw [if_pos hc, g2], hl, p1, p2⟩
        case long =>
          cases h2
          obtain ⟨p1, p2⟩ := am_new_ok s2 hH (am_mk_ok (t := 21) (n := n) (.ofJ rfl (am_j_ok (ρ := ρ) 0)) (by decide))
          refine ⟨ls, .ref h.length :: vs, h ++ [pm_mk 21 n (.long 0)], by simp only [pm_stepB]; rw [if_pos hc, g2], hl, p1, p2⟩
        case boolean =>
          cases h2
          obtain ⟨p1, p2⟩ := am_new_ok s2 hH (am_mk_ok (t := 22) (n := n) (.ofI rfl (am_c_ok (ρ := ρ) 0)) (by decide))
          refine ⟨ls, .ref h.length :: vs, h ++ [pm_mk 22 n (.int 0)], by simp only [pm_stepB]; rw [if_pos hc, g2], hl, p1, p2⟩
        all_goals cases h2
      · cases hx
    · cases hx
  case multianewarray j d =>
    refine ⟨rfl, ?_⟩
    simp only [am_stepB] at hx; split at hx
    · next a b r =>
      split at hx
      · next t k1 n1 ht hk hn =>
        obtain ⟨h1, h2⟩ := am_cond hx
        rw [Bool.and_eq_true, Bool.and_eq_true, Bool.and_eq_true, Bool.and_eq_true, Bool.or_eq_true] at h1
        cases h2
        obtain ⟨⟨⟨⟨q1, q2⟩, q3⟩, q4⟩, q5⟩ := h1
        obtain ⟨v, vs, rfl, s1, s2⟩ := hs.c
        obtain ⟨w, vs, rfl, s3, s4⟩ := s2.c
        obtain ⟨x, rfl, g1, g2, g3, g4⟩ := am_ix_ok hk s1
        obtain ⟨y, rfl, f1, f2, f3, f4⟩ := am_ix_ok hn s3
        have q1 := am_bq q1
        have q5 : t = 20 ∨ t = 21 := q5.imp am_bq am_bq
        have hc : d = 2 ∧ 0 ≤ y ∧ 0 ≤ x ∧ y.toNatClampNeg ≤ 1000 ∧ x.toNatClampNeg ≤ 1000 ∧ c + (1 + y.toNatClampNeg) ≤ pm_mc m ∧ k + (y.toNatClampNeg + y.toNatClampNeg * x.toNatClampNeg) ≤ pm_ms m ∧ h.length < 900 ∧ (t = 20 ∨ t = 21) := ⟨q1, f4, g4, by omega, by omega, by rw [f2]; exact Nat.le_of_ble_eq_true q2, by rw [f2, g2]; exact Nat.le_of_ble_eq_true q3, by rw [hH.1]; exact am_blt q4, q5⟩
        have hd : am_v ρ (cond (Nat.beq t 20) (am_c 0) (am_j 0)) (if t = 20 then .int 0 else .long 0) ∧ (cond (Nat.beq t 20) (am_c 0) (am_j 0)).1 ≠ 4 := by
          rcases q5 with rfl | rfl
          · exact ⟨.ofI rfl (am_c_ok 0), by decide⟩
          · exact ⟨.ofJ rfl (am_j_ok 0), by decide⟩
        refine ⟨ls, .ref h.length :: vs, h ++ (pm_rows (t + 3) n1 (h.length + 1) :: List.replicate n1 (pm_mk t k1 (if t = 20 then .int 0 else .long 0))), by simp only [pm_stepB, ht]; rw [if_pos hc, f2, g2], hl, ⟨.ofR rfl (by show ((ah.1 : Nat) : Int) = _; rw [hH.1]), s4⟩, hH.mna hd.1 hd.2⟩
      · cases hx
    · cases hx
  all_goals exact absurd hx (by simp [am_stepB])
end AMD
/-! THE BOX MACHINE IS SOUND: runs -/
def am_srt : List (Nat × Instr × Nat) → Bool
  | [] => true
  | [_] => true
  | a :: b :: r => Nat.blt a.1 b.1 && am_srt (b :: r)
theorem am_srt_lt : ∀ {a : Nat × Instr × Nat} {l : List (Nat × Instr × Nat)}, am_srt (a :: l) = true → ∀ b ∈ l, a.1 < b.1
  | _, [], _, b, hb => by cases hb
  | a, c :: r, h, b, hb => by
    have h : (Nat.blt a.1 c.1 && am_srt (c :: r)) = true := h
    rw [Bool.and_eq_true] at h
    have h1 := am_blt h.1
    rcases List.mem_cons.mp hb with rfl | hb
    · exact h1
    · exact Nat.lt_trans h1 (am_srt_lt h.2 b hb)
theorem am_srt_tl {a : Nat × Instr × Nat} {l : List (Nat × Instr × Nat)} (h : am_srt (a :: l) = true) : am_srt l = true := by
  cases l with
  | nil => rfl
  | cons b r =>
    have h : (Nat.blt a.1 b.1 && am_srt (b :: r)) = true := h
    rw [Bool.and_eq_true] at h
    exact h.2
theorem am_srt_look {pc : Nat} {x : Instr × Nat} {r : List (Nat × Instr × Nat)} : ∀ {pre : List (Nat × Instr × Nat)}, am_srt (pre ++ (pc, x) :: r) = true → pm_look (pre ++ (pc, x) :: r) pc = some x
  | [], _ => by
    show (if pc = pc then some x else pm_look r pc) = some x
    rw [if_pos rfl]
  | (j, a) :: l, h => by
    have h1 := am_srt_lt h (pc, x) (List.mem_append_right _ List.mem_cons_self)
    show (if j = pc then some a else pm_look (l ++ (pc, x) :: r) pc) = some x
    rw [if_neg (Nat.ne_of_lt h1)]
    exact am_srt_look (am_srt_tl h)
theorem am_drop_ok {pc : Nat} {e : Nat × Instr × Nat} {r : List (Nat × Instr × Nat)} : ∀ {l : List (Nat × Instr × Nat)}, am_drop l pc = e :: r → e.1 = pc ∧ ∃ pre, l = pre ++ e :: r
  | [], h => by simp [am_drop] at h
  | a :: l, h => by
    unfold am_drop at h
    cases ha : Nat.beq a.1 pc
    · rw [ha] at h
      obtain ⟨h1, pre, h2⟩ := am_drop_ok h
      exact ⟨h1, a :: pre, by rw [h2]; rfl⟩
    · rw [ha] at h
      cases h
      exact ⟨am_bq ha, [], rfl⟩
theorem am_next_ok {pc : Nat} {e0 e : Nat × Instr × Nat} {kl rest r : List (Nat × Instr × Nat)} (hk : ∃ pre, kl = pre ++ e0 :: rest) (h : am_next kl rest pc = e :: r) : e.1 = pc ∧ ∃ pre, kl = pre ++ e :: r := by
  unfold am_next at h
  split at h
  · next a l =>
    cases ha : Nat.beq a.1 pc
    · rw [ha] at h
      exact am_drop_ok h
    · rw [ha] at h
      cases h
      obtain ⟨pre, hk⟩ := hk
      exact ⟨am_bq ha, pre ++ [e0], by rw [hk, List.append_assoc]; rfl⟩
  · exact am_drop_ok h
theorem am_args_ok {ρ : Nat → Int32} : ∀ {a : List aV} {l : List Value} (i : Nat), am_sk ρ a l → am_ls ρ (am_args i a) (lv_args i l)
  | [], [], _, _ => trivial
  | x :: as, v :: vs, i, h => by
    refine ⟨⟨rfl, h.1⟩, ?_⟩
    show am_ls ρ (am_args (if am_cat x = 2 then i + 2 else i + 1) as) (lv_args (if v.category = 2 then i + 2 else i + 1) vs)
    rw [h.1.cat]
    exact am_args_ok _ h.2
  | [], _ :: _, _, h => h.elim
  | _ :: _, [], _, h => h.elim
theorem am_one {x : Int32} (h0 : 0 ≤ x.toInt) (h1 : x.toInt ≤ 1) : x &&& 1 = x := by
  have : x = 0 ∨ x = 1 := by
    rw [← Int32.toInt_inj, ← Int32.toInt_inj]
    have e0 : (0 : Int32).toInt = 0 := rfl
    have e1 : (1 : Int32).toInt = 1 := rfl
    omega
  rcases this with rfl | rfl <;> decide
section AME
variable {ρ : Nat → Int32} {F : aF}
def am_so (ρ : Nat → Int32) (a : Option aV) (v : Option Value) : Prop := am_sk ρ a.toList v.toList
theorem am_end_ok {m : Nat} {i : Instr} {ast : List aV} {st : List Value} {r : Option aV} (hs : am_sk ρ ast st) (h : am_end m i ast = some r) : ∃ v, pm_end m i st = some v ∧ am_so ρ r v := by
  cases i
  case ireturn =>
    simp only [am_end] at h
    split at h
    · next a hr =>
      obtain ⟨h1, h2⟩ := am_cond h
      cases h2
      obtain ⟨v, vs, rfl, s1, s2⟩ := hs.c
      cases s2.n
      obtain ⟨x, rfl, _⟩ := s1.int (am_bq h1)
      exact ⟨some (.int x), by simp only [pm_end, hr], s1, trivial⟩
    · next a hr =>
      obtain ⟨h1, h2⟩ := am_cond h
      cases h2
      rw [Bool.and_eq_true, Bool.and_eq_true, am_le_iff, am_le_iff] at h1
      obtain ⟨v, vs, rfl, s1, s2⟩ := hs.c
      cases s2.n
      obtain ⟨x, rfl, hx⟩ := s1.int (am_bq h1.1.1)
      exact ⟨some (.int x), by simp only [pm_end, hr]; rw [if_pos (am_one (by have := hx.1; omega) (by have := hx.2.1; omega))], s1, trivial⟩
    · cases h
  case lreturn =>
    simp only [am_end] at h
    split at h
    · next a hr =>
      obtain ⟨h1, h2⟩ := am_cond h
      cases h2
      obtain ⟨v, vs, rfl, s1, s2⟩ := hs.c
      cases s2.n
      obtain ⟨x, rfl, _⟩ := s1.long (am_bq h1)
      exact ⟨some (.long x), by simp only [pm_end, hr], s1, trivial⟩
    · cases h
  case return_ =>
    simp only [am_end] at h
    split at h
    · next hr =>
      cases h
      cases hs.n
      exact ⟨none, by simp only [pm_end, hr], trivial⟩
    · cases h
  all_goals exact absurd h (by simp [am_end])
theorem am_noend {m : Nat} {i : Instr} {st : List Value} (h : am_isret i = false) : pm_end m i st = none := by
  cases i <;> first | rfl | exact absurd h (by simp [am_isret])
theorem am_noinv {m : Nat} {i : Instr} {st : List Value} {h : pmH} {c k : Nat} (ho : am_op i = none) : pm_inv m i st h c k = none := by
  cases i <;> first | rfl | exact absurd ho (by simp [am_op])
theorem am_inv_eq (m : Nat) (i : Instr) (st : List Value) (h : pmH) (c k : Nat) : pm_inv m i st h c k = (match am_op i with
  | none => none
  | some (j, op) => match pm_look (pm_calls (pm_oc m)) j with
    | none => none
    | some (y, kind, n) =>
      if kind = 3 then (if op = 2 ∧ 1 ≤ pm_fr m then match st with
        | .ref q :: r => if (r.map fun v => v.category).sum + 12 ≤ pm_lo m then some (none, [.ref q], r) else none
        | _ => none
        else none)
      else if kind % 10 = op ∧ n ≤ st.length ∧ pm_fr y + 1 ≤ pm_fr m ∧ 8 + (pm_maxL y + 11) + pm_lo y ≤ pm_lo m ∧ c + pm_mc y ≤ pm_mc m ∧ k + pm_ms y ≤ pm_ms m then
        let as := (st.take n).reverse
        if op = 1 then (if ((st.drop n).map fun v => v.category).sum ≤ 8 ∧ (as.map fun v => v.category).sum ≤ pm_maxL y ∧ pm_oc y < pm_lawc then some (some y, as, st.drop n) else none)
        else match st.drop n with
          | .ref q :: r => if 2001 ≤ q then (if q < 2020 ∧ op = 0 ∧ pm_oc y = pm_strc ∧ (r.map fun v => v.category).sum ≤ 8 ∧ 1 + (as.map fun v => v.category).sum ≤ pm_maxL y then some (some y, .ref q :: as, r) else none)
            else match h[q]? with
            | some (t, _, _) => if t = pm_oc y ∧ t < 12 ∧ (r.map fun v => v.category).sum ≤ 8 ∧ 1 + (as.map fun v => v.category).sum ≤ pm_maxL y then some (some y, .ref q :: as, r) else none
            | none => none
          | _ => none
      else none : Option (Option Nat × List Value × List Value)) := rfl
theorem am_inv_ok {m : Nat} {i : Instr} {ast : List aV} {st : List Value} {ah : aH} {h : pmH} {c k : Nat} {o : Option Nat} {aa ar : List aV} (hs : am_sk ρ ast st) (hH : am_H ρ ah h) (hx : am_inv m (pm_oc m) i ast ah c k = some (o, aa, ar)) :
    ∃ as rest, pm_inv m i st h c k = some (o, as, rest) ∧ am_sk ρ aa as ∧ am_sk ρ ar rest := by
  rw [am_inv_eq]
  unfold am_inv at hx
  split at hx
  · cases hx
  · next j op hj =>
    simp only [hj]
    split at hx
    · cases hx
    · next y kind n hlk =>
      simp only [hlk]
      split at hx
      · next hk3 =>
        rw [if_pos hk3]
        split at hx
        · next hop =>
          rw [if_pos hop]
          split at hx
          · next a r =>
            split at hx
            · next hc =>
              cases hx
              obtain ⟨v, vs, rfl, s1, s2⟩ := hs.c
              obtain ⟨q, rfl, hq⟩ := s1.ref hc.1
              have hcat := am_cats s2
              exact ⟨[.ref q], vs, by simp only [hcat]; rw [if_pos hc.2], ⟨s1, trivial⟩, s2⟩
            · cases hx
          · cases hx
        · cases hx
      · next hk3 =>
        rw [if_neg hk3]
        split at hx
        · next hc =>
          have hlen := hs.len
          rw [if_pos (by rw [← hlen]; exact hc)]
          have hd := hs.drop n
          have ht := (hs.take n).rev
          have ct := am_cats ht
          try dsimp only
          split at hx
          · next hop =>
            rw [if_pos hop]
            split at hx
            · next hr =>
              cases hx
              exact ⟨_, _, by rw [am_cats hd, ct, if_pos hr], ht, hd⟩
            · cases hx
          · next hop =>
            rw [if_neg hop]
            split at hx
            · next a r hdr =>
              rw [hdr] at hd
              obtain ⟨v, vs, hv, s1, s2⟩ := hd.c
              rw [hv]
              split at hx
              · next ha =>
                obtain ⟨ha, hab⟩ := ha
                obtain ⟨q, rfl, hq⟩ := s1.ref ha
                rw [hq, Int.toNat_natCast] at hx hab
                have hq9 : ¬ 2001 ≤ q := by omega
                simp only [if_neg hq9]
                split at hx
                · next t d hlk2 =>
                  split at hx
                  · next hr =>
                    cases hx
                    obtain ⟨⟨t', n', f⟩, hy, e1, -⟩ := hH.2 _ _ hlk2
                    dsimp only at e1
                    subst e1
                    exact ⟨.ref q :: (st.take n).reverse, vs, by simp only [hy, am_cats s2, ct]; rw [if_pos hr], ⟨s1, ht⟩, s2⟩
                  · cases hx
                · cases hx
              · cases hx
            · cases hx
        · cases hx
end AME
/-! the code tables are in order, and begin at 0 -/
def am_z0 (l : List (Nat × Instr × Nat)) : Prop := match l with
  | [] => True
  | e :: _ => e.1 = 0
def am_okP (M : pmM) : Prop := am_srt M.2.2.2.2.2.2.2.2.2.2 = true ∧ am_z0 M.2.2.2.2.2.2.2.2.2.2
theorem am_s0 : am_okP pmm0 := ⟨by decide +kernel, rfl⟩
theorem am_s1 : am_okP pmm1 := ⟨by decide +kernel, rfl⟩
theorem am_s2 : am_okP pmm2 := ⟨by decide +kernel, rfl⟩
theorem am_s3 : am_okP pmm3 := ⟨by decide +kernel, rfl⟩
theorem am_s4 : am_okP pmm4 := ⟨by decide +kernel, rfl⟩
theorem am_s5 : am_okP pmm5 := ⟨by decide +kernel, rfl⟩
theorem am_s6 : am_okP pmm6 := ⟨by decide +kernel, rfl⟩
theorem am_s7 : am_okP pmm7 := ⟨by decide +kernel, rfl⟩
theorem am_s8 : am_okP pmm8 := ⟨by decide +kernel, rfl⟩
theorem am_s9 : am_okP pmm9 := ⟨by decide +kernel, rfl⟩
theorem am_s10 : am_okP pmm10 := ⟨by decide +kernel, rfl⟩
theorem am_s11 : am_okP pmm11 := ⟨by decide +kernel, rfl⟩
theorem am_s12 : am_okP pmm12 := ⟨by decide +kernel, rfl⟩
theorem am_s13 : am_okP pmm13 := ⟨by decide +kernel, rfl⟩
theorem am_s14 : am_okP pmm14 := ⟨by decide +kernel, rfl⟩
theorem am_s15 : am_okP pmm15 := ⟨by decide +kernel, rfl⟩
theorem am_s16 : am_okP pmm16 := ⟨by decide +kernel, rfl⟩
theorem am_s17 : am_okP pmm17 := ⟨by decide +kernel, rfl⟩
theorem am_s18 : am_okP pmm18 := ⟨by decide +kernel, rfl⟩
theorem am_s19 : am_okP pmm19 := ⟨by decide +kernel, rfl⟩
theorem am_s20 : am_okP pmm20 := ⟨by decide +kernel, rfl⟩
theorem am_s21 : am_okP pmm21 := ⟨by decide +kernel, rfl⟩
theorem am_s22 : am_okP pmm22 := ⟨by decide +kernel, rfl⟩
theorem am_s23 : am_okP pmm23 := ⟨by decide +kernel, rfl⟩
theorem am_s24 : am_okP pmm24 := ⟨by decide +kernel, rfl⟩
theorem am_s25 : am_okP pmm25 := ⟨by decide +kernel, rfl⟩
theorem am_s26 : am_okP pmm26 := ⟨by decide +kernel, rfl⟩
theorem am_s27 : am_okP pmm27 := ⟨by decide +kernel, rfl⟩
theorem am_s28 : am_okP pmm28 := ⟨by decide +kernel, rfl⟩
theorem am_s29 : am_okP pmm29 := ⟨by decide +kernel, rfl⟩
theorem am_s30 : am_okP pmm30 := ⟨by decide +kernel, rfl⟩
theorem am_s31 : am_okP pmm31 := ⟨by decide +kernel, rfl⟩
theorem am_s32 : am_okP pmm32 := ⟨by decide +kernel, rfl⟩
theorem am_s33 : am_okP pmm33 := ⟨by decide +kernel, rfl⟩
theorem am_s34 : am_okP pmm34 := ⟨by decide +kernel, rfl⟩
theorem am_s35 : am_okP pmm35 := ⟨by decide +kernel, rfl⟩
theorem am_s36 : am_okP pmm36 := ⟨by decide +kernel, rfl⟩
theorem am_s37 : am_okP pmm37 := ⟨by decide +kernel, rfl⟩
theorem am_s38 : am_okP pmm38 := ⟨by decide +kernel, rfl⟩
theorem am_s39 : am_okP pmm39 := ⟨by decide +kernel, rfl⟩
theorem am_s40 : am_okP pmm40 := ⟨by decide +kernel, rfl⟩
theorem am_s41 : am_okP pmm41 := ⟨by decide +kernel, rfl⟩
theorem am_s42 : am_okP pmm42 := ⟨by decide +kernel, rfl⟩
theorem am_s43 : am_okP pmm43 := ⟨by decide +kernel, rfl⟩
theorem am_s44 : am_okP pmm44 := ⟨by decide +kernel, rfl⟩
theorem am_s45 : am_okP pmm45 := ⟨by decide +kernel, rfl⟩
theorem am_s46 : am_okP pmm46 := ⟨by decide +kernel, rfl⟩
theorem am_s47 : am_okP pmm47 := ⟨by decide +kernel, rfl⟩
theorem am_s48 : am_okP pmm48 := ⟨by decide +kernel, rfl⟩
theorem am_s49 : am_okP pmm49 := ⟨by decide +kernel, rfl⟩
theorem am_s50 : am_okP pmm50 := ⟨by decide +kernel, rfl⟩
theorem am_s51 : am_okP pmm51 := ⟨by decide +kernel, rfl⟩
theorem am_s52 : am_okP pmm52 := ⟨by decide +kernel, rfl⟩
theorem am_s53 : am_okP pmm53 := ⟨by decide +kernel, rfl⟩
theorem am_s54 : am_okP pmm54 := ⟨by decide +kernel, rfl⟩
theorem am_s55 : am_okP pmm55 := ⟨by decide +kernel, rfl⟩
theorem am_s56 : am_okP pmm56 := ⟨by decide +kernel, rfl⟩
theorem am_s57 : am_okP pmm57 := ⟨by decide +kernel, rfl⟩
theorem am_s58 : am_okP pmm58 := ⟨by decide +kernel, rfl⟩
theorem am_s59 : am_okP pmm59 := ⟨by decide +kernel, rfl⟩
theorem am_s60 : am_okP pmm60 := ⟨by decide +kernel, rfl⟩
theorem am_s61 : am_okP pmm61 := ⟨by decide +kernel, rfl⟩
theorem am_s62 : am_okP pmm62 := ⟨by decide +kernel, rfl⟩
theorem am_s63 : am_okP pmm63 := ⟨by decide +kernel, rfl⟩
theorem am_s64 : am_okP pmm64 := ⟨by decide +kernel, rfl⟩
theorem am_s65 : am_okP pmm65 := ⟨by decide +kernel, rfl⟩
theorem am_s66 : am_okP pmm66 := ⟨by decide +kernel, rfl⟩
theorem am_s67 : am_okP pmm67 := ⟨by decide +kernel, rfl⟩
theorem am_s68 : am_okP pmm68 := ⟨by decide +kernel, rfl⟩
theorem am_s69 : am_okP pmm69 := ⟨by decide +kernel, rfl⟩
theorem am_s70 : am_okP pmm70 := ⟨by decide +kernel, rfl⟩
theorem am_s71 : am_okP pmm71 := ⟨by decide +kernel, rfl⟩
theorem am_s72 : am_okP pmm72 := ⟨by decide +kernel, rfl⟩
theorem am_s73 : am_okP pmm73 := ⟨by decide +kernel, rfl⟩
theorem am_s74 : am_okP pmm74 := ⟨by decide +kernel, rfl⟩
theorem am_s75 : am_okP pmm75 := ⟨by decide +kernel, rfl⟩
theorem am_s76 : am_okP pmm76 := ⟨by decide +kernel, rfl⟩
theorem am_s77 : am_okP pmm77 := ⟨by decide +kernel, rfl⟩
theorem am_s78 : am_okP pmm78 := ⟨by decide +kernel, rfl⟩
theorem am_s79 : am_okP pmm79 := ⟨by decide +kernel, rfl⟩
theorem am_s80 : am_okP pmm80 := ⟨by decide +kernel, rfl⟩
theorem am_s81 : am_okP pmm81 := ⟨by decide +kernel, rfl⟩
theorem am_s82 : am_okP pmm82 := ⟨by decide +kernel, rfl⟩
theorem am_s83 : am_okP pmm83 := ⟨by decide +kernel, rfl⟩
theorem am_s84 : am_okP pmm84 := ⟨by decide +kernel, rfl⟩
theorem am_s85 : am_okP pmm85 := ⟨by decide +kernel, rfl⟩
theorem am_s86 : am_okP pmm86 := ⟨by decide +kernel, rfl⟩
theorem am_s87 : am_okP pmm87 := ⟨by decide +kernel, rfl⟩
theorem am_s88 : am_okP pmm88 := ⟨by decide +kernel, rfl⟩
theorem am_s89 : am_okP pmm89 := ⟨by decide +kernel, rfl⟩
theorem am_s90 : am_okP pmm90 := ⟨by decide +kernel, rfl⟩
theorem am_s91 : am_okP pmm91 := ⟨by decide +kernel, rfl⟩
theorem am_s92 : am_okP pmm92 := ⟨by decide +kernel, rfl⟩
theorem am_s93 : am_okP pmm93 := ⟨by decide +kernel, rfl⟩
theorem am_s94 : am_okP pmm94 := ⟨by decide +kernel, rfl⟩
theorem am_s95 : am_okP pmm95 := ⟨by decide +kernel, rfl⟩
theorem am_s96 : am_okP pmm96 := ⟨by decide +kernel, rfl⟩
theorem am_s97 : am_okP pmm97 := ⟨by decide +kernel, rfl⟩
theorem am_s98 : am_okP pmm98 := ⟨by decide +kernel, rfl⟩
theorem am_s99 : am_okP pmm99 := ⟨by decide +kernel, rfl⟩
theorem am_s100 : am_okP pmm100 := ⟨by decide +kernel, rfl⟩
theorem am_s101 : am_okP pmm101 := ⟨by decide +kernel, rfl⟩
theorem am_s102 : am_okP pmm102 := ⟨by decide +kernel, rfl⟩
theorem am_s103 : am_okP pmm103 := ⟨by decide +kernel, rfl⟩
theorem am_s104 : am_okP pmm104 := ⟨by decide +kernel, rfl⟩
theorem am_s105 : am_okP pmm105 := ⟨by decide +kernel, rfl⟩
theorem am_s106 : am_okP pmm106 := ⟨by decide +kernel, rfl⟩
theorem am_s107 : am_okP pmm107 := ⟨by decide +kernel, rfl⟩
theorem am_s108 : am_okP pmm108 := ⟨by decide +kernel, rfl⟩
theorem am_s109 : am_okP pmm109 := ⟨by decide +kernel, rfl⟩
theorem am_s110 : am_okP pmm110 := ⟨by decide +kernel, rfl⟩
theorem am_s111 : am_okP pmm111 := ⟨by decide +kernel, rfl⟩
theorem am_s112 : am_okP pmm112 := ⟨by decide +kernel, rfl⟩
theorem am_s113 : am_okP pmm113 := ⟨by decide +kernel, rfl⟩
theorem am_s114 : am_okP pmm114 := ⟨by decide +kernel, rfl⟩
theorem am_s115 : am_okP pmm115 := ⟨by decide +kernel, rfl⟩
theorem am_s116 : am_okP pmm116 := ⟨by decide +kernel, rfl⟩
theorem am_s117 : am_okP pmm117 := ⟨by decide +kernel, rfl⟩
theorem am_s118 : am_okP pmm118 := ⟨by decide +kernel, rfl⟩
theorem am_s119 : am_okP pmm119 := ⟨by decide +kernel, rfl⟩
theorem am_s120 : am_okP pmm120 := ⟨by decide +kernel, rfl⟩
theorem am_s121 : am_okP pmm121 := ⟨by decide +kernel, rfl⟩
theorem am_s122 : am_okP pmm122 := ⟨by decide +kernel, rfl⟩
theorem am_s123 : am_okP pmm123 := ⟨by decide +kernel, rfl⟩
theorem am_s124 : am_okP pmm124 := ⟨by decide +kernel, rfl⟩
theorem am_s125 : am_okP pmm125 := ⟨by decide +kernel, rfl⟩
theorem am_s126 : am_okP pmm126 := ⟨by decide +kernel, rfl⟩
theorem am_s127 : am_okP pmm127 := ⟨by decide +kernel, rfl⟩
theorem am_s128 : am_okP pmm128 := ⟨by decide +kernel, rfl⟩
theorem am_s129 : am_okP pmm129 := ⟨by decide +kernel, rfl⟩
theorem am_s130 : am_okP pmm130 := ⟨by decide +kernel, rfl⟩
theorem am_s131 : am_okP pmm131 := ⟨by decide +kernel, rfl⟩
theorem am_s132 : am_okP pmm132 := ⟨by decide +kernel, rfl⟩
theorem am_s133 : am_okP pmm133 := ⟨by decide +kernel, rfl⟩
theorem am_s134 : am_okP pmm134 := ⟨by decide +kernel, rfl⟩
theorem am_s135 : am_okP pmm135 := ⟨by decide +kernel, rfl⟩
theorem am_s136 : am_okP pmm136 := ⟨by decide +kernel, rfl⟩
theorem am_s137 : am_okP pmm137 := ⟨by decide +kernel, rfl⟩
theorem am_s138 : am_okP pmm138 := ⟨by decide +kernel, rfl⟩
theorem am_s139 : am_okP pmm139 := ⟨by decide +kernel, rfl⟩
theorem am_s140 : am_okP pmm140 := ⟨by decide +kernel, rfl⟩
theorem am_s141 : am_okP pmm141 := ⟨by decide +kernel, rfl⟩
theorem am_s142 : am_okP pmm142 := ⟨by decide +kernel, rfl⟩
theorem am_s143 : am_okP pmm143 := ⟨by decide +kernel, rfl⟩
theorem am_s144 : am_okP pmm144 := ⟨by decide +kernel, rfl⟩
theorem am_s145 : am_okP pmm145 := ⟨by decide +kernel, rfl⟩
theorem am_s146 : am_okP pmm146 := ⟨by decide +kernel, rfl⟩
theorem am_s147 : am_okP pmm147 := ⟨by decide +kernel, rfl⟩
theorem am_s148 : am_okP pmm148 := ⟨by decide +kernel, rfl⟩
theorem am_s149 : am_okP pmm149 := ⟨by decide +kernel, rfl⟩
theorem am_s150 : am_okP pmm150 := ⟨by decide +kernel, rfl⟩
theorem am_s151 : am_okP pmm151 := ⟨by decide +kernel, rfl⟩
theorem am_s152 : am_okP pmm152 := ⟨by decide +kernel, rfl⟩
theorem am_s153 : am_okP pmm153 := ⟨by decide +kernel, rfl⟩
theorem am_s154 : am_okP pmm154 := ⟨by decide +kernel, rfl⟩
theorem am_s155 : am_okP pmm155 := ⟨by decide +kernel, rfl⟩
theorem am_s156 : am_okP pmm156 := ⟨by decide +kernel, rfl⟩
theorem am_s157 : am_okP pmm157 := ⟨by decide +kernel, rfl⟩
theorem am_s158 : am_okP pmm158 := ⟨by decide +kernel, rfl⟩
theorem am_s159 : am_okP pmm159 := ⟨by decide +kernel, rfl⟩
theorem am_s160 : am_okP pmm160 := ⟨by decide +kernel, rfl⟩
theorem am_s161 : am_okP pmm161 := ⟨by decide +kernel, rfl⟩
theorem am_s162 : am_okP pmm162 := ⟨by decide +kernel, rfl⟩
theorem am_s163 : am_okP pmm163 := ⟨by decide +kernel, rfl⟩
theorem am_s164 : am_okP pmm164 := ⟨by decide +kernel, rfl⟩
theorem am_s165 : am_okP pmm165 := ⟨by decide +kernel, rfl⟩
theorem am_s166 : am_okP pmm166 := ⟨by decide +kernel, rfl⟩
theorem am_s167 : am_okP pmm167 := ⟨by decide +kernel, rfl⟩
theorem am_s168 : am_okP pmm168 := ⟨by decide +kernel, rfl⟩
theorem am_s169 : am_okP pmm169 := ⟨by decide +kernel, rfl⟩
theorem am_s170 : am_okP pmm170 := ⟨by decide +kernel, rfl⟩
theorem am_s171 : am_okP pmm171 := ⟨by decide +kernel, rfl⟩
theorem am_s172 : am_okP pmm172 := ⟨by decide +kernel, rfl⟩
theorem am_s173 : am_okP pmm173 := ⟨by decide +kernel, rfl⟩
theorem am_s174 : am_okP pmm174 := ⟨by decide +kernel, rfl⟩
theorem am_s175 : am_okP pmm175 := ⟨by decide +kernel, rfl⟩
theorem am_s176 : am_okP pmm176 := ⟨by decide +kernel, rfl⟩
theorem am_s177 : am_okP pmm177 := ⟨by decide +kernel, rfl⟩
theorem am_s178 : am_okP pmm178 := ⟨by decide +kernel, rfl⟩
theorem am_s179 : am_okP pmm179 := ⟨by decide +kernel, rfl⟩
theorem am_s180 : am_okP pmm180 := ⟨by decide +kernel, rfl⟩
theorem am_s181 : am_okP pmm181 := ⟨by decide +kernel, rfl⟩
theorem am_s182 : am_okP pmm182 := ⟨by decide +kernel, rfl⟩
theorem am_s183 : am_okP pmm183 := ⟨by decide +kernel, rfl⟩
theorem am_s184 : am_okP pmm184 := ⟨by decide +kernel, rfl⟩
theorem am_s185 : am_okP pmm185 := ⟨by decide +kernel, rfl⟩
theorem am_s186 : am_okP pmm186 := ⟨by decide +kernel, rfl⟩
theorem am_s187 : am_okP pmm187 := ⟨by decide +kernel, rfl⟩
theorem am_s188 : am_okP pmm188 := ⟨by decide +kernel, rfl⟩
theorem am_s189 : am_okP pmm189 := ⟨by decide +kernel, rfl⟩
theorem am_s190 : am_okP pmm190 := ⟨by decide +kernel, rfl⟩
theorem am_s191 : am_okP pmm191 := ⟨by decide +kernel, rfl⟩
theorem am_s192 : am_okP pmm192 := ⟨by decide +kernel, rfl⟩
theorem am_s193 : am_okP pmm193 := ⟨by decide +kernel, rfl⟩
theorem am_s194 : am_okP pmm194 := ⟨by decide +kernel, rfl⟩
theorem am_s195 : am_okP pmm195 := ⟨by decide +kernel, rfl⟩
theorem am_s196 : am_okP pmm196 := ⟨by decide +kernel, rfl⟩
theorem am_s197 : am_okP pmm197 := ⟨by decide +kernel, rfl⟩
theorem am_s198 : am_okP pmm198 := ⟨by decide +kernel, rfl⟩
theorem am_s199 : am_okP pmm199 := ⟨by decide +kernel, rfl⟩
theorem am_s200 : am_okP pmm200 := ⟨by decide +kernel, rfl⟩
theorem am_s201 : am_okP pmm201 := ⟨by decide +kernel, rfl⟩
theorem am_s202 : am_okP pmm202 := ⟨by decide +kernel, rfl⟩
theorem am_s203 : am_okP pmm203 := ⟨by decide +kernel, rfl⟩
theorem am_s204 : am_okP pmm204 := ⟨by decide +kernel, rfl⟩
theorem am_s205 : am_okP pmm205 := ⟨by decide +kernel, rfl⟩
theorem am_s206 : am_okP pmm206 := ⟨by decide +kernel, rfl⟩
theorem am_s207 : am_okP pmm207 := ⟨by decide +kernel, rfl⟩
theorem am_s208 : am_okP pmm208 := ⟨by decide +kernel, rfl⟩
theorem am_s209 : am_okP pmm209 := ⟨by decide +kernel, rfl⟩
theorem am_s210 : am_okP pmm210 := ⟨by decide +kernel, rfl⟩
theorem am_s211 : am_okP pmm211 := ⟨by decide +kernel, rfl⟩
theorem am_s212 : am_okP pmm212 := ⟨by decide +kernel, rfl⟩
theorem am_s213 : am_okP pmm213 := ⟨by decide +kernel, rfl⟩
theorem am_s214 : am_okP pmm214 := ⟨by decide +kernel, rfl⟩
theorem am_s215 : am_okP pmm215 := ⟨by decide +kernel, rfl⟩
theorem am_s216 : am_okP pmm216 := ⟨by decide +kernel, rfl⟩
theorem am_s217 : am_okP pmm217 := ⟨by decide +kernel, rfl⟩
theorem am_s218 : am_okP pmm218 := ⟨by decide +kernel, rfl⟩
theorem am_s219 : am_okP pmm219 := ⟨by decide +kernel, rfl⟩
theorem am_s220 : am_okP pmm220 := ⟨by decide +kernel, rfl⟩
theorem am_s221 : am_okP pmm221 := ⟨by decide +kernel, rfl⟩
theorem am_s222 : am_okP pmm222 := ⟨by decide +kernel, rfl⟩
theorem am_s223 : am_okP pmm223 := ⟨by decide +kernel, rfl⟩
theorem am_s224 : am_okP pmm224 := ⟨by decide +kernel, rfl⟩
theorem am_s225 : am_okP pmm225 := ⟨by decide +kernel, rfl⟩
theorem am_s226 : am_okP pmm226 := ⟨by decide +kernel, rfl⟩
theorem am_s227 : am_okP pmm227 := ⟨by decide +kernel, rfl⟩
theorem am_s228 : am_okP pmm228 := ⟨by decide +kernel, rfl⟩
theorem am_s229 : am_okP pmm229 := ⟨by decide +kernel, rfl⟩
theorem am_s230 : am_okP pmm230 := ⟨by decide +kernel, rfl⟩
theorem am_s231 : am_okP pmm231 := ⟨by decide +kernel, rfl⟩
theorem am_okA : ∀ m, am_okP (pm_m m) := fun m => by unfold pm_m; exact pm_iteP (pm_iteP (pm_iteP (pm_iteP (pm_iteP (pm_iteP (pm_iteP (am_s0) (pm_iteP (am_s1) (am_s2))) (pm_iteP (pm_iteP (am_s3) (am_s4)) (pm_iteP (am_s5) (am_s6)))) (pm_iteP (pm_iteP (am_s7) (pm_iteP (am_s8) (am_s9))) (pm_iteP (pm_iteP (am_s10) (am_s11)) (pm_iteP (am_s12) (am_s13))))) (pm_iteP (pm_iteP (pm_iteP (am_s14) (pm_iteP (am_s15) (am_s16))) (pm_iteP (pm_iteP (am_s17) (am_s18)) (pm_iteP (am_s19) (am_s20)))) (pm_iteP (pm_iteP (pm_iteP (am_s21) (am_s22)) (pm_iteP (am_s23) (am_s24))) (pm_iteP (pm_iteP (am_s25) (am_s26)) (pm_iteP (am_s27) (am_s28)))))) (pm_iteP (pm_iteP (pm_iteP (pm_iteP (am_s29) (pm_iteP (am_s30) (am_s31))) (pm_iteP (pm_iteP (am_s32) (am_s33)) (pm_iteP (am_s34) (am_s35)))) (pm_iteP (pm_iteP (am_s36) (pm_iteP (am_s37) (am_s38))) (pm_iteP (pm_iteP (am_s39) (am_s40)) (pm_iteP (am_s41) (am_s42))))) (pm_iteP (pm_iteP (pm_iteP (am_s43) (pm_iteP (am_s44) (am_s45))) (pm_iteP (pm_iteP (am_s46) (am_s47)) (pm_iteP (am_s48) (am_s49)))) (pm_iteP (pm_iteP (pm_iteP (am_s50) (am_s51)) (pm_iteP (am_s52) (am_s53))) (pm_iteP (pm_iteP (am_s54) (am_s55)) (pm_iteP (am_s56) (am_s57))))))) (pm_iteP (pm_iteP (pm_iteP (pm_iteP (pm_iteP (am_s58) (pm_iteP (am_s59) (am_s60))) (pm_iteP (pm_iteP (am_s61) (am_s62)) (pm_iteP (am_s63) (am_s64)))) (pm_iteP (pm_iteP (am_s65) (pm_iteP (am_s66) (am_s67))) (pm_iteP (pm_iteP (am_s68) (am_s69)) (pm_iteP (am_s70) (am_s71))))) (pm_iteP (pm_iteP (pm_iteP (am_s72) (pm_iteP (am_s73) (am_s74))) (pm_iteP (pm_iteP (am_s75) (am_s76)) (pm_iteP (am_s77) (am_s78)))) (pm_iteP (pm_iteP (pm_iteP (am_s79) (am_s80)) (pm_iteP (am_s81) (am_s82))) (pm_iteP (pm_iteP (am_s83) (am_s84)) (pm_iteP (am_s85) (am_s86)))))) (pm_iteP (pm_iteP (pm_iteP (pm_iteP (am_s87) (pm_iteP (am_s88) (am_s89))) (pm_iteP (pm_iteP (am_s90) (am_s91)) (pm_iteP (am_s92) (am_s93)))) (pm_iteP (pm_iteP (am_s94) (pm_iteP (am_s95) (am_s96))) (pm_iteP (pm_iteP (am_s97) (am_s98)) (pm_iteP (am_s99) (am_s100))))) (pm_iteP (pm_iteP (pm_iteP (am_s101) (pm_iteP (am_s102) (am_s103))) (pm_iteP (pm_iteP (am_s104) (am_s105)) (pm_iteP (am_s106) (am_s107)))) (pm_iteP (pm_iteP (pm_iteP (am_s108) (am_s109)) (pm_iteP (am_s110) (am_s111))) (pm_iteP (pm_iteP (am_s112) (am_s113)) (pm_iteP (am_s114) (am_s115)))))))) (pm_iteP (pm_iteP (pm_iteP (pm_iteP (pm_iteP (pm_iteP (am_s116) (pm_iteP (am_s117) (am_s118))) (pm_iteP (pm_iteP (am_s119) (am_s120)) (pm_iteP (am_s121) (am_s122)))) (pm_iteP (pm_iteP (am_s123) (pm_iteP (am_s124) (am_s125))) (pm_iteP (pm_iteP (am_s126) (am_s127)) (pm_iteP (am_s128) (am_s129))))) (pm_iteP (pm_iteP (pm_iteP (am_s130) (pm_iteP (am_s131) (am_s132))) (pm_iteP (pm_iteP (am_s133) (am_s134)) (pm_iteP (am_s135) (am_s136)))) (pm_iteP (pm_iteP (pm_iteP (am_s137) (am_s138)) (pm_iteP (am_s139) (am_s140))) (pm_iteP (pm_iteP (am_s141) (am_s142)) (pm_iteP (am_s143) (am_s144)))))) (pm_iteP (pm_iteP (pm_iteP (pm_iteP (am_s145) (pm_iteP (am_s146) (am_s147))) (pm_iteP (pm_iteP (am_s148) (am_s149)) (pm_iteP (am_s150) (am_s151)))) (pm_iteP (pm_iteP (am_s152) (pm_iteP (am_s153) (am_s154))) (pm_iteP (pm_iteP (am_s155) (am_s156)) (pm_iteP (am_s157) (am_s158))))) (pm_iteP (pm_iteP (pm_iteP (am_s159) (pm_iteP (am_s160) (am_s161))) (pm_iteP (pm_iteP (am_s162) (am_s163)) (pm_iteP (am_s164) (am_s165)))) (pm_iteP (pm_iteP (pm_iteP (am_s166) (am_s167)) (pm_iteP (am_s168) (am_s169))) (pm_iteP (pm_iteP (am_s170) (am_s171)) (pm_iteP (am_s172) (am_s173))))))) (pm_iteP (pm_iteP (pm_iteP (pm_iteP (pm_iteP (am_s174) (pm_iteP (am_s175) (am_s176))) (pm_iteP (pm_iteP (am_s177) (am_s178)) (pm_iteP (am_s179) (am_s180)))) (pm_iteP (pm_iteP (am_s181) (pm_iteP (am_s182) (am_s183))) (pm_iteP (pm_iteP (am_s184) (am_s185)) (pm_iteP (am_s186) (am_s187))))) (pm_iteP (pm_iteP (pm_iteP (am_s188) (pm_iteP (am_s189) (am_s190))) (pm_iteP (pm_iteP (am_s191) (am_s192)) (pm_iteP (am_s193) (am_s194)))) (pm_iteP (pm_iteP (pm_iteP (am_s195) (am_s196)) (pm_iteP (am_s197) (am_s198))) (pm_iteP (pm_iteP (am_s199) (am_s200)) (pm_iteP (am_s201) (am_s202)))))) (pm_iteP (pm_iteP (pm_iteP (pm_iteP (am_s203) (pm_iteP (am_s204) (am_s205))) (pm_iteP (pm_iteP (am_s206) (am_s207)) (pm_iteP (am_s208) (am_s209)))) (pm_iteP (pm_iteP (am_s210) (pm_iteP (am_s211) (am_s212))) (pm_iteP (pm_iteP (am_s213) (am_s214)) (pm_iteP (am_s215) (am_s216))))) (pm_iteP (pm_iteP (pm_iteP (am_s217) (pm_iteP (am_s218) (am_s219))) (pm_iteP (pm_iteP (am_s220) (am_s221)) (pm_iteP (am_s222) (am_s223)))) (pm_iteP (pm_iteP (pm_iteP (am_s224) (am_s225)) (pm_iteP (am_s226) (am_s227))) (pm_iteP (pm_iteP (am_s228) (am_s229)) (pm_iteP (am_s230) (am_s231))))))))
theorem am_sA (m : Nat) : am_srt (pm_kl m) = true := (am_okA m).1
theorem am_z (m : Nat) : am_z0 (pm_kl m) := (am_okA m).2
/-! THE BOX MACHINE IS SOUND: what it says of a run -/
/-- what a run of the pure machine comes to, as the box machine's answer says -/
def am_O (ρ : Nat → Int32) (X : pmX) (m stop : Nat) (res : aR) (o : Nat → Option (pmH × Option Value)) : Prop :=
  (res.1 = true ∧ ∃ h' r, (∀ d, o d = some (h', r)) ∧ am_H ρ res.2.2.2.1 h' ∧ am_sk ρ res.2.2.1 r.toList) ∨
  (res.1 = false ∧ ∃ ls' st' h', (∀ d, o d = pm_exec X (res.2.2.2.2.2.2 + d) m stop ls' st' h' res.2.2.2.2.1 res.2.2.2.2.2.1) ∧ am_ls ρ res.2.1 ls' ∧ am_sk ρ res.2.2.1 st' ∧ am_H ρ res.2.2.2.1 h')
def am_Sn (ρ : Nat → Int32) (F : aF) (n : Nat) : Prop :=
  ∀ (AX : Option (Nat × List aV)) (X : pmX) (stop m : Nat) (e : Nat × Instr × Nat) (rest : List (Nat × Instr × Nat)) (als : aL) (ast : List aV) (ah : aH) (ls : pmL) (st : List Value) (h : pmH) (c k : Nat) (res : aR),
    am_exec F n AX stop m (pm_oc m) (pm_maxL m) (e :: rest) als ast ah c k = some res → (∃ pre, pm_kl m = pre ++ e :: rest) → am_X ρ AX X → am_ls ρ als ls → am_sk ρ ast st → am_H ρ ah h →
    am_O ρ X m stop res (fun d => pm_exec X (n + d) m e.1 ls st h c k)
section AMG
variable {ρ : Nat → Int32} {F : aF}
/-- the next step, wherever it lies -/
theorem am_go {n : Nat} (ih : am_Sn ρ F n) {AX : Option (Nat × List aV)} {X : pmX} {stop m pc' : Nat} {e : Nat × Instr × Nat} {rest : List (Nat × Instr × Nat)} {als : aL} {ast : List aV} {ah : aH} {ls : pmL} {st : List Value} {h : pmH} {c k : Nat} {res : aR}
    (hx : am_exec F n AX stop m (pm_oc m) (pm_maxL m) (am_next (pm_kl m) rest pc') als ast ah c k = some res) (hk : ∃ pre, pm_kl m = pre ++ e :: rest) (hX : am_X ρ AX X) (hl : am_ls ρ als ls) (hs : am_sk ρ ast st) (hH : am_H ρ ah h) : am_O ρ X m stop res (fun d => pm_exec X (n + d) m pc' ls st h c k) := by
  cases hn : am_next (pm_kl m) rest pc' with
  | nil =>
    rw [hn] at hx
    cases n <;> cases hx
  | cons e' r' =>
    rw [hn] at hx
    obtain ⟨h1, h2⟩ := am_next_ok hk hn
    have := ih AX X stop m e' r' als ast ah ls st h c k res hx h2 hX hl hs hH
    rwa [h1] at this
theorem am_O_cg {X : pmX} {m stop : Nat} {res : aR} {o o' : Nat → Option (pmH × Option Value)} (h : am_O ρ X m stop res o) (e : ∀ d, o' d = o d) : am_O ρ X m stop res o' := by
  rw [show o' = o from funext e]
  exact h
theorem am_Xn : am_X ρ none none := fun x h => by cases h
theorem am_ok (hF : am_Fo ρ F) : ∀ n, am_Sn ρ F n := by
  intro n
  induction n with
  | zero =>
    intro AX X stop m e rest als ast ah ls st h c k res hx
    cases hx
  | succ n ih =>
    intro AX X stop m e rest als ast ah ls st h c k res hx hk hX hl hs hH
    obtain ⟨pc, i, len⟩ := e
    have hlk : pm_look (pm_kl m) pc = some (i, len) := by
      obtain ⟨pre, hp⟩ := hk
      have := am_sA m
      rw [hp] at this ⊢
      exact am_srt_look this
    unfold am_exec at hx
    dsimp only at hx
    cases hstop : Nat.beq pc stop
    · rw [hstop] at hx
      simp only [cond_false] at hx
      cases hret : am_isret i
      · rw [hret] at hx
        simp only [cond_false] at hx
        split at hx
        · next q hop =>
          split at hx
          · next y as r hinv =>
            obtain ⟨as', rest', h1, h2, h3⟩ := am_inv_ok hs hH hinv
            split at hx
            · next l0 a h0 q0 hcall =>
              cases hky : pm_kl y with
              | nil =>
                rw [hky] at hcall
                cases n <;> cases hcall
              | cons e2 r2 =>
                have he2 : e2.1 = 0 := by
                  have := am_z y
                  rw [hky] at this
                  exact this
                rw [hky] at hcall
                have hc := ih none none 99999 y e2 r2 (am_args 0 as) [] ah (lv_args 0 as') [] h 0 0 _ hcall ⟨[], hky⟩ am_Xn (am_args_ok 0 h2) trivial hH
                rw [he2] at hc
                rcases hc with ⟨_, h', r', g1, g2, g3⟩ | ⟨g, _⟩
                · have := am_go (e := (pc, i, len)) ih hx hk hX hl (g3.app h3) g2
                  refine am_O_cg this (fun d => ?_)
                  rw [show n + 1 + d = (n + d) + 1 by omega, pm_exec]
                  have g1 := g1 d
                  simp only [hlk, am_noend hret, h1, g1]
                · cases g
            · cases hx
          · next q1 r hinv =>
            obtain ⟨as', rest', h1, h2, h3⟩ := am_inv_ok hs hH hinv
            have := am_go (e := (pc, i, len)) ih hx hk hX hl h3 hH
            refine am_O_cg this (fun d => ?_)
            rw [show n + 1 + d = (n + d) + 1 by omega, pm_exec]
            simp only [hlk, am_noend hret, h1]
          · cases hx
        · next hop =>
          split at hx
          · next pc' ls' st' hA =>
            obtain ⟨ls2, st2, g1, g2, g3⟩ := am_stA (m := m) (hh := h) (c := c) (k := k) hF hl hs hA
            have := am_go (e := (pc, i, len)) ih hx hk hX g2 g3 hH
            refine am_O_cg this (fun d => ?_)
            rw [show n + 1 + d = (n + d) + 1 by omega, pm_exec]
            simp only [hlk, am_noend hret, am_noinv hop, pm_step, g1]
          · split at hx
            · next pc' ls' st' h' c' k' hB =>
              obtain ⟨g0, ls2, st2, h2, g1, g2, g3, g4⟩ := am_stB (m := m) (c := c) (k := k) hX hl hs hH hB
              have := am_go (e := (pc, i, len)) ih hx hk hX g2 g3 g4
              refine am_O_cg this (fun d => ?_)
              rw [show n + 1 + d = (n + d) + 1 by omega, pm_exec]
              simp only [hlk, am_noend hret, am_noinv hop, pm_step, g0, g1]
            · cases hx
      · rw [hret] at hx
        simp only [cond_true] at hx
        split at hx
        · next r hend =>
          cases hx
          obtain ⟨v, g1, g2⟩ := am_end_ok hs hend
          refine Or.inl ⟨rfl, h, v, fun d => ?_, hH, g2⟩
          show pm_exec X (n + 1 + d) m pc ls st h c k = _
          rw [show n + 1 + d = (n + d) + 1 by omega, pm_exec]
          simp only [hlk, g1]
        · cases hx
    · rw [hstop] at hx
      cases hx
      have := am_bq hstop
      subst this
      exact Or.inr ⟨rfl, ls, st, h, fun _ => rfl, hl, hs, hH⟩
end AMG
def am_A0_0 : List (Nat × aC) := [(0, (10, 12, (9, 0, 0, 0, 0), [(0, (2, 1, 1, 0, 0)), (1, (2, 46, 46, 0, 0)), (2, (2, 50, 50, 0, 0)), (3, (2, 177, 177, 0, 0)), (4, (2, 179, 179, 0, 0)), (5, (2, 209, 209, 0, 0)), (6, (2, 214, 214, 0, 0)), (7, (2, 218, 218, 0, 0)), (8, (2, 231, 231, 0, 0)), (9, (2, 243, 243, 0, 0)), (10, am_c (0)), (11, am_c (-1))])), (1, (7, 5, (9, 0, 0, 0, 0), [(0, (2, 2, 2, 0, 0)), (1, (2, 3, 3, 0, 0)), (2, (2, 4, 4, 0, 0)), (3, (2, 5, 5, 0, 0)), (4, am_c (1))])), (46, (3, 4, (9, 0, 0, 0, 0), [(0, (2, 47, 47, 0, 0)), (1, (2, 48, 48, 0, 0)), (2, (2, 49, 49, 0, 0)), (3, am_c (0))])), (50, (2, 7, (9, 0, 0, 0, 0), [(0, (2, 51, 51, 0, 0)), (1, (2, 52, 52, 0, 0)), (2, (2, 53, 53, 0, 0)), (3, (2, 54, 54, 0, 0)), (4, (2, 55, 55, 0, 0)), (5, (2, 56, 56, 0, 0)), (6, am_c (0))])), (177, (6, 7, (9, 0, 0, 0, 0), [(0, (2, 178, 178, 0, 0)), (1, am_c (0)), (2, am_c (0)), (3, am_c (0)), (4, am_c (0)), (5, am_c (0)), (6, am_c (0))])), (179, (4, 6, (9, 0, 0, 0, 0), [(0, (2, 180, 180, 0, 0)), (1, (2, 181, 181, 0, 0)), (2, (2, 182, 182, 0, 0)), (3, (2, 191, 191, 0, 0)), (4, (2, 200, 200, 0, 0)), (5, am_c (0))])), (209, (1, 8, (9, 0, 0, 0, 0), [(0, am_c (0)), (1, (2, 210, 210, 0, 0)), (2, (2, 211, 211, 0, 0)), (3, (2, 212, 212, 0, 0)), (4, (2, 213, 213, 0, 0)), (5, am_c (0)), (6, am_c (0)), (7, am_c (0))])), (214, (9, 4, (9, 0, 0, 0, 0), [(0, (2, 215, 215, 0, 0)), (1, (2, 216, 216, 0, 0)), (2, (2, 217, 217, 0, 0)), (3, am_c (0))])), (218, (0, 7, (9, 0, 0, 0, 0), [(0, (2, 219, 219, 0, 0)), (1, (2, 220, 220, 0, 0)), (2, (2, 229, 229, 0, 0)), (3, (2, 230, 230, 0, 0)), (4, am_c (0)), (5, am_c (0)), (6, am_c (0))])), (231, (5, 4, (9, 0, 0, 0, 0), [(0, (2, 232, 232, 0, 0)), (1, (2, 233, 233, 0, 0)), (2, (2, 238, 238, 0, 0)), (3, am_c (0))])), (243, (8, 13, (9, 0, 0, 0, 0), [(0, (2, 1, 1, 0, 0)), (1, (2, 50, 50, 0, 0)), (2, (2, 179, 179, 0, 0)), (3, (2, 244, 244, 0, 0)), (4, (2, 249, 249, 0, 0)), (5, (2, 250, 250, 0, 0)), (6, (2, 251, 251, 0, 0)), (7, (2, 252, 252, 0, 0)), (8, (2, 253, 253, 0, 0)), (9, (2, 254, 254, 0, 0)), (10, (2, 255, 255, 0, 0)), (11, am_c (0)), (12, am_c (-1))])), (244, (1, 8, (9, 0, 0, 0, 0), [(0, am_c (0)), (1, (2, 245, 245, 0, 0)), (2, (2, 246, 246, 0, 0)), (3, (2, 247, 247, 0, 0)), (4, (2, 248, 248, 0, 0)), (5, am_c (0)), (6, am_c (0)), (7, am_c (0))])), (256, (11, 62, (9, 0, 0, 0, 0), [(0, am_c (0)), (1, am_c (1)), (2, (2, 257, 257, 0, 0)), (3, (2, 258, 258, 0, 0)), (4, (2, 259, 259, 0, 0)), (5, (2, 260, 260, 0, 0)), (6, am_c (0)), (7, (2, 261, 261, 0, 0)), (8, (2, 262, 262, 0, 0)), (9, (2, 263, 263, 0, 0)), (10, am_c (0)), (11, (2, 264, 264, 0, 0)), (12, (2, 265, 265, 0, 0)), (13, (2, 266, 266, 0, 0)), (14, (2, 267, 267, 0, 0)), (15, (2, 268, 268, 0, 0)), (16, (2, 269, 269, 0, 0)), (17, am_c (0)), (18, (2, 270, 270, 0, 0)), (19, (2, 271, 271, 0, 0)), (20, am_c (0)), (21, (2, 272, 272, 0, 0)), (22, (2, 273, 273, 0, 0)), (23, (2, 274, 274, 0, 0)), (24, (2, 275, 275, 0, 0)), (25, (2, 276, 276, 0, 0)), (26, am_c (0)), (27, (2, 277, 277, 0, 0)), (28, (2, 278, 278, 0, 0)), (29, (2, 279, 279, 0, 0)), (30, (2, 280, 280, 0, 0)), (31, (2, 281, 281, 0, 0)), (32, (2, 282, 282, 0, 0)), (33, (2, 283, 283, 0, 0)), (34, am_c (0)), (35, am_c (-1)), (36, am_c (0)), (37, am_j (0)), (38, am_c (0)), (39, am_c (0)), (40, am_c (0)), (41, (2, 284, 284, 0, 0)), (42, (2, 285, 285, 0, 0)), (43, am_c (0)), (44, (2, 286, 286, 0, 0)), (45, (2, 287, 287, 0, 0)), (46, (2, 288, 288, 0, 0)), (47, am_c (0)), (48, am_c (0)), (49, (2, 289, 289, 0, 0)), (50, am_c (0)), (51, am_c (0)), (52, (2, 290, 290, 0, 0)), (53, am_c (0)), (54, am_c (0)), (55, am_c (0)), (56, am_c (0)), (57, (2, 291, 291, 0, 0)), (58, am_c (0)), (59, (2, 292, 292, 0, 0)), (60, (2, 293, 293, 0, 0)), (61, (2, 294, 294, 0, 0))])), (2, (20, 40, am_c (0), [])), (3, (20, 40, am_c (-1), [])), (4, (20, 40, am_c (-1), [])), (5, (23, 40, (4, 6, 0, 0, 0), [])), (47, (20, 40, am_c (0), [])), (48, (20, 40, am_c (0), [])), (49, (20, 40, am_c (0), [])), (51, (20, 120, am_c (0), [])), (52, (20, 120, am_c (0), [])), (53, (20, 120, am_c (0), [])), (54, (20, 120, am_c (0), [])), (55, (20, 120, am_c (0), [])), (56, (23, 120, (4, 57, 0, 0, 0), [])), (178, (20, 160, am_c (0), [])), (182, (23, 8, (4, 183, 0, 0, 0), [])), (191, (23, 8, (4, 192, 0, 0, 0), [])), (200, (23, 8, (4, 201, 0, 0, 0), [])), (213, (21, 40, am_j (0), [])), (215, (20, 60, am_c (0), [])), (216, (20, 60, am_c (0), [])), (217, (20, 60, am_c (0), [])), (220, (23, 8, (4, 221, 0, 0, 0), [])), (221, (20, 100, am_c (0), [])), (222, (20, 100, am_c (0), [])), (223, (20, 100, am_c (0), [])), (224, (20, 100, am_c (0), [])), (225, (20, 100, am_c (0), [])), (226, (20, 100, am_c (0), [])), (227, (20, 100, am_c (0), [])), (228, (20, 100, am_c (0), [])), (229, (21, 100, am_j (0), [])), (230, (20, 100, am_c (0), [])), (233, (23, 4, (4, 234, 0, 0, 0), [])), (238, (24, 4, (4, 239, 0, 0, 0), [])), (248, (21, 40, am_j (0), [])), (249, (20, 40, am_c (0), [])), (250, (22, 120, am_c (0), [])), (251, (20, 120, am_c (0), [])), (252, (20, 120, am_c (0), [])), (253, (20, 120, am_c (0), [])), (254, (22, 120, am_c (0), [])), (255, (21, 40, am_j (0), [])), (257, (20, 40, am_c (0), [])), (258, (20, 40, am_c (0), [(0, am_c (-1))])), (259, (20, 40, am_c (0), [(0, am_c (-1))])), (260, (20, 400, am_c (0), [(0, am_c (-1)), (1, am_c (-1)), (2, am_c (-1)), (3, am_c (-1)), (4, am_c (-1)), (5, am_c (-1)), (6, am_c (-1)), (7, am_c (-1)), (8, am_c (-1)), (9, am_c (-1))])), (261, (20, 40, am_c (0), []))]
def am_A0_1 : List (Nat × aC) := [(262, (20, 40, am_c (0), [])), (263, (20, 40, am_c (0), [])), (264, (20, 120, am_c (0), [])), (265, (20, 120, am_c (0), [])), (266, (20, 120, am_c (0), [])), (267, (20, 120, am_c (0), [])), (268, (20, 120, am_c (0), [])), (269, (20, 960, am_c (0), [])), (272, (20, 72, am_c (0), [])), (273, (20, 72, am_c (0), [])), (274, (20, 72, am_c (0), [])), (275, (22, 8, am_c (0), [])), (277, (20, 120, am_c (0), [])), (278, (22, 120, am_c (0), [])), (279, (20, 120, am_c (0), [])), (280, (20, 120, am_c (0), [])), (281, (22, 120, am_c (0), [])), (282, (21, 40, am_j (0), [])), (283, (20, 160, am_c (0), [])), (284, (20, 60, am_c (0), [])), (285, (20, 60, am_c (0), [])), (287, (20, 880, am_c (0), [])), (288, (20, 880, am_c (0), [])), (289, (20, 120, am_c (0), [])), (290, (22, 120, am_c (0), [])), (291, (20, 40, am_c (0), [])), (293, (20, 20, am_c (0), [])), (294, (20, 60, am_c (0), [])), (6, (20, 10, am_c (-1), [])), (7, (20, 10, am_c (-1), [])), (8, (20, 10, am_c (-1), [])), (9, (20, 10, am_c (-1), [])), (10, (20, 10, am_c (-1), [])), (11, (20, 10, am_c (-1), [])), (12, (20, 10, am_c (-1), [])), (13, (20, 10, am_c (-1), [])), (14, (20, 10, am_c (-1), [])), (15, (20, 10, am_c (-1), [])), (16, (20, 10, am_c (-1), [])), (17, (20, 10, am_c (-1), [])), (18, (20, 10, am_c (-1), [])), (19, (20, 10, am_c (-1), [])), (20, (20, 10, am_c (-1), [])), (21, (20, 10, am_c (-1), [])), (22, (20, 10, am_c (-1), [])), (23, (20, 10, am_c (-1), [])), (24, (20, 10, am_c (-1), [])), (25, (20, 10, am_c (-1), [])), (26, (20, 10, am_c (-1), [])), (27, (20, 10, am_c (-1), [])), (28, (20, 10, am_c (-1), [])), (29, (20, 10, am_c (-1), [])), (30, (20, 10, am_c (-1), [])), (31, (20, 10, am_c (-1), [])), (32, (20, 10, am_c (-1), [])), (33, (20, 10, am_c (-1), [])), (34, (20, 10, am_c (-1), [])), (35, (20, 10, am_c (-1), [])), (36, (20, 10, am_c (-1), [])), (37, (20, 10, am_c (-1), []))]
def am_A0_2 : List (Nat × aC) := [(38, (20, 10, am_c (-1), [])), (39, (20, 10, am_c (-1), [])), (40, (20, 10, am_c (-1), [])), (41, (20, 10, am_c (-1), [])), (42, (20, 10, am_c (-1), [])), (43, (20, 10, am_c (-1), [])), (44, (20, 10, am_c (-1), [])), (45, (20, 10, am_c (-1), [])), (57, (20, 8, am_c (0), [])), (58, (20, 8, am_c (0), [])), (59, (20, 8, am_c (0), [])), (60, (20, 8, am_c (0), [])), (61, (20, 8, am_c (0), [])), (62, (20, 8, am_c (0), [])), (63, (20, 8, am_c (0), [])), (64, (20, 8, am_c (0), [])), (65, (20, 8, am_c (0), [])), (66, (20, 8, am_c (0), [])), (67, (20, 8, am_c (0), [])), (68, (20, 8, am_c (0), [])), (69, (20, 8, am_c (0), [])), (70, (20, 8, am_c (0), [])), (71, (20, 8, am_c (0), [])), (72, (20, 8, am_c (0), [])), (73, (20, 8, am_c (0), [])), (74, (20, 8, am_c (0), [])), (75, (20, 8, am_c (0), [])), (76, (20, 8, am_c (0), [])), (77, (20, 8, am_c (0), [])), (78, (20, 8, am_c (0), [])), (79, (20, 8, am_c (0), [])), (80, (20, 8, am_c (0), [])), (81, (20, 8, am_c (0), [])), (82, (20, 8, am_c (0), [])), (83, (20, 8, am_c (0), [])), (84, (20, 8, am_c (0), [])), (85, (20, 8, am_c (0), [])), (86, (20, 8, am_c (0), [])), (87, (20, 8, am_c (0), [])), (88, (20, 8, am_c (0), [])), (89, (20, 8, am_c (0), [])), (90, (20, 8, am_c (0), [])), (91, (20, 8, am_c (0), [])), (92, (20, 8, am_c (0), [])), (93, (20, 8, am_c (0), [])), (94, (20, 8, am_c (0), [])), (95, (20, 8, am_c (0), [])), (96, (20, 8, am_c (0), [])), (97, (20, 8, am_c (0), [])), (98, (20, 8, am_c (0), [])), (99, (20, 8, am_c (0), [])), (100, (20, 8, am_c (0), [])), (101, (20, 8, am_c (0), [])), (102, (20, 8, am_c (0), [])), (103, (20, 8, am_c (0), [])), (104, (20, 8, am_c (0), [])), (105, (20, 8, am_c (0), [])), (106, (20, 8, am_c (0), [])), (107, (20, 8, am_c (0), [])), (108, (20, 8, am_c (0), []))]
def am_A0_3 : List (Nat × aC) := [(109, (20, 8, am_c (0), [])), (110, (20, 8, am_c (0), [])), (111, (20, 8, am_c (0), [])), (112, (20, 8, am_c (0), [])), (113, (20, 8, am_c (0), [])), (114, (20, 8, am_c (0), [])), (115, (20, 8, am_c (0), [])), (116, (20, 8, am_c (0), [])), (117, (20, 8, am_c (0), [])), (118, (20, 8, am_c (0), [])), (119, (20, 8, am_c (0), [])), (120, (20, 8, am_c (0), [])), (121, (20, 8, am_c (0), [])), (122, (20, 8, am_c (0), [])), (123, (20, 8, am_c (0), [])), (124, (20, 8, am_c (0), [])), (125, (20, 8, am_c (0), [])), (126, (20, 8, am_c (0), [])), (127, (20, 8, am_c (0), [])), (128, (20, 8, am_c (0), [])), (129, (20, 8, am_c (0), [])), (130, (20, 8, am_c (0), [])), (131, (20, 8, am_c (0), [])), (132, (20, 8, am_c (0), [])), (133, (20, 8, am_c (0), [])), (134, (20, 8, am_c (0), [])), (135, (20, 8, am_c (0), [])), (136, (20, 8, am_c (0), [])), (137, (20, 8, am_c (0), [])), (138, (20, 8, am_c (0), [])), (139, (20, 8, am_c (0), [])), (140, (20, 8, am_c (0), [])), (141, (20, 8, am_c (0), [])), (142, (20, 8, am_c (0), [])), (143, (20, 8, am_c (0), [])), (144, (20, 8, am_c (0), [])), (145, (20, 8, am_c (0), [])), (146, (20, 8, am_c (0), [])), (147, (20, 8, am_c (0), [])), (148, (20, 8, am_c (0), [])), (149, (20, 8, am_c (0), [])), (150, (20, 8, am_c (0), [])), (151, (20, 8, am_c (0), [])), (152, (20, 8, am_c (0), [])), (153, (20, 8, am_c (0), [])), (154, (20, 8, am_c (0), [])), (155, (20, 8, am_c (0), [])), (156, (20, 8, am_c (0), [])), (157, (20, 8, am_c (0), [])), (158, (20, 8, am_c (0), [])), (159, (20, 8, am_c (0), [])), (160, (20, 8, am_c (0), [])), (161, (20, 8, am_c (0), [])), (162, (20, 8, am_c (0), [])), (163, (20, 8, am_c (0), [])), (164, (20, 8, am_c (0), [])), (165, (20, 8, am_c (0), [])), (166, (20, 8, am_c (0), [])), (167, (20, 8, am_c (0), [])), (168, (20, 8, am_c (0), []))]
def am_A0_4 : List (Nat × aC) := [(169, (20, 8, am_c (0), [])), (170, (20, 8, am_c (0), [])), (171, (20, 8, am_c (0), [])), (172, (20, 8, am_c (0), [])), (173, (20, 8, am_c (0), [])), (174, (20, 8, am_c (0), [])), (175, (20, 8, am_c (0), [])), (176, (20, 8, am_c (0), [])), (180, (20, 8, am_c (0), [])), (181, (20, 8, am_c (0), [])), (183, (20, 8, am_c (0), [])), (184, (20, 8, am_c (0), [])), (185, (20, 8, am_c (0), [])), (186, (20, 8, am_c (0), [])), (187, (20, 8, am_c (0), [])), (188, (20, 8, am_c (0), [])), (189, (20, 8, am_c (0), [])), (190, (20, 8, am_c (0), [])), (192, (20, 8, am_c (0), [])), (193, (20, 8, am_c (0), [])), (194, (20, 8, am_c (0), [])), (195, (20, 8, am_c (0), [])), (196, (20, 8, am_c (0), [])), (197, (20, 8, am_c (0), [])), (198, (20, 8, am_c (0), [])), (199, (20, 8, am_c (0), [])), (201, (20, 8, am_c (0), [])), (202, (20, 8, am_c (0), [])), (203, (20, 8, am_c (0), [])), (204, (20, 8, am_c (0), [])), (205, (20, 8, am_c (0), [])), (206, (20, 8, am_c (0), [])), (207, (20, 8, am_c (0), [])), (208, (20, 8, am_c (0), [])), (210, (20, 6, am_c (0), [])), (211, (21, 6, am_j (0), [])), (212, (20, 6, am_c (0), [])), (219, (20, 8, am_c (0), [])), (232, (20, 4, am_c (0), [])), (234, (20, 5, am_c (0), [])), (235, (20, 5, am_c (0), [])), (236, (20, 5, am_c (0), [])), (237, (20, 5, am_c (0), [])), (239, (21, 5, am_j (0), [])), (240, (21, 5, am_j (0), [])), (241, (21, 5, am_j (0), [])), (242, (21, 5, am_j (0), [])), (245, (20, 6, am_c (0), [])), (246, (21, 6, am_j (0), [])), (247, (20, 6, am_c (0), [])), (270, (20, 8, am_c (0), [])), (271, (20, 9, am_c (0), [])), (276, (20, 6, am_c (0), [])), (286, (20, 8, am_c (0), [])), (292, (20, 4, am_c (0), []))]
def am_A0 : aH := (295, am_A0_0 ++ (am_A0_1 ++ (am_A0_2 ++ (am_A0_3 ++ (am_A0_4)))))
def am_L : Nat := 231
def am_Lc : Nat := 295
def am_Lk : Nat := 10442
def am_ref (n : Nat) : aV := (2, n, n, 0, 0)
def am_Ll : aL := [(3, am_c 0), (2, am_ref 256), (1, am_ref 0), (0, am_ref 2000)]
