/-! THE BOX MACHINE: the pure machine over boxes. A value: (0 int, 1 long, 2 reference, 3 null; least, most; the symbol that it is (0: none), and by how much it is more). Facts: (0 'equal', 1 'less'; symbol, symbol, whether). -/
abbrev aV : Type := Nat × Int × Int × Nat × Int
abbrev aL : Type := List (Nat × aV)
abbrev aC : Type := Nat × Nat × aV × List (Nat × aV)
abbrev aH : Type := Nat × List (Nat × aC)
abbrev aF : Type := List (Nat × Nat × Nat × Bool)
def am_le (a b : Int) : Bool := match a, b with
  | .ofNat x, .ofNat y => Nat.ble x y
  | .negSucc _, .ofNat _ => true
  | .ofNat _, .negSucc _ => false
  | .negSucc x, .negSucc y => Nat.ble y x
def am_ieq (a b : Int) : Bool := am_le a b && am_le b a
def am_in32 (n : Int) : Bool := am_le (-2147483648) n && am_le n 2147483647
def am_cat (a : aV) : Nat := cond (Nat.beq a.1 1) 2 1
def am_c (n : Int) : aV := (0, n, n, 0, 0)
def am_j (n : Int) : aV := (1, n, n, 0, 0)
def am_top : aV := (0, -2147483648, 2147483647, 0, 0)
def am_ltop : aV := (1, -9223372036854775808, 9223372036854775807, 0, 0)
def am_isc (a : aV) : Bool := am_ieq a.2.1 a.2.2.1
/-- the symbol of a sum -/
def am_ids (a b : aV) : Nat × Int := cond (am_isc b) (a.2.2.2.1, a.2.2.2.2 + b.2.1) (cond (am_isc a) (b.2.2.2.1, b.2.2.2.2 + a.2.1) (0, 0))
def am_add (a b : aV) : aV := cond (am_in32 (a.2.1 + b.2.1) && am_in32 (a.2.2.1 + b.2.2.1)) (0, a.2.1 + b.2.1, a.2.2.1 + b.2.2.1, (am_ids a b).1, (am_ids a b).2) (0, -2147483648, 2147483647, (am_ids a b).1, (am_ids a b).2)
def am_sub (a b : aV) : aV := cond (am_in32 (a.2.1 - b.2.2.1) && am_in32 (a.2.2.1 - b.2.1)) (0, a.2.1 - b.2.2.1, a.2.2.1 - b.2.1, 0, 0) am_top
def am_k2 (f : Int32 → Int32 → Int32) (a b : aV) : aV := cond (am_isc a && am_isc b) (am_c (f (Int32.ofInt a.2.1) (Int32.ofInt b.2.1)).toInt) am_top
def am_l2 (f : Int64 → Int64 → Int64) (a b : aV) : aV := cond (am_isc a && am_isc b) (am_j (f (Int64.ofInt a.2.1) (Int64.ofInt b.2.1)).toInt) am_ltop
def am_l3 (f : Int64 → Int32 → Int64) (a b : aV) : aV := cond (am_isc a && am_isc b) (am_j (f (Int64.ofInt a.2.1) (Int32.ofInt b.2.1)).toInt) am_ltop
def am_and (a b : aV) : aV := cond (am_isc b && am_le 0 b.2.1 && !(am_isc a)) (0, 0, b.2.1, 0, 0) (am_k2 (fun x y => x &&& y) a b)
def am_fact (F : aF) (r i j : Nat) : Option Bool := match F with
  | [] => none
  | (r', i', j', t) :: G => cond (Nat.beq r r' && Nat.beq i i' && Nat.beq j j') (some t) (am_fact G r i j)
/-- is a less than b? -/
def am_lt (F : aF) (a b : aV) : Option Bool := cond (am_le (a.2.2.1 + 1) b.2.1) (some true) (cond (am_le b.2.2.1 a.2.1) (some false)
  (cond (Nat.beq a.2.2.2.1 0 || Nat.beq b.2.2.2.1 0 || !(am_ieq a.2.2.2.2 0) || !(am_ieq b.2.2.2.2 0)) none (am_fact F 1 a.2.2.2.1 b.2.2.2.1)))
def am_eq (F : aF) (a b : aV) : Option Bool := cond (am_isc a && am_isc b && am_ieq a.2.1 b.2.1) (some true) (cond (am_le (a.2.2.1 + 1) b.2.1 || am_le (b.2.2.1 + 1) a.2.1) (some false)
  (cond (Nat.beq a.2.2.2.1 0 || Nat.beq b.2.2.2.1 0) none (cond (Nat.beq a.2.2.2.1 b.2.2.2.1 && am_ieq a.2.2.2.2 b.2.2.2.2) (some true) (cond (am_ieq a.2.2.2.2 0 && am_ieq b.2.2.2.2 0) (am_fact F 0 a.2.2.2.1 b.2.2.2.1) none))))
def am_lcmp (F : aF) (a b : aV) : aV :=
  (0, (match am_lt F b a with
    | some true => 1
    | _ => (match am_lt F a b with
      | some false => 0
      | _ => -1)), (match am_lt F a b with
    | some true => -1
    | _ => (match am_lt F b a with
      | some false => 0
      | _ => 1)), 0, 0)
def am_st1 (ls : aL) (i : Nat) (v : aV) : aL := (i, v) :: ls.filter (fun q => !(q.1 == i) && !(q.1 + 1 == i && am_cat q.2 == 2))
def am_st2 (ls : aL) (i : Nat) (v : aV) : aL := (i, v) :: ls.filter (fun q => !(q.1 == i) && (!(q.1 == i + 1) && !(q.1 + 1 == i && am_cat q.2 == 2)))
abbrev aS : Type := Nat × aL × List aV
def am_ld (ls : aL) (st : List aV) (j t pc : Nat) : Option aS := match pm_look ls j with
  | some a => cond (Nat.beq a.1 t) (some (pc, ls, a :: st)) none
  | none => none
def am_sto (ml : Nat) (ls : aL) (st : List aV) (j t pc : Nat) : Option aS := match st with
  | a :: r => cond (Nat.beq a.1 t && Nat.blt j ml) (some (pc, am_st1 ls j a, r)) none
  | [] => none
def am_stl (ml : Nat) (ls : aL) (st : List aV) (j pc : Nat) : Option aS := match st with
  | a :: r => cond (Nat.beq a.1 1 && Nat.blt (j + 1) ml) (some (pc, am_st2 ls j a, r)) none
  | [] => none
def am_bin (ls : aL) (st : List aV) (pc t u : Nat) (f : aV → aV → aV) : Option aS := match st with
  | y :: x :: r => cond (Nat.beq y.1 t && Nat.beq x.1 u) (some (pc + 1, ls, f x y :: r)) none
  | _ => none
def am_br (b : Option Bool) (pc : Nat) (off : Int) (ls : aL) (st : List aV) : Option aS := match b, pm_tgt pc off with
  | some b, some t => some (cond b t (pc + 3), ls, st)
  | _, _ => none
def am_not (b : Option Bool) : Option Bool := match b with
  | some b => some (!b)
  | none => none
def am_stepA (F : aF) (ml : Nat) (i : Instr) (pc : Nat) (ls : aL) (st : List aV) : Option aS :=
  match i with
  | .iconst n => cond (am_in32 n) (some (pc + 1, ls, am_c n :: st)) none
  | .bipush n => cond (am_le (-128) n && am_le n 127) (some (pc + 2, ls, am_c n :: st)) none
  | .sipush n => cond (am_le (-32768) n && am_le n 32767) (some (pc + 3, ls, am_c n :: st)) none
  | .lconst n => cond (Nat.ble n 1) (some (pc + 1, ls, am_j (n : Nat) :: st)) none
  | .iload_n j => am_ld ls st j 0 (pc + 1)
  | .iload j => am_ld ls st j 0 (pc + 2)
  | .lload_n j => am_ld ls st j 1 (pc + 1)
  | .lload j => am_ld ls st j 1 (pc + 2)
  | .aload_n j => am_ld ls st j 2 (pc + 1)
  | .aload j => am_ld ls st j 2 (pc + 2)
  | .istore_n j => am_sto ml ls st j 0 (pc + 1)
  | .istore j => am_sto ml ls st j 0 (pc + 2)
  | .lstore_n j => am_stl ml ls st j (pc + 1)
  | .lstore j => am_stl ml ls st j (pc + 2)
  | .astore_n j => am_sto ml ls st j 2 (pc + 1)
  | .astore j => am_sto ml ls st j 2 (pc + 2)
  | .iinc j n => match pm_look ls j with
    | some a => cond (Nat.beq a.1 0 && Nat.blt j ml && am_in32 n) (some (pc + 3, am_st1 ls j (am_add a (am_c n)), st)) none
    | none => none
  | .dup => match st with
    | a :: r => cond (Nat.beq a.1 0 || Nat.beq a.1 2) (some (pc + 1, ls, a :: a :: r)) none
    | [] => none
  | .dup2 => match st with
    | x :: y :: r => cond (Nat.beq x.1 0 && Nat.beq y.1 2) (some (pc + 1, ls, x :: y :: x :: y :: r)) none
    | _ => none
  | .iadd => am_bin ls st pc 0 0 am_add
  | .isub => am_bin ls st pc 0 0 am_sub
  | .imul => am_bin ls st pc 0 0 (am_k2 (fun x y => x * y))
  | .idiv => match st with
    | y :: x :: r => cond (Nat.beq y.1 0 && Nat.beq x.1 0 && (am_le 1 y.2.1 || am_le y.2.2.1 (-1))) (some (pc + 1, ls, am_k2 (fun x y => x / y) x y :: r)) none
    | _ => none
  | .irem => match st with
    | y :: x :: r => cond (Nat.beq y.1 0 && Nat.beq x.1 0 && (am_le 1 y.2.1 || am_le y.2.2.1 (-1))) (some (pc + 1, ls, am_k2 (fun x y => x - x / y * y) x y :: r)) none
    | _ => none
  | .iand => am_bin ls st pc 0 0 am_and
  | .ior => am_bin ls st pc 0 0 (am_k2 (fun x y => x ||| y))
  | .ishl => am_bin ls st pc 0 0 (am_k2 (fun x y => x <<< (y &&& 31)))
  | .ishr => am_bin ls st pc 0 0 (am_k2 (fun x y => x >>> (y &&& 31)))
  | .iushr => am_bin ls st pc 0 0 (am_k2 (fun x y => (x.toUInt32 >>> (y.toUInt32 &&& Int32.toUInt32 31)).toInt32))
  | .ladd => am_bin ls st pc 1 1 (am_l2 (fun x y => x + y))
  | .lsub => am_bin ls st pc 1 1 (am_l2 (fun x y => x - y))
  | .lmul => am_bin ls st pc 1 1 (am_l2 (fun x y => x * y))
  | .land => am_bin ls st pc 1 1 (am_l2 (fun x y => x &&& y))
  | .lor => am_bin ls st pc 1 1 (am_l2 (fun x y => x ||| y))
  | .lxor => am_bin ls st pc 1 1 (am_l2 (fun x y => x ^^^ y))
  | .lshl => am_bin ls st pc 0 1 (am_l3 (fun x y => x <<< (y.toInt64 &&& 63)))
  | .lshr => am_bin ls st pc 0 1 (am_l3 (fun x y => x >>> (y.toInt64 &&& 63)))
  | .lushr => am_bin ls st pc 0 1 (am_l3 (fun x y => (x.toUInt64 >>> (y.toInt64.toUInt64 &&& Int64.toUInt64 63)).toInt64))
  | .i2l => match st with
    | a :: r => cond (Nat.beq a.1 0) (some (pc + 1, ls, (1, a.2.1, a.2.2.1, cond (am_ieq a.2.2.2.2 0) a.2.2.2.1 0, 0) :: r)) none
    | [] => none
  | .l2i => match st with
    | a :: r => cond (Nat.beq a.1 1) (some (pc + 1, ls, cond (am_isc a) (am_c (Int64.ofInt a.2.1).toInt32.toInt) am_top :: r)) none
    | [] => none
  | .lcmp => am_bin ls st pc 1 1 (am_lcmp F)
  | .goto off => match pm_tgt pc off with
    | some t => some (t, ls, st)
    | none => none
  | .if_icmp cd off => match st with
    | y :: x :: r => cond (Nat.beq y.1 0 && Nat.beq x.1 0) (match cd with
      | .eq => am_br (am_eq F x y) pc off ls r
      | .ne => am_br (am_not (am_eq F x y)) pc off ls r
      | .lt => am_br (am_lt F x y) pc off ls r
      | .ge => am_br (am_not (am_lt F x y)) pc off ls r
      | .gt => am_br (am_lt F y x) pc off ls r
      | .le => am_br (am_not (am_lt F y x)) pc off ls r) none
    | _ => none
  | .ifCond cd off => match st with
    | x :: r => cond (Nat.beq x.1 0) (match cd with
      | .eq => am_br (am_eq F x (am_c 0)) pc off ls r
      | .ne => am_br (am_not (am_eq F x (am_c 0))) pc off ls r
      | .lt => am_br (am_lt F x (am_c 0)) pc off ls r
      | .ge => am_br (am_not (am_lt F x (am_c 0))) pc off ls r
      | .gt => am_br (am_lt F (am_c 0) x) pc off ls r
      | .le => am_br (am_not (am_lt F (am_c 0) x)) pc off ls r) none
    | [] => none
  | _ => none
/-- what stands at a place of a cell -/
def am_rd (d : aV) (ov : List (Nat × aV)) (i : Nat) : aV := match pm_look ov i with
  | some a => a
  | none => cond (Nat.beq d.1 4) (2, d.2.1 + (i : Nat), d.2.1 + (i : Nat), 0, 0) d
def am_ix (a : aV) (n : Nat) : Option Nat := cond (Nat.beq a.1 0 && am_isc a && am_le 0 a.2.1 && Nat.blt a.2.1.toNat n) (some a.2.1.toNat) none
def am_okv (ty : FieldType) (a : aV) : Bool := match ty with
  | .int => Nat.beq a.1 0
  | .long => Nat.beq a.1 1
  | .boolean => Nat.beq a.1 0 && am_le 0 a.2.1 && am_le a.2.2.1 1
  | .object _ => Nat.beq a.1 2
  | .array _ => Nat.beq a.1 2
  | _ => false
def am_set (l : List (Nat × aC)) (q : Nat) (c : aC) : List (Nat × aC) := match l with
  | [] => [(q, c)]
  | e :: r => cond (Nat.beq e.1 q) ((q, c) :: r) (e :: am_set r q c)
abbrev aT : Type := Nat × aL × List aV × aH × Nat × Nat
/-- an array's element -/
def am_ald (t1 t2 : Nat) (ls : aL) (st : List aV) (h : aH) (c k pc : Nat) : Option aT := match st with
  | j :: q :: r => cond (Nat.beq q.1 2) (match pm_look h.2 q.2.1.toNat with
    | some (t, n, d, ov) => cond (Nat.beq t t1 || Nat.beq t t2) (match am_ix j n with
      | some i => cond (Nat.ble (am_rd d ov i).1 3) (some (pc + 1, ls, am_rd d ov i :: r, h, c, k)) none
      | none => none) none
    | none => none) none
  | _ => none
def am_ast (t1 u : Nat) (f : aV → aV) (ls : aL) (st : List aV) (h : aH) (c k pc : Nat) : Option aT := match st with
  | v :: j :: q :: r => cond (Nat.beq q.1 2 && Nat.beq v.1 u) (match pm_look h.2 q.2.1.toNat with
    | some (t, n, d, ov) => cond (Nat.beq t t1) (match am_ix j n with
      | some i => some (pc + 1, ls, r, (h.1, am_set h.2 q.2.1.toNat (t, n, d, (i, f v) :: ov)), c, k)
      | none => none) none
    | none => none) none
  | _ => none
def am_dv (ty : FieldType) : aV := match ty with
  | .int => am_c 0
  | .boolean => am_c 0
  | .long => am_j 0
  | .object _ => (3, 0, 0, 0, 0)
  | .array _ => (3, 0, 0, 0, 0)
  | _ => (9, 0, 0, 0, 0)
def am_fresh (ci : Nat) : Nat → List (Nat × aV)
  | 0 => []
  | n + 1 => (n, am_dv (pm_ty ci n)) :: am_fresh ci n
def am_rows (t k : Nat) (d : aV) (b : Nat) : Nat → List (Nat × aC)
  | 0 => []
  | n + 1 => (b + n, (t, k, d, [])) :: am_rows t k d b n
def am_stepB (AX : Option (Nat × List aV)) (m oc : Nat) (i : Instr) (pc : Nat) (ls : aL) (st : List aV) (h : aH) (c k : Nat) : Option aT :=
  match i with
  | .tableswitch dflt lo hi offs => match st with
    | x :: r => cond (Nat.beq x.1 0) (cond (am_le (x.2.2.1 + 1) lo || am_le (hi + 1) x.2.1) (match pm_tgt pc dflt with
        | some t => some (t, ls, r, h, c, k)
        | none => none) (cond (am_isc x) (match offs.toList[(x.2.1 - lo).toNat]? with
        | some off => (match pm_tgt pc off with
          | some t => some (t, ls, r, h, c, k)
          | none => none)
        | none => none) none)) none
    | [] => none
  | .lookupswitch dflt ps => match st with
    | x :: r => cond (Nat.beq x.1 0 && am_isc x) (if (ps.toList.zip (ps.toList.drop 1)).all (fun (a, next) => a.1 < next.1) = true then (match pm_tgt pc (Op.lookupswitch.offset ps.toList dflt x.2.1) with
        | some t => some (t, ls, r, h, c, k)
        | none => none) else none) none
    | [] => none
  | .ldc j => match pm_look (pm_cons oc) j with
    | some (.int x) => some (pc + 2, ls, am_c x.toInt :: st, h, c, k)
    | some (.ref x) => some (pc + 2, ls, (2, (x : Nat), (x : Nat), 0, 0) :: st, h, c, k)
    | _ => none
  | .ldc2_w j => match pm_look (pm_cons oc) j with
    | some (.long x) => some (pc + 3, ls, am_j x.toInt :: st, h, c, k)
    | _ => none
  | .getfield j => match st with
    | q :: r => cond (Nat.beq q.1 2 && Nat.blt q.2.1.toNat 2001) (match pm_look (pm_flds oc) j, pm_look h.2 q.2.1.toNat with
      | some (ci, f), some (t, n, d, ov) => cond (Nat.beq ci t && Nat.blt f n && Nat.ble (am_rd d ov f).1 3) (some (pc + 3, ls, am_rd d ov f :: r, h, c, k)) none
      | _, _ => none) none
    | [] => none
  | .putfield j => match st with
    | v :: q :: r => cond (Nat.beq q.1 2) (match pm_look (pm_flds oc) j, pm_look h.2 q.2.1.toNat with
      | some (ci, f), some (t, n, d, ov) => cond (Nat.beq ci t && am_okv (pm_ty ci f) v && (!(pm_fin ci f) || (Nat.beq (pm_in m) 1 && Nat.beq ci oc))) (some (pc + 3, ls, r, (h.1, am_set h.2 q.2.1.toNat (t, n, d, (f, v) :: ov)), c, k)) none
      | _, _ => none) none
    | _ => none
  | .iaload => match st with
    | j :: q :: r => cond (Nat.beq q.1 2 && am_ieq q.2.1 2000) (match AX with
      | some x => (match am_ix j x.1 with
        | some i => (match x.2[i]? with
          | some a => some (pc + 1, ls, a :: r, h, c, k)
          | none => none)
        | none => none)
      | none => none) (am_ald 20 20 ls st h c k pc)
    | _ => none
  | .laload => am_ald 21 21 ls st h c k pc
  | .baload => none
  | .aaload => am_ald 23 24 ls st h c k pc
  | .iastore => am_ast 20 0 (fun v => v) ls st h c k pc
  | .lastore => am_ast 21 1 (fun v => v) ls st h c k pc
  | .bastore => am_ast 22 0 (fun v => am_and v (am_c 1)) ls st h c k pc
  | .arraylength => match st with
    | q :: r => cond (Nat.beq q.1 2) (cond (am_ieq q.2.1 2000) (match AX with
      | some x => cond (Nat.ble x.1 100000) (some (pc + 1, ls, am_c (x.1 : Nat) :: r, h, c, k)) none
      | none => none) (cond (Nat.blt q.2.1.toNat 2101) (match pm_look h.2 q.2.1.toNat with
      | some (t, n, _) => cond ((Nat.beq t 20 || Nat.beq t 21) && Nat.ble n 100000) (some (pc + 1, ls, am_c (n : Nat) :: r, h, c, k)) none
      | none => none) none)) none
    | [] => none
  | .new j => match pm_look (pm_news oc) j with
    | some ci => match pm_cl[ci]? with
      | some q => cond (Nat.ble (c + 1) (pm_mc m) && Nat.ble (k + q.2.2) (pm_ms m) && Nat.blt h.1 900) (some (pc + 3, ls, (2, (h.1 : Nat), (h.1 : Nat), 0, 0) :: st, (h.1 + 1, (h.1, (ci, q.2.2, (9, 0, 0, 0, 0), am_fresh ci q.2.2)) :: h.2), c + 1, k + q.2.2)) none
      | none => none
    | none => none
  | .newarray ty => match st with
    | n :: r => (match am_ix n 100001 with
      | some n => cond (Nat.ble (c + 1) (pm_mc m) && Nat.ble (k + n) (pm_ms m) && Nat.blt h.1 900) (match ty with
        | .int => some (pc + 2, ls, (2, (h.1 : Nat), (h.1 : Nat), 0, 0) :: r, (h.1 + 1, (h.1, (20, n, am_c 0, [])) :: h.2), c + 1, k + n)
        | .long => some (pc + 2, ls, (2, (h.1 : Nat), (h.1 : Nat), 0, 0) :: r, (h.1 + 1, (h.1, (21, n, am_j 0, [])) :: h.2), c + 1, k + n)
        | .boolean => some (pc + 2, ls, (2, (h.1 : Nat), (h.1 : Nat), 0, 0) :: r, (h.1 + 1, (h.1, (22, n, am_c 0, [])) :: h.2), c + 1, k + n)
        | _ => none) none
      | none => none)
    | [] => none
  | .multianewarray j d => match st with
    | k1 :: n1 :: r => (match pm_look (pm_mnas oc) j, am_ix k1 1001, am_ix n1 1001 with
      | some t, some k1, some n1 => cond (Nat.beq d 2 && Nat.ble (c + (1 + n1)) (pm_mc m) && Nat.ble (k + (n1 + n1 * k1)) (pm_ms m) && Nat.blt h.1 900 && (Nat.beq t 20 || Nat.beq t 21))
          (some (pc + 4, ls, (2, (h.1 : Nat), (h.1 : Nat), 0, 0) :: r, (h.1 + 1 + n1, (h.1, (t + 3, n1, (4, (h.1 + 1 : Nat), 0, 0, 0), [])) :: (h.2 ++ am_rows t k1 (cond (Nat.beq t 20) (am_c 0) (am_j 0)) (h.1 + 1) n1)), c + 1 + n1, k + n1 + n1 * k1)) none
      | _, _, _ => none)
    | _ => none
  | _ => none
def am_args : Nat → List aV → aL
  | _, [] => []
  | i, v :: vs => (i, v) :: am_args (if am_cat v = 2 then i + 2 else i + 1) vs
def am_end (m : Nat) (i : Instr) (st : List aV) : Option (Option aV) :=
  match i with
  | .ireturn => match st, pm_ret m with
    | [a], some .int => cond (Nat.beq a.1 0) (some (some a)) none
    | [a], some .boolean => cond (Nat.beq a.1 0 && am_le 0 a.2.1 && am_le a.2.2.1 1) (some (some a)) none
    | _, _ => none
  | .lreturn => match st, pm_ret m with
    | [a], some .long => cond (Nat.beq a.1 1) (some (some a)) none
    | _, _ => none
  | .return_ => match st, pm_ret m with
    | [], none => some none
    | _, _ => none
  | _ => none
def am_op (i : Instr) : Option (Nat × Nat) := match i with
    | .invokevirtual j => some (j, 0)
    | .invokestatic j => some (j, 1)
    | .invokespecial j => some (j, 2)
    | _ => none
def am_inv (m oc : Nat) (i : Instr) (st : List aV) (h : aH) (c k : Nat) : Option (Option Nat × List aV × List aV) :=
  match am_op i with
  | none => none
  | some (j, op) => match pm_look (pm_calls oc) j with
    | none => none
    | some (y, kind, n) =>
      if kind = 3 then (if op = 2 ∧ 1 ≤ pm_fr m then match st with
        | a :: r => if a.1 = 2 ∧ (r.map am_cat).sum + 12 ≤ pm_lo m then some (none, [a], r) else none
        | [] => none
        else none)
      else if kind % 10 = op ∧ n ≤ st.length ∧ pm_fr y + 1 ≤ pm_fr m ∧ 8 + (pm_maxL y + 11) + pm_lo y ≤ pm_lo m ∧ c + pm_mc y ≤ pm_mc m ∧ k + pm_ms y ≤ pm_ms m then
        (if op = 1 then (if ((st.drop n).map am_cat).sum ≤ 8 ∧ (((st.take n).reverse).map am_cat).sum ≤ pm_maxL y ∧ pm_oc y < pm_lawc then some (some y, (st.take n).reverse, st.drop n) else none)
        else match st.drop n with
          | a :: r => if a.1 = 2 ∧ a.2.1.toNat < 2001 then (match pm_look h.2 a.2.1.toNat with
            | some (t, _) => if t = pm_oc y ∧ t < 12 ∧ (r.map am_cat).sum ≤ 8 ∧ 1 + (((st.take n).reverse).map am_cat).sum ≤ pm_maxL y then some (some y, a :: (st.take n).reverse, r) else none
            | none => none) else none
          | [] => none)
      else none
def am_drop (l : List (Nat × Instr × Nat)) (pc : Nat) : List (Nat × Instr × Nat) := match l with
  | [] => []
  | e :: r => cond (Nat.beq e.1 pc) (e :: r) (am_drop r pc)
def am_next (kl rest : List (Nat × Instr × Nat)) (pc : Nat) : List (Nat × Instr × Nat) := match rest with
  | e :: r => cond (Nat.beq e.1 pc) (e :: r) (am_drop kl pc)
  | [] => am_drop kl pc
def am_isret (i : Instr) : Bool := match i with
  | .ireturn => true
  | .lreturn => true
  | .return_ => true
  | _ => false
/-- (true: returned, its answer on the stack; false: come to stop; fuel left) -/
abbrev aR : Type := Bool × aL × List aV × aH × Nat × Nat × Nat
def am_exec (F : aF) : Nat → Option (Nat × List aV) → Nat → Nat → Nat → Nat → List (Nat × Instr × Nat) → aL → List aV → aH → Nat → Nat → Option aR
  | 0, _, _, _, _, _, _, _, _, _, _, _ => none
  | n + 1, AX, stop, m, oc, ml, code, ls, st, h, c, k =>
    match code with
    | [] => none
    | (pc, i, _) :: rest => cond (Nat.beq pc stop) (some (false, ls, st, h, c, k, n + 1)) (cond (am_isret i) (match am_end m i st with
        | some r => some (true, [], r.toList, h, 0, 0, 0)
        | none => none) (match am_op i with
        | some _ => (match am_inv m oc i st h c k with
          | some (some y, as, r) => (match am_exec F n none 99999 y (pm_oc y) (pm_maxL y) (pm_kl y) (am_args 0 as) [] h 0 0 with
            | some (true, _, a, h', _) => am_exec F n AX stop m oc ml (am_next (pm_kl m) rest (pc + 3)) ls (a ++ r) h' (c + pm_mc y) (k + pm_ms y)
            | _ => none)
          | some (none, _, r) => am_exec F n AX stop m oc ml (am_next (pm_kl m) rest (pc + 3)) ls r h c k
          | none => none)
        | none => (match am_stepA F ml i pc ls st with
          | some (pc', ls', st') => am_exec F n AX stop m oc ml (am_next (pm_kl m) rest pc') ls' st' h c k
          | none => (match am_stepB AX m oc i pc ls st h c k with
            | some (pc', ls', st', h', c', k') => am_exec F n AX stop m oc ml (am_next (pm_kl m) rest pc') ls' st' h' c' k'
            | none => none))))
