/-! DECODE ROWS BY ONE WALK: a method's bytes read once from first to last, each instruction held against its own bytes; what the walk does not know is decoded as it stands -/
theorem pm_bd {α β : Type} {x : Decoder α} {f : α → Decoder β} {c : ByteArray} {p q : Nat} {a : α} (h : x c p = .ok (a, q)) : (x >>= f) c p = f a c q := by
  have e : (x >>= f) c p = Except.bind (x c p) (fun t => f t.1 c t.2) := rfl
  rw [e, h]
  rfl
theorem pm_dr {c : ByteArray} {p : Nat} {b : UInt8} {r : List UInt8} (h : c.data.toList.drop p = b :: r) : c.data.toList.drop (p + 1) = r := by
  have e := congrArg (List.drop 1) h
  rw [List.drop_drop] at e
  exact e
theorem pm_u1 {c : ByteArray} {p : Nat} {b : UInt8} {r : List UInt8} (h : c.data.toList.drop p = b :: r) : (Reader.u1 : Decoder Nat) c p = .ok (b.toNat, p + 1) := by
  have hg : c.data.toList[p]? = some b := by
    have e := congrArg (fun l => l[0]?) h
    simpa [List.getElem?_drop] using e
  obtain ⟨hs, hv⟩ := List.getElem?_eq_some_iff.mp hg
  have hs' : p < c.size := hs
  show (if h : p < c.size then ((do set (p + 1); pure c[p].toNat) : Decoder Nat) else throw (HasTruncated.truncated p)) c p = _
  rw [dif_pos hs']
  show Except.ok (c[p].toNat, p + 1) = _
  have e : c[p] = b := hv
  rw [e]
theorem pm_u2 {c : ByteArray} {p : Nat} {a b : UInt8} {r : List UInt8} (h : c.data.toList.drop p = a :: b :: r) : (Reader.u2 : Decoder Nat) c p = .ok (a.toNat * 256 + b.toNat, p + 2) := by
  unfold Reader.u2
  exact (pm_bd (pm_u1 h)).trans ((pm_bd (pm_u1 (pm_dr h))).trans rfl)
theorem pm_mp {α β : Type} {f : α → β} {x : Decoder α} {c : ByteArray} {p q : Nat} {a : α} (h : x c p = .ok (a, q)) : (f <$> x) c p = .ok (f a, q) := by
  have e : (f <$> x) c p = Except.bind (x c p) (fun t => .ok (f t.1, t.2)) := by
    first
    | rfl
    | (show Functor.map (f := StateT Nat (Except DecodeError)) f (x c) p = _
       cases hx : x c p with
       | error y => simp [Functor.map, StateT.map, hx, bind, Except.bind]
       | ok y => simp [Functor.map, StateT.map, hx, bind, Except.bind, pure, Except.pure])
  rw [e, h]
  rfl
def pm_bodyS (p : Nat) : {f : Nat → Decoder Instr // Decoder.instr p = (Reader.u1 >>= f)} := ⟨_, rfl⟩
def pm_newaS (p : Nat) : {f : Nat → Decoder Instr // Decoder.newarray p = (Reader.u1 >>= f)} := ⟨_, rfl⟩
theorem pm_op {c : ByteArray} {p : Nat} {b : UInt8} {r : List UInt8} (h : c.data.toList.drop p = b :: r) : Decoder.instr p c p = (pm_bodyS p).1 b.toNat c (p + 1) := by
  have e : Decoder.instr p c p = (Reader.u1 >>= (pm_bodyS p).1) c p := congrArg (fun (d : Decoder Instr) => d c p) (pm_bodyS p).2
  exact e.trans (pm_bd (pm_u1 h))
theorem pm_dd {c : ByteArray} {p q n : Nat} {i : Instr} (h : Decoder.instr p c p = .ok (i, q)) (hq : q = p + n) : decode c p = .ok (i, n) := by
  have e : decode c p = Except.bind (Decoder.instr p c p) (fun t => .ok (t.1, t.2 - p)) := rfl
  rw [e, h, hq]
  show Except.ok (i, p + n - p) = _
  rw [Nat.add_sub_cancel_left]
theorem pm_zx {β : Type} {R : Decoder β} {g : β → Instr} {c : ByteArray} {p k m : Nat} {b : UInt8} {r : List UInt8} {y : β} (hl : c.data.toList.drop p = b :: r) (hb : b.toNat = k) (hR : R c (p + 1) = .ok (y, p + 1 + m)) (hf : ∀ q, (pm_bodyS p).1 k c q = (R >>= fun y => pure (g y) : Decoder Instr) c q) : decode c p = .ok (g y, 1 + m) :=
  pm_dd (q := p + 1 + m) ((pm_op hl).trans (by rw [hb, hf]; exact (pm_bd hR).trans rfl)) (by omega)
/-- the next byte -/
def pm_r1 (l : List UInt8) (k : Nat → List UInt8 → Bool) : Bool := match l with
  | [] => false
  | b :: r => k b.toNat r
theorem pm_e1 {l : List UInt8} {k : Nat → List UInt8 → Bool} (h : pm_r1 l k = true) : ∃ b r, l = b :: r ∧ k b.toNat r = true := match l, h with
  | b :: r, h => ⟨b, r, rfl, h⟩
def pm_b0 (o : Nat) (l : List UInt8) : Bool := pm_r1 l fun a _ => Nat.beq a o
def pm_b1 (o : Nat) (l : List UInt8) (x : Nat) : Bool := pm_r1 l fun a l => Nat.beq a o && pm_r1 l fun b _ => Nat.beq b x
def pm_b2 (o : Nat) (l : List UInt8) (x : Nat) : Bool := pm_r1 l fun a l => Nat.beq a o && pm_r1 l fun b l => pm_r1 l fun d _ => Nat.beq (b * 256 + d) x
def pm_b1s (o : Nat) (l : List UInt8) (x : Int) : Bool := pm_r1 l fun a l => Nat.beq a o && pm_r1 l fun b _ => decide (Reader.signed 8 b = x)
def pm_b2s (o : Nat) (l : List UInt8) (x : Int) : Bool := pm_r1 l fun a l => Nat.beq a o && pm_r1 l fun b l => pm_r1 l fun d _ => decide (Reader.signed 16 (b * 256 + d) = x)
def pm_b11 (o : Nat) (l : List UInt8) (x : Nat) (y : Int) : Bool := pm_r1 l fun a l => Nat.beq a o && pm_r1 l fun b l => Nat.beq b x && pm_r1 l fun d _ => decide (Reader.signed 8 d = y)
theorem pm_bop {o : Nat} {l : List UInt8} {k : List UInt8 → Bool} (h : (pm_r1 l fun a l => Nat.beq a o && k l) = true) : ∃ b r, l = b :: r ∧ b.toNat = o ∧ k r = true := by
  obtain ⟨b, r, e, h⟩ := pm_e1 h
  have h' : Nat.beq b.toNat o = true ∧ k r = true := by simpa only [Bool.and_eq_true] using h
  exact ⟨b, r, e, Nat.eq_of_beq_eq_true h'.1, h'.2⟩
theorem pm_z0 {c : ByteArray} {p k : Nat} {l : List UInt8} {i : Instr} (hl : c.data.toList.drop p = l) (h : pm_b0 k l = true) (hf : ∀ q, (pm_bodyS p).1 k c q = .ok (i, q)) : decode c p = .ok (i, 1) := by
  obtain ⟨b, r, rfl, h⟩ := pm_e1 h
  exact pm_dd (by rw [pm_op hl, Nat.eq_of_beq_eq_true h, hf]) rfl
theorem pm_z1 {c : ByteArray} {p k x : Nat} {l : List UInt8} {g : Nat → Instr} (hl : c.data.toList.drop p = l) (h : pm_b1 k l x = true) (hf : ∀ q, (pm_bodyS p).1 k c q = (Reader.u1 >>= fun y => pure (g y) : Decoder Instr) c q) : decode c p = .ok (g x, 2) := by
  obtain ⟨b, r, rfl, hb, ha⟩ := pm_bop h
  obtain ⟨d, s, rfl, hc⟩ := pm_e1 ha
  have e := Nat.eq_of_beq_eq_true hc
  exact pm_zx (m := 1) (y := x) (g := g) hl hb (e ▸ pm_u1 (pm_dr hl)) hf
theorem pm_z1s {c : ByteArray} {p k : Nat} {x : Int} {l : List UInt8} {g : Int → Instr} (hl : c.data.toList.drop p = l) (h : pm_b1s k l x = true) (hf : ∀ q, (pm_bodyS p).1 k c q = (Reader.s1 >>= fun y => pure (g y) : Decoder Instr) c q) : decode c p = .ok (g x, 2) := by
  obtain ⟨b, r, rfl, hb, ha⟩ := pm_bop h
  obtain ⟨d, s, rfl, hc⟩ := pm_e1 ha
  have e := of_decide_eq_true hc
  have hR : (Reader.s1 : Decoder Int) c (p + 1) = .ok (Reader.signed 8 d.toNat, p + 1 + 1) := by unfold Reader.s1; exact pm_mp (pm_u1 (pm_dr hl))
  exact pm_zx (m := 1) (y := x) (g := g) hl hb (e ▸ hR) hf
theorem pm_z2 {c : ByteArray} {p k x : Nat} {l : List UInt8} {g : Nat → Instr} (hl : c.data.toList.drop p = l) (h : pm_b2 k l x = true) (hf : ∀ q, (pm_bodyS p).1 k c q = (Reader.u2 >>= fun y => pure (g y) : Decoder Instr) c q) : decode c p = .ok (g x, 3) := by
  obtain ⟨b, r, rfl, hb, ha⟩ := pm_bop h
  obtain ⟨d, s, rfl, hc⟩ := pm_e1 ha
  obtain ⟨d', s', rfl, hd⟩ := pm_e1 hc
  have e := Nat.eq_of_beq_eq_true hd
  have hR : (Reader.u2 : Decoder Nat) c (p + 1) = .ok (d.toNat * 256 + d'.toNat, p + 1 + 2) := pm_u2 (pm_dr hl)
  exact pm_zx (m := 2) (y := x) (g := g) hl hb (e ▸ hR) hf
theorem pm_z2s {c : ByteArray} {p k : Nat} {x : Int} {l : List UInt8} {g : Int → Instr} (hl : c.data.toList.drop p = l) (h : pm_b2s k l x = true) (hf : ∀ q, (pm_bodyS p).1 k c q = (Reader.s2 >>= fun y => pure (g y) : Decoder Instr) c q) : decode c p = .ok (g x, 3) := by
  obtain ⟨b, r, rfl, hb, ha⟩ := pm_bop h
  obtain ⟨d, s, rfl, hc⟩ := pm_e1 ha
  obtain ⟨d', s', rfl, hd⟩ := pm_e1 hc
  have e := of_decide_eq_true hd
  have hR : (Reader.s2 : Decoder Int) c (p + 1) = .ok (Reader.signed 16 (d.toNat * 256 + d'.toNat), p + 1 + 2) := by unfold Reader.s2; exact pm_mp (pm_u2 (pm_dr hl))
  exact pm_zx (m := 2) (y := x) (g := g) hl hb (e ▸ hR) hf
theorem pm_z11 {c : ByteArray} {p k x : Nat} {y : Int} {l : List UInt8} {g : Nat → Int → Instr} (hl : c.data.toList.drop p = l) (h : pm_b11 k l x y = true) (hf : ∀ q, (pm_bodyS p).1 k c q = (Reader.u1 >>= fun y => Reader.s1 >>= fun z => pure (g y z) : Decoder Instr) c q) : decode c p = .ok (g x y, 3) := by
  obtain ⟨b, r, rfl, hb, ha⟩ := pm_bop h
  obtain ⟨d, s, rfl, h1, hc⟩ := pm_bop ha
  obtain ⟨d', s', rfl, hd⟩ := pm_e1 hc
  have e := of_decide_eq_true hd
  have hR : (Reader.s1 : Decoder Int) c (p + 1 + 1) = .ok (Reader.signed 8 d'.toNat, p + 1 + 1 + 1) := by unfold Reader.s1; exact pm_mp (pm_u1 (pm_dr (pm_dr hl)))
  subst h1
  subst e
  exact pm_dd (q := p + 1 + 1 + 1) ((pm_op hl).trans (by rw [hb, hf]; exact (pm_bd (pm_u1 (pm_dr hl))).trans ((pm_bd hR).trans rfl))) rfl
theorem pm_zn {c : ByteArray} {p k : Nat} {l : List UInt8} {i : Instr} (hl : c.data.toList.drop p = l) (h : pm_b1 188 l k = true) (hf : ∀ q, (pm_newaS p).1 k c q = .ok (i, q)) : decode c p = .ok (i, 2) := by
  obtain ⟨b, r, rfl, hb, ha⟩ := pm_bop h
  obtain ⟨d, s, rfl, hc⟩ := pm_e1 ha
  have e := Nat.eq_of_beq_eq_true hc
  have hn : (pm_bodyS p).1 188 c (p + 1) = Decoder.newarray p c (p + 1) := rfl
  have e1 : Decoder.newarray p c (p + 1) = (Reader.u1 >>= (pm_newaS p).1) c (p + 1) := congrArg (fun (d : Decoder Instr) => d c (p + 1)) (pm_newaS p).2
  exact pm_dd (q := p + 1 + 1) ((pm_op hl).trans (by rw [hb, hn, e1, pm_bd (pm_u1 (pm_dr hl)), e, hf])) rfl
/-- an instruction against the bytes from its place on (false: not known here) -/
def pm_ick (i : Instr) (l : List UInt8) : Bool := match i with
  | .iaload => pm_b0 46 l
  | .laload => pm_b0 47 l
  | .aaload => pm_b0 50 l
  | .baload => pm_b0 51 l
  | .iastore => pm_b0 79 l
  | .lastore => pm_b0 80 l
  | .bastore => pm_b0 84 l
  | .pop => pm_b0 87 l
  | .pop2 => pm_b0 88 l
  | .dup => pm_b0 89 l
  | .dup2 => pm_b0 92 l
  | .iadd => pm_b0 96 l
  | .ladd => pm_b0 97 l
  | .isub => pm_b0 100 l
  | .lsub => pm_b0 101 l
  | .imul => pm_b0 104 l
  | .lmul => pm_b0 105 l
  | .idiv => pm_b0 108 l
  | .irem => pm_b0 112 l
  | .ishl => pm_b0 120 l
  | .lshl => pm_b0 121 l
  | .ishr => pm_b0 122 l
  | .lshr => pm_b0 123 l
  | .iushr => pm_b0 124 l
  | .lushr => pm_b0 125 l
  | .iand => pm_b0 126 l
  | .land => pm_b0 127 l
  | .ior => pm_b0 128 l
  | .lor => pm_b0 129 l
  | .ixor => pm_b0 130 l
  | .lxor => pm_b0 131 l
  | .i2l => pm_b0 133 l
  | .l2i => pm_b0 136 l
  | .i2c => pm_b0 146 l
  | .lcmp => pm_b0 148 l
  | .ireturn => pm_b0 172 l
  | .lreturn => pm_b0 173 l
  | .return_ => pm_b0 177 l
  | .arraylength => pm_b0 190 l
  | .athrow => pm_b0 191 l
  | .iload_n v => match v.val with | 0 => pm_b0 26 l | 1 => pm_b0 27 l | 2 => pm_b0 28 l | _ => pm_b0 29 l
  | .lload_n v => match v.val with | 0 => pm_b0 30 l | 1 => pm_b0 31 l | 2 => pm_b0 32 l | _ => pm_b0 33 l
  | .aload_n v => match v.val with | 0 => pm_b0 42 l | 1 => pm_b0 43 l | 2 => pm_b0 44 l | _ => pm_b0 45 l
  | .istore_n v => match v.val with | 0 => pm_b0 59 l | 1 => pm_b0 60 l | 2 => pm_b0 61 l | _ => pm_b0 62 l
  | .lstore_n v => match v.val with | 0 => pm_b0 63 l | 1 => pm_b0 64 l | 2 => pm_b0 65 l | _ => pm_b0 66 l
  | .astore_n v => match v.val with | 0 => pm_b0 75 l | 1 => pm_b0 76 l | 2 => pm_b0 77 l | _ => pm_b0 78 l
  | .lconst v => match v.val with | 0 => pm_b0 9 l | _ => pm_b0 10 l
  | .iconst x => match x with | .negSucc 0 => pm_b0 2 l | .ofNat 0 => pm_b0 3 l | .ofNat 1 => pm_b0 4 l | .ofNat 2 => pm_b0 5 l | .ofNat 3 => pm_b0 6 l | .ofNat 4 => pm_b0 7 l | .ofNat 5 => pm_b0 8 l | _ => false
  | .ldc x => pm_b1 18 l x
  | .iload x => pm_b1 21 l x
  | .lload x => pm_b1 22 l x
  | .aload x => pm_b1 25 l x
  | .istore x => pm_b1 54 l x
  | .lstore x => pm_b1 55 l x
  | .astore x => pm_b1 58 l x
  | .ldc2_w x => pm_b2 20 l x
  | .getstatic x => pm_b2 178 l x
  | .getfield x => pm_b2 180 l x
  | .putfield x => pm_b2 181 l x
  | .invokevirtual x => pm_b2 182 l x
  | .invokespecial x => pm_b2 183 l x
  | .invokestatic x => pm_b2 184 l x
  | .new x => pm_b2 187 l x
  | .bipush x => pm_b1s 16 l x
  | .sipush x => pm_b2s 17 l x
  | .goto x => pm_b2s 167 l x
  | .ifCond k x => match k with | .eq => pm_b2s 153 l x | .ne => pm_b2s 154 l x | .lt => pm_b2s 155 l x | .ge => pm_b2s 156 l x | .gt => pm_b2s 157 l x | .le => pm_b2s 158 l x
  | .if_icmp k x => match k with | .eq => pm_b2s 159 l x | .ne => pm_b2s 160 l x | .lt => pm_b2s 161 l x | .ge => pm_b2s 162 l x | .gt => pm_b2s 163 l x | .le => pm_b2s 164 l x
  | .iinc x y => pm_b11 132 l x y
  | .newarray t => match t with | .boolean => pm_b1 188 l 4 | .char => pm_b1 188 l 5 | .float => pm_b1 188 l 6 | .double => pm_b1 188 l 7 | .byte => pm_b1 188 l 8 | .short => pm_b1 188 l 9 | .int => pm_b1 188 l 10 | .long => pm_b1 188 l 11
  | _ => false
theorem pm_ick_ok {c : ByteArray} {p : Nat} {l : List UInt8} (hl : c.data.toList.drop p = l) {i : Instr} (n : Nat) (h : pm_ick i l = true) : decode c p = .ok (i, pm_len i n) := by
  cases i with
  | iaload => exact pm_z0 (k := 46) hl h (fun _ => rfl)
  | laload => exact pm_z0 (k := 47) hl h (fun _ => rfl)
  | aaload => exact pm_z0 (k := 50) hl h (fun _ => rfl)
  | baload => exact pm_z0 (k := 51) hl h (fun _ => rfl)
  | iastore => exact pm_z0 (k := 79) hl h (fun _ => rfl)
  | lastore => exact pm_z0 (k := 80) hl h (fun _ => rfl)
  | bastore => exact pm_z0 (k := 84) hl h (fun _ => rfl)
  | pop => exact pm_z0 (k := 87) hl h (fun _ => rfl)
  | pop2 => exact pm_z0 (k := 88) hl h (fun _ => rfl)
  | dup => exact pm_z0 (k := 89) hl h (fun _ => rfl)
  | dup2 => exact pm_z0 (k := 92) hl h (fun _ => rfl)
  | iadd => exact pm_z0 (k := 96) hl h (fun _ => rfl)
  | ladd => exact pm_z0 (k := 97) hl h (fun _ => rfl)
  | isub => exact pm_z0 (k := 100) hl h (fun _ => rfl)
  | lsub => exact pm_z0 (k := 101) hl h (fun _ => rfl)
  | imul => exact pm_z0 (k := 104) hl h (fun _ => rfl)
  | lmul => exact pm_z0 (k := 105) hl h (fun _ => rfl)
  | idiv => exact pm_z0 (k := 108) hl h (fun _ => rfl)
  | irem => exact pm_z0 (k := 112) hl h (fun _ => rfl)
  | ishl => exact pm_z0 (k := 120) hl h (fun _ => rfl)
  | lshl => exact pm_z0 (k := 121) hl h (fun _ => rfl)
  | ishr => exact pm_z0 (k := 122) hl h (fun _ => rfl)
  | lshr => exact pm_z0 (k := 123) hl h (fun _ => rfl)
  | iushr => exact pm_z0 (k := 124) hl h (fun _ => rfl)
  | lushr => exact pm_z0 (k := 125) hl h (fun _ => rfl)
  | iand => exact pm_z0 (k := 126) hl h (fun _ => rfl)
  | land => exact pm_z0 (k := 127) hl h (fun _ => rfl)
  | ior => exact pm_z0 (k := 128) hl h (fun _ => rfl)
  | lor => exact pm_z0 (k := 129) hl h (fun _ => rfl)
  | ixor => exact pm_z0 (k := 130) hl h (fun _ => rfl)
  | lxor => exact pm_z0 (k := 131) hl h (fun _ => rfl)
  | i2l => exact pm_z0 (k := 133) hl h (fun _ => rfl)
  | l2i => exact pm_z0 (k := 136) hl h (fun _ => rfl)
  | i2c => exact pm_z0 (k := 146) hl h (fun _ => rfl)
  | lcmp => exact pm_z0 (k := 148) hl h (fun _ => rfl)
  | ireturn => exact pm_z0 (k := 172) hl h (fun _ => rfl)
  | lreturn => exact pm_z0 (k := 173) hl h (fun _ => rfl)
  | return_ => exact pm_z0 (k := 177) hl h (fun _ => rfl)
  | arraylength => exact pm_z0 (k := 190) hl h (fun _ => rfl)
  | athrow => exact pm_z0 (k := 191) hl h (fun _ => rfl)
  | iload_n v =>
    obtain ⟨v, hv⟩ := v
    match v, hv, h with
    | 0, _, h => exact pm_z0 (k := 26) hl h (fun _ => rfl)
    | 1, _, h => exact pm_z0 (k := 27) hl h (fun _ => rfl)
    | 2, _, h => exact pm_z0 (k := 28) hl h (fun _ => rfl)
    | 3, _, h => exact pm_z0 (k := 29) hl h (fun _ => rfl)
    | v + 4, hv, _ => omega
  | lload_n v =>
    obtain ⟨v, hv⟩ := v
    match v, hv, h with
    | 0, _, h => exact pm_z0 (k := 30) hl h (fun _ => rfl)
    | 1, _, h => exact pm_z0 (k := 31) hl h (fun _ => rfl)
    | 2, _, h => exact pm_z0 (k := 32) hl h (fun _ => rfl)
    | 3, _, h => exact pm_z0 (k := 33) hl h (fun _ => rfl)
    | v + 4, hv, _ => omega
  | aload_n v =>
    obtain ⟨v, hv⟩ := v
    match v, hv, h with
    | 0, _, h => exact pm_z0 (k := 42) hl h (fun _ => rfl)
    | 1, _, h => exact pm_z0 (k := 43) hl h (fun _ => rfl)
    | 2, _, h => exact pm_z0 (k := 44) hl h (fun _ => rfl)
    | 3, _, h => exact pm_z0 (k := 45) hl h (fun _ => rfl)
    | v + 4, hv, _ => omega
  | istore_n v =>
    obtain ⟨v, hv⟩ := v
    match v, hv, h with
    | 0, _, h => exact pm_z0 (k := 59) hl h (fun _ => rfl)
    | 1, _, h => exact pm_z0 (k := 60) hl h (fun _ => rfl)
    | 2, _, h => exact pm_z0 (k := 61) hl h (fun _ => rfl)
    | 3, _, h => exact pm_z0 (k := 62) hl h (fun _ => rfl)
    | v + 4, hv, _ => omega
  | lstore_n v =>
    obtain ⟨v, hv⟩ := v
    match v, hv, h with
    | 0, _, h => exact pm_z0 (k := 63) hl h (fun _ => rfl)
    | 1, _, h => exact pm_z0 (k := 64) hl h (fun _ => rfl)
    | 2, _, h => exact pm_z0 (k := 65) hl h (fun _ => rfl)
    | 3, _, h => exact pm_z0 (k := 66) hl h (fun _ => rfl)
    | v + 4, hv, _ => omega
  | astore_n v =>
    obtain ⟨v, hv⟩ := v
    match v, hv, h with
    | 0, _, h => exact pm_z0 (k := 75) hl h (fun _ => rfl)
    | 1, _, h => exact pm_z0 (k := 76) hl h (fun _ => rfl)
    | 2, _, h => exact pm_z0 (k := 77) hl h (fun _ => rfl)
    | 3, _, h => exact pm_z0 (k := 78) hl h (fun _ => rfl)
    | v + 4, hv, _ => omega
  | lconst v =>
    obtain ⟨v, hv⟩ := v
    match v, hv, h with
    | 0, _, h => exact pm_z0 (k := 9) hl h (fun _ => rfl)
    | 1, _, h => exact pm_z0 (k := 10) hl h (fun _ => rfl)
    | v + 2, hv, _ => omega
  | iconst x =>
    match x, h with
    | .negSucc 0, h => exact pm_z0 (k := 2) hl h (fun _ => rfl)
    | .ofNat 0, h => exact pm_z0 (k := 3) hl h (fun _ => rfl)
    | .ofNat 1, h => exact pm_z0 (k := 4) hl h (fun _ => rfl)
    | .ofNat 2, h => exact pm_z0 (k := 5) hl h (fun _ => rfl)
    | .ofNat 3, h => exact pm_z0 (k := 6) hl h (fun _ => rfl)
    | .ofNat 4, h => exact pm_z0 (k := 7) hl h (fun _ => rfl)
    | .ofNat 5, h => exact pm_z0 (k := 8) hl h (fun _ => rfl)
    | .ofNat (v + 6), h => exact Bool.noConfusion (show false = true from h)
    | .negSucc (v + 1), h => exact Bool.noConfusion (show false = true from h)
  | ldc x => exact pm_z1 (k := 18) (g := Instr.ldc) hl h (fun _ => rfl)
  | iload x => exact pm_z1 (k := 21) (g := Instr.iload) hl h (fun _ => rfl)
  | lload x => exact pm_z1 (k := 22) (g := Instr.lload) hl h (fun _ => rfl)
  | aload x => exact pm_z1 (k := 25) (g := Instr.aload) hl h (fun _ => rfl)
  | istore x => exact pm_z1 (k := 54) (g := Instr.istore) hl h (fun _ => rfl)
  | lstore x => exact pm_z1 (k := 55) (g := Instr.lstore) hl h (fun _ => rfl)
  | astore x => exact pm_z1 (k := 58) (g := Instr.astore) hl h (fun _ => rfl)
  | ldc2_w x => exact pm_z2 (k := 20) (g := Instr.ldc2_w) hl h (fun _ => rfl)
  | getstatic x => exact pm_z2 (k := 178) (g := Instr.getstatic) hl h (fun _ => rfl)
  | getfield x => exact pm_z2 (k := 180) (g := Instr.getfield) hl h (fun _ => rfl)
  | putfield x => exact pm_z2 (k := 181) (g := Instr.putfield) hl h (fun _ => rfl)
  | invokevirtual x => exact pm_z2 (k := 182) (g := Instr.invokevirtual) hl h (fun _ => rfl)
  | invokespecial x => exact pm_z2 (k := 183) (g := Instr.invokespecial) hl h (fun _ => rfl)
  | invokestatic x => exact pm_z2 (k := 184) (g := Instr.invokestatic) hl h (fun _ => rfl)
  | new x => exact pm_z2 (k := 187) (g := Instr.new) hl h (fun _ => rfl)
  | bipush x => exact pm_z1s (k := 16) (g := Instr.bipush) hl h (fun _ => rfl)
  | sipush x => exact pm_z2s (k := 17) (g := Instr.sipush) hl h (fun _ => rfl)
  | goto x => exact pm_z2s (k := 167) (g := Instr.goto) hl h (fun _ => rfl)
  | ifCond k x =>
    match k, h with
    | .eq, h => exact pm_z2s (k := 153) (g := Instr.ifCond .eq) hl h (fun _ => rfl)
    | .ne, h => exact pm_z2s (k := 154) (g := Instr.ifCond .ne) hl h (fun _ => rfl)
    | .lt, h => exact pm_z2s (k := 155) (g := Instr.ifCond .lt) hl h (fun _ => rfl)
    | .ge, h => exact pm_z2s (k := 156) (g := Instr.ifCond .ge) hl h (fun _ => rfl)
    | .gt, h => exact pm_z2s (k := 157) (g := Instr.ifCond .gt) hl h (fun _ => rfl)
    | .le, h => exact pm_z2s (k := 158) (g := Instr.ifCond .le) hl h (fun _ => rfl)
  | if_icmp k x =>
    match k, h with
    | .eq, h => exact pm_z2s (k := 159) (g := Instr.if_icmp .eq) hl h (fun _ => rfl)
    | .ne, h => exact pm_z2s (k := 160) (g := Instr.if_icmp .ne) hl h (fun _ => rfl)
    | .lt, h => exact pm_z2s (k := 161) (g := Instr.if_icmp .lt) hl h (fun _ => rfl)
    | .ge, h => exact pm_z2s (k := 162) (g := Instr.if_icmp .ge) hl h (fun _ => rfl)
    | .gt, h => exact pm_z2s (k := 163) (g := Instr.if_icmp .gt) hl h (fun _ => rfl)
    | .le, h => exact pm_z2s (k := 164) (g := Instr.if_icmp .le) hl h (fun _ => rfl)
  | iinc x y => exact pm_z11 (k := 132) (g := Instr.iinc) hl h (fun _ => rfl)
  | newarray t =>
    match t, h with
    | .boolean, h => exact pm_zn (k := 4) hl h (fun _ => rfl)
    | .char, h => exact pm_zn (k := 5) hl h (fun _ => rfl)
    | .float, h => exact pm_zn (k := 6) hl h (fun _ => rfl)
    | .double, h => exact pm_zn (k := 7) hl h (fun _ => rfl)
    | .byte, h => exact pm_zn (k := 8) hl h (fun _ => rfl)
    | .short, h => exact pm_zn (k := 9) hl h (fun _ => rfl)
    | .int, h => exact pm_zn (k := 10) hl h (fun _ => rfl)
    | .long, h => exact pm_zn (k := 11) hl h (fun _ => rfl)
  | _ => exact Bool.noConfusion (show false = true from h)
/-- the walk -/
def pm_go (c : ByteArray) : List (Nat × Instr × Nat) → Nat → List UInt8 → Bool
  | [], _, _ => true
  | (p, i, n) :: r, a, l => Nat.beq a p && ((pm_ick i l || decide (decode c p = .ok (i, pm_len i n))) && pm_go c r (a + pm_len i n) (l.drop (pm_len i n)))
theorem pm_go_ok (c : ByteArray) : ∀ (es : List (Nat × Instr × Nat)) (a : Nat) (l : List UInt8), c.data.toList.drop a = l → pm_go c es a l = true → ∀ e ∈ es, decode c e.1 = .ok (e.2.1, pm_len e.2.1 e.2.2)
  | [], _, _, _, _ => fun _ h => by cases h
  | (p, i, n) :: r, a, l, hl, h => by
    have h' : Nat.beq a p = true ∧ (pm_ick i l = true ∨ decide (decode c p = .ok (i, pm_len i n)) = true) ∧ pm_go c r (a + pm_len i n) (l.drop (pm_len i n)) = true := by
      simpa only [pm_go, Bool.and_eq_true, Bool.or_eq_true] using h
    obtain ⟨h0, h1, h2⟩ := h'
    have e0 : a = p := Nat.eq_of_beq_eq_true h0
    intro e he
    rcases List.mem_cons.mp he with e1 | he
    · rw [e1]
      rcases h1 with h1 | h1
      · exact pm_ick_ok (e0 ▸ hl) n h1
      · exact of_decide_eq_true h1
    · exact pm_go_ok c r _ _ (by rw [← hl, List.drop_drop]) h2 e he
theorem pm_walk {c : ByteArray} {es : List (Nat × Instr × Nat)} (a : Nat) (h : pm_go c es a (c.data.toList.drop a) = true) : ∀ e ∈ es, decode c e.1 = .ok (e.2.1, pm_len e.2.1 e.2.2) := pm_go_ok c es a _ rfl h
