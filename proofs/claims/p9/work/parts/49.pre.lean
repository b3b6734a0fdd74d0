/-! the constructors' run over boxes -/
def am_veq (a b : aV) : Bool := Nat.beq a.1 b.1 && (am_ieq a.2.1 b.2.1 && (am_ieq a.2.2.1 b.2.2.1 && Nat.beq b.2.2.2.1 0))
def am_rng (f : Nat → Bool) : Nat → Bool
  | 0 => true
  | n + 1 => f n && am_rng f n
def am_reb (h A : aH) : Bool := Nat.beq h.1 A.1 && A.2.all (fun e => match pm_look h.2 e.1 with
  | some c => Nat.beq c.1 e.2.1 && (Nat.beq c.2.1 e.2.2.1 && am_rng (fun i => am_veq (am_rd c.2.2.1 c.2.2.2 i) (am_rd e.2.2.2.1 e.2.2.2.2 i)) e.2.2.1)
  | none => false)
def am_leq : aL → aL → Bool
  | [], [] => true
  | a :: r, b :: t => Nat.beq a.1 b.1 && (am_veq a.2 b.2 && am_leq r t)
  | _, _ => false
def am_pre (n : Nat) : Option aR := am_exec [] n none 18 am_L (pm_oc am_L) (pm_maxL am_L) (pm_kl am_L) [(0, am_ref 2000)] [] (0, []) 0 0
def am_prec (n n' : Nat) : Bool := match am_pre n with
  | some (b, ls, st, h, c, k, f) => !b && (am_leq ls am_Ll && (st.isEmpty && (am_reb h am_A0 && (Nat.beq c am_Lc && (Nat.beq k am_Lk && Nat.beq f n')))))
  | none => false
theorem am_preT : am_prec 20021 20011 = true := by decide +kernel
