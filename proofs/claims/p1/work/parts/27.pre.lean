/-! p1: the constructors' run, then one call, over boxes of its arguments -/
def am_veq (a b : aV) : Bool := Nat.beq a.1 b.1 && (am_ieq a.2.1 b.2.1 && (am_ieq a.2.2.1 b.2.2.1 && Nat.beq b.2.2.2.1 0))
def am_rng (f : Nat → Bool) : Nat → Bool
  | 0 => true
  | n + 1 => f n && am_rng f n
def am_reb (h A : aH) : Bool := Nat.beq h.1 A.1 && A.2.all (fun e => match pm_look h.2 e.1 with
  | some c => Nat.beq c.1 e.2.1 && (Nat.beq c.2.1 e.2.2.1 && am_rng (fun i => am_veq (am_rd c.2.2.1 c.2.2.2 i) (am_rd e.2.2.2.1 e.2.2.2.2 i)) e.2.2.1)
  | none => false)
def am_leq : aL → aL → Bool
  | [], [] => true
  | a :: r, b :: t => Nat.beq a.1 b.1 && (am_veq a.2 b.2 && am_leq r t)
  | _, _ => false
/-- the constructors -/
def am_pre (n : Nat) : Option aR := am_exec [] n none 18 am_L (pm_oc am_L) (pm_maxL am_L) (pm_kl am_L) [(0, am_ref 2000)] [] (0, []) 0 0
def am_prec (n n' : Nat) : Bool := match am_pre n with
  | some (b, ls, st, h, c, k, f) => !b && (am_leq ls am_Ll && (st.isEmpty && (am_reb h am_A0 && (Nat.beq c am_Lc && (Nat.beq k am_Lk && Nat.beq f n')))))
  | none => false
/-- one call: from the switch on -/
def am_run (n : Nat) (F : aF) (bx : List aV) (v : Nat) : Bool := match am_exec F n (some (7, bx)) 99999 am_L (pm_oc am_L) (pm_maxL am_L) (am_drop (pm_kl am_L) 33) am_Ll [am_c (v : Nat)] am_A0 am_Lc am_Lk with
  | some (true, _, [a], _) => Nat.beq a.1 0 && (am_ieq a.2.1 1 && am_ieq a.2.2.1 1)
  | _ => false
abbrev aSp : Type := Nat × List Int
def am_ivs (lo hi : Int) : List Int → List (Int × Int)
  | [] => [(lo, hi)]
  | c :: r => (lo, c - 1) :: am_ivs c hi r
def am_fct (cs : List Int) : Option (Nat × Nat) := match cs with
  | [i, j] => some (i.toNat, j.toNat)
  | _ => none
def am_n : Nat := 20000
def am_try (v : Nat) : List aSp → aF → List aV → Bool
  | [], F, bx => am_run am_n F bx v
  | (j, cs) :: r, F, bx => am_run am_n F bx v || cond (Nat.blt j 7) ((am_ivs (-2147483648) 2147483647 cs).all (fun iv => am_try v r F (bx.set j (0, iv.1, iv.2, j + 1, 0))))
      (match am_fct cs with
      | some (a, b) => am_try v r ((j - 10, a + 1, b + 1, true) :: F) bx && am_try v r ((j - 10, a + 1, b + 1, false) :: F) bx
      | none => false)
def am_b0 : List aV := [(0, -2147483648, 2147483647, 1, 0), (0, -2147483648, 2147483647, 2, 0), (0, -2147483648, 2147483647, 3, 0), (0, -2147483648, 2147483647, 4, 0), (0, -2147483648, 2147483647, 5, 0), (0, -2147483648, 2147483647, 6, 0), (0, -2147483648, 2147483647, 7, 0)]
