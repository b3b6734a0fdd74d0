/-! the class's reading, token by token -/
def rk (T : Nat → Int) (n k p : Int) : Int := if k = 1 then rn T n 97 122 p else rn T n 48 57 p
theorem te_rk {T : Nat → Int} {n p k : Int} (hk : k = kd T n p) (h : k = 1 ∨ k = 2) : te T n p = rk T n k (p + 1) := by
  unfold rk
  rcases kd_cs (T := T) (n := n) (p := p) with ⟨k0, _⟩ | ⟨k0, k1, k2⟩ | ⟨k0, k1, k2⟩ | ⟨k0, _⟩
  · omega
  · rw [te_1 k0, if_pos (by omega), rn_y k1 k2]
  · rw [te_2 k0, if_neg (by omega), rn_y k1 k2]
  · omega
theorem rk_y {T : Nat → Int} {n k p : Int} (h1 : p < n) (h : (k = 1 ∧ 97 ≤ T p.toNat ∧ T p.toNat ≤ 122) ∨ (k = 2 ∧ 48 ≤ T p.toNat ∧ T p.toNat ≤ 57)) : rk T n k p = rk T n k (p + 1) := by
  unfold rk
  rcases h with ⟨h, h2⟩ | ⟨h, h2⟩
  · rw [if_pos h, if_pos h, rn_y h1 h2]
  · rw [if_neg (by omega), if_neg (by omega), rn_y h1 h2]
theorem rk_n {T : Nat → Int} {n k p : Int} (hk : k = 1 ∨ k = 2) (h : ¬ (p < n ∧ ((k = 1 ∧ 97 ≤ T p.toNat ∧ T p.toNat ≤ 122) ∨ (k = 2 ∧ 48 ≤ T p.toNat ∧ T p.toNat ≤ 57)))) : rk T n k p = p := by
  unfold rk
  rcases hk with hk | hk
  · rw [if_pos hk, rn_n (fun w => h ⟨w.1, Or.inl ⟨hk, w.2⟩⟩)]
  · rw [if_neg (by omega), rn_n (fun w => h ⟨w.1, Or.inr ⟨hk, w.2⟩⟩)]
/-- the class stands at the token at p -/
def TK (s : xS) (T : Nat → Int) (n p : Int) : Prop := (0 ≤ p ∧ p ≤ n) ∧ sk T n p = p ∧ s 177 3 = p ∧ s 177 2 = kd T n p ∧ s 177 4 = te T n p
def TKs (s : xS) : Prop := TK s (s 178) (s 177 1) (s 177 3)
def LTK : List Nat := [1219, 1220, 1221, 1218, 1280]
theorem TKs.fl {L : List Nat} {s s' : xS} (h : TKs s) (f : FL L s s') (hL : ∀ x ∈ LTK, x ∉ L) : TKs s' := by
  have a1 : s' 177 1 = s 177 1 := f 177 1 (hL 1218 (by decide))
  have a2 : s' 177 2 = s 177 2 := f 177 2 (hL 1219 (by decide))
  have a3 : s' 177 3 = s 177 3 := f 177 3 (hL 1220 (by decide))
  have a4 : s' 177 4 = s 177 4 := f 177 4 (hL 1221 (by decide))
  have b1 : s' 178 = s 178 := funext fun i => f 178 i (hL 1280 (by decide))
  unfold TKs TK; rw [a1, a2, a3, a4, b1]; exact h
theorem TKs.up {s : xS} {q i : Nat} {v : Int} (h : TKs s) (hL : x_pl q i ∉ LTK) : TKs (x_up s q i v) := h.fl FL.one (fun x hx hm => hL (by rw [← List.mem_singleton.mp hm]; exact hx))
theorem TK.s {s : xS} {T : Nat → Int} {n p : Int} (h : TK s T n p) (h8 : s 178 = T) (h1 : s 177 1 = n) : TKs s := by unfold TKs; rw [h8, h1, h.2.2.1]; exact h
/-- the fault of a number at p: 0 none -/
def numf (T : Nat → Int) (n p lo hi g flt : Int) : Int := if kd T n p ≠ 2 then 1 else if g < te T n p - p then 2 else if lo ≤ nv T p (te T n p - p).toNat ∧ nv T p (te T n p - p).toNat ≤ hi then 0 else flt
theorem numf_1 {T : Nat → Int} {n p lo hi g flt : Int} (h : kd T n p ≠ 2) : numf T n p lo hi g flt = 1 := if_pos h
theorem numf_2 {T : Nat → Int} {n p lo hi g flt : Int} (h : kd T n p = 2) (h2 : g < te T n p - p) : numf T n p lo hi g flt = 2 := by unfold numf; rw [if_neg (by omega), if_pos h2]
theorem numf_0 {T : Nat → Int} {n p lo hi g flt : Int} (h : kd T n p = 2) (h2 : ¬ g < te T n p - p) (h3 : lo ≤ nv T p (te T n p - p).toNat ∧ nv T p (te T n p - p).toNat ≤ hi) : numf T n p lo hi g flt = 0 := by unfold numf; rw [if_neg (by omega), if_neg h2, if_pos h3]
theorem numf_3 {T : Nat → Int} {n p lo hi g flt : Int} (h : kd T n p = 2) (h2 : ¬ g < te T n p - p) (h3 : ¬ (lo ≤ nv T p (te T n p - p).toNat ∧ nv T p (te T n p - p).toNat ≤ hi)) : numf T n p lo hi g flt = flt := by unfold numf; rw [if_neg (by omega), if_neg h2, if_neg h3]
theorem nv_s {T : Nat → Int} {p x : Int} (h : p ≤ x) : nv T p (x + 1 - p).toNat = 10 * nv T p (x - p).toNat + T x.toNat - 48 := by
  rw [show (x + 1 - p).toNat = (x - p).toNat + 1 by omega, nv, show p + ((x - p).toNat : Int) = x by omega]
theorem nv_d {T : Nat → Int} {n p x : Int} (hk : kd T n p = 2) (hx : p ≤ x) (hx2 : x ≤ te T n p) : 0 ≤ nv T p (x - p).toNat ∧ (x - p ≤ 1 → nv T p (x - p).toNat ≤ 9) ∧ (x - p ≤ 2 → nv T p (x - p).toNat ≤ 99) ∧ (x - p ≤ 3 → nv T p (x - p).toNat ≤ 999) ∧ (x - p ≤ 5 → nv T p (x - p).toNat ≤ 99999) := by
  have hb := nv_b (T := T) (p := p) (x - p).toNat (fun i hi => rn_in (lo := 48) (hi := 57) (n := n) (p := p) (p + i) (by omega) (by rw [← te_2 hk]; omega))
  have key : ∀ m : Nat, (x - p).toNat ≤ m → m ≤ 5 → nv T p (x - p).toNat < 10 ^ m := fun m hm _ => Int.lt_of_lt_of_le hb.2 (by
    have : (10 : Nat) ^ (x - p).toNat ≤ 10 ^ m := Nat.pow_le_pow_right (by decide) hm
    exact_mod_cast this)
  refine ⟨hb.1, fun h => ?_, fun h => ?_, fun h => ?_, fun h => ?_⟩
  · have := key 1 (by omega) (by decide); omega
  · have := key 2 (by omega) (by decide); omega
  · have := key 3 (by omega) (by decide); omega
  · have := key 5 (by omega) (by decide); omega
def nx (T : Nat → Int) (n p : Int) : Int := sk T n (te T n p)
def nva (T : Nat → Int) (n p : Int) : Int := nv T p (te T n p - p).toNat
/-- what taking a number does: nf its fault, v its value, m the place behind it, p its own; f, g the text's fault and its place -/
def NmR (nf v m p f f' g g' q' z : Int) : Prop := (f ≠ 0 ∧ z = -1 ∧ f' = f ∧ g' = g ∧ q' = p) ∨ (f = 0 ∧ nf = 0 ∧ z = v ∧ f' = f ∧ g' = g ∧ q' = m) ∨ (f = 0 ∧ nf ≠ 0 ∧ z = -1 ∧ f' = nf ∧ g' = p ∧ q' = p)
def NmC (s s' : xS) (a b d z : Int) : Prop := NmR (numf (s 178) (s 177 1) (s 177 3) a b d 2) (nva (s 178) (s 177 1) (s 177 3)) (nx (s 178) (s 177 1) (s 177 3)) (s 177 3) (s 177 5) (s' 177 5) (s 177 6) (s' 177 6) (s' 177 3) z
/-- what the class's takeWord and takeSign do: v is what must stand there, h whether it does -/
def TwC (s s' : xS) (h : Prop) : Prop :=
  (s 177 5 ≠ 0 ∧ s' 177 5 = s 177 5 ∧ s' 177 6 = s 177 6 ∧ s' 177 3 = s 177 3) ∨
  (s 177 5 = 0 ∧ h ∧ s' 177 5 = s 177 5 ∧ s' 177 6 = s 177 6 ∧ s' 177 3 = nx (s 178) (s 177 1) (s 177 3)) ∨
  (s 177 5 = 0 ∧ ¬ h ∧ s' 177 5 = 1 ∧ s' 177 6 = s 177 3 ∧ s' 177 3 = s 177 3)
section WVL
variable {T : Nat → Int} {n p : Int} {l : List Int} {V : Int}
theorem wv_yes (hV : cv l = V ∧ (∀ c ∈ l, 97 ≤ c ∧ c ≤ 122) ∧ V ≤ 10000000000) (hk : kd T n p = 1) (h : te T n p - p = l.length) (h2 : ∀ i : Nat, i < l.length → T (p + i).toNat = l.getD (l.length - 1 - i) 0) : wv T n p = V := by
  rw [te_1 hk] at h
  rw [← hV.1]
  exact (wv_is l hV.2.1 (by rw [hV.1]; exact hV.2.2)).mpr ⟨h, h2⟩
theorem wv_nl (hV : cv l = V ∧ (∀ c ∈ l, 97 ≤ c ∧ c ≤ 122) ∧ V ≤ 10000000000) (hk : kd T n p = 1) (h : te T n p - p ≠ l.length) : wv T n p ≠ V := by
  intro e
  rw [te_1 hk] at h
  rw [← hV.1] at e
  exact h ((wv_is l hV.2.1 (by rw [hV.1]; exact hV.2.2)).mp e).1
theorem wv_nc (hV : cv l = V ∧ (∀ c ∈ l, 97 ≤ c ∧ c ≤ 122) ∧ V ≤ 10000000000) (i : Nat) (hi : i < l.length) (h : T (p + i).toNat ≠ l.getD (l.length - 1 - i) 0) : wv T n p ≠ V := by
  intro e
  rw [← hV.1] at e
  exact h (((wv_is l hV.2.1 (by rw [hV.1]; exact hV.2.2)).mp e).2 i hi)
end WVL
theorem wp_sy {T : Nat → Int} {p x : Int} (h : p ≤ x) (hw : 10000000000 < wp T p (x - p).toNat) : wp T p (x + 1 - p).toNat = 20000000000 := by
  rw [show (x + 1 - p).toNat = (x - p).toNat + 1 by omega, wp, if_pos hw]
theorem wp_sn {T : Nat → Int} {p x : Int} (h : p ≤ x) (hw : ¬ 10000000000 < wp T p (x - p).toNat) : wp T p (x + 1 - p).toNat = 27 * wp T p (x - p).toNat + T x.toNat - 96 := by
  rw [show (x + 1 - p).toNat = (x - p).toNat + 1 by omega, wp, if_neg hw, show p + ((x - p).toNat : Int) = x by omega]
theorem wp_w {T : Nat → Int} {n p x : Int} (h : p ≤ x) (hx : x ≤ rn T n 97 122 p) : 0 ≤ wp T p (x - p).toNat ∧ wp T p (x - p).toNat ≤ 270000000026 ∧ (p < x → 0 < wp T p (x - p).toNat) := by
  have h1 := wp_b (T := T) (p := p) (x - p).toNat (fun i hi => rn_in (n := n) (p := p) (p + i) (by omega) (by omega))
  exact ⟨h1.1.1, h1.1.2, fun hp => h1.2 (by omega)⟩
