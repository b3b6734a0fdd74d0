/-! what the views come to, in words of the class's places -/
noncomputable def pIf (P : Prop) (a b : Int) : Int := @ite _ P (Classical.propDecidable _) a b
theorem pIf_y {P : Prop} {a b : Int} (h : P) : pIf P a b = a := if_pos h
theorem pIf_n {P : Prop} {a b : Int} (h : ¬ P) : pIf P a b = b := if_neg h
theorem pIf_c {P Q : Prop} {a b c d : Int} (h : P ↔ Q) (h1 : a = c) (h2 : b = d) : pIf P a b = pIf Q c d := by
  rw [h1, h2, show P = Q from propext h]
/-- a clause that counts -/
def CnP (s : xS) (e r n : Int) : Prop := (0 ≤ r ∧ r < s 179 5) ∧ CnC s e r ∧ 0 ≤ n ∧ n < clC s r
def AlC (s : xS) (e k m : Int) : Prop := AlP s (CnP s e) k m
def BaC (s : xS) (e k m : Int) : Prop := BaP s (CnP s e) k m
def NeC (s : xS) (e k m : Int) : Prop := NeP s (CnP s e) k m
noncomputable def seC (s : xS) (e k : Int) : Int := foF s e (e + 1).toNat k
noncomputable def moC (s : xS) (e : Int) : Int := foF s e (e + 1).toNat 6
theorem Fo.fos {s' s : xS} {F : Nat} {e : Int} (h : Fo s' s F e) : FoS s' F (foF s e (e + 1).toNat) (AlC s e) (BaC s e) (NeC s e) := h
/-- a key that is not allowed; two keys that are barred -/
def noC (s : xS) (e m keys : Int) : Prop := ∃ k : Nat, k < 6 ∧ bi keys k = true ∧ (∃ x : Nat, x < 64 ∧ AlC s e k x) ∧ ∀ x : Nat, x < 64 → AlC s e k x → ¬ onp s e 40 m x
def twC (s : xS) (e keys : Int) : Prop := ∃ k : Nat, k < 6 ∧ bi keys k = true ∧ ∃ x : Nat, x < 32 ∧ BaC s e k x ∧ bi keys x = true
/-- why a giving is wrong, by what is known of those ahead of it -/
noncomputable def whyC (s : xS) (w : Int → Int) (g : Int) : Int :=
  pIf (¬ thC s (s 55 g.toNat) (s 52 g.toNat)) 1 (pIf (noC s (s 55 g.toNat) (s 52 g.toNat) (s 54 g.toNat)) 2 (pIf (twC s (s 55 g.toNat) (s 54 g.toNat)) 3 (pIf (moC s (s 55 g.toNat) ≤ ctp (fun j => s 51 j = s 51 g.toNat ∧ w j = 0) g.toNat) 4 0)))
noncomputable def wrL (s : xS) : Nat → Int → Int
  | 0 => fun _ => 0
  | n + 1 => fun g => if g = n then whyC s (wrL s n) n else wrL s n g
noncomputable def wrC (s : xS) (g : Int) : Int := wrL s (g.toNat + 1) g
theorem wrL_eq (s : xS) : ∀ (n : Nat) (g : Int), 0 ≤ g → g < n → wrL s n g = wrC s g := by
  intro n
  induction n with
  | zero => intro g h0 h1; omega
  | succ n ih =>
    intro g h0 h1
    by_cases q : g = n
    · subst q; rfl
    · have e : wrL s (n + 1) g = if g = n then whyC s (wrL s n) n else wrL s n g := rfl
      rw [e, if_neg q]
      exact ih g h0 (by omega)
theorem whyC_w {s : xS} {w w' : Int → Int} {g : Int} (h : ∀ j : Nat, j < g.toNat → (w j = 0 ↔ w' j = 0)) : whyC s w g = whyC s w' g := by
  unfold whyC
  rw [ctp_cg (P := fun j : Nat => s 51 j = s 51 g.toNat ∧ w j = 0) (Q := fun j : Nat => s 51 j = s 51 g.toNat ∧ w' j = 0) g.toNat (fun j hj => and_congr Iff.rfl (h j hj))]
theorem wrC_eq {s : xS} {w : Int → Int} {g : Int} (h0 : 0 ≤ g) (h : ∀ j : Nat, j < g.toNat → (w j = 0 ↔ wrC s j = 0)) : whyC s w g = wrC s g := by
  have e : wrC s g = if g = ((g.toNat : Nat) : Int) then whyC s (wrL s g.toNat) ((g.toNat : Nat) : Int) else wrL s g.toNat g := rfl
  rw [e, if_pos (by omega), show ((g.toNat : Nat) : Int) = g by omega]
  exact whyC_w (fun j hj => by rw [h j hj, wrL_eq s g.toNat j (by omega) (by omega)])
/-- a key turns; how many raise -/
def tuC (s : xS) (g : Int) : Prop := ∃ k : Nat, k < 6 ∧ bi (s 54 g.toNat) k = true ∧ seC s (s 55 g.toNat) k = 1
noncomputable def raC (s : xS) (g : Int) : Int := ctp (fun k => bi (s 54 g.toNat) k = true ∧ seC s (s 55 g.toNat) k = 2) 6
/-- givings, judged -/
def VJ (s σ : xS) : Prop := ∀ g : Int, 0 ≤ g → g < σ 50 6 → s 252 g.toNat = wrC σ g ∧ (s 250 g.toNat = 1 ↔ tuC σ g) ∧ s 251 g.toNat = raC σ g
/-- hands that doubt a giving by e -/
def dcC (s : xS) (g e : Int) : Int := dcn (fun h => s (56 + 1 + g.toNat) h.toNat) e 8
/-- a giving means nothing -/
def nuC (s : xS) (e g : Int) : Prop := e < s 55 g.toNat ∨ wrC s g ≠ 0 ∨ tuC s g ∨ 1 < dcC s g e
/-- where one comes to by joins from a giving's mark -/
noncomputable def fiM (s : xS) (e g : Int) : Int := fjG (enC s e) (joC s) 40 (s 52 g.toNat)
noncomputable def meC (s : xS) (e g : Int) : Int := pIf (nuC s e g) (-1) (raG (parC s e) (raC s g).toNat (ftG (s 1 4) (thC s e) (parC s e) 40 (fiM s e g)))
def loC (s : xS) (e g : Int) : Prop := ¬ nuC s e g ∧ enC s e (fiM s e g)
/-- a picture shows a mark -/
def shC (s : xS) (e p k : Int) : Prop := ∃ g : Int, (0 ≤ g ∧ g < s 50 6) ∧ s 51 g.toNat = p ∧ 0 ≤ meC s e g ∧ onp s e 40 (meC s e g) k
def VL (s σ : xS) (e : Int) : Prop := (∀ g : Int, 0 ≤ g → g < σ 50 6 → s 253 g.toNat = meC σ e g ∧ (s 254 g.toNat = 1 ↔ loC σ e g)) ∧ ∀ p : Int, 0 ≤ p → p ≤ 39 → ∀ k : Nat, k < 64 → (bt (s 255 p.toNat) k = true ↔ shC σ e p k)
/-- two states in which the views are the same -/
def VE (s σ : xS) : Prop := (s 1 4 = σ 1 4 ∧ σ 1 4 ≤ 40 ∧ σ 179 5 ≤ 8 ∧ σ 50 6 ≤ 120) ∧ (s 2 = σ 2 ∧ s 3 = σ 3 ∧ s 4 = σ 4 ∧ ∀ r j : Nat, 6 ≤ r → r ≤ 45 → s r j = σ r j) ∧ RuE s σ ∧ (s 50 6 = σ 50 6 ∧ s 51 = σ 51 ∧ s 52 = σ 52 ∧ s 54 = σ 54 ∧ s 55 = σ 55 ∧ ∀ r j : Nat, 57 ≤ r → r ≤ 176 → s r j = σ r j)
def LVE : List Nat := [69, 128, 192, 256, 384, 1350, 1408, 1472, 1600, 1664, 1728, 1792, 1856, 711, 768, 832, 960, 1024, 1152]
theorem FL.ve {L : List Nat} {s s' : xS} (f : FL L s s') (hG : GI s) (hL : ∀ x ∈ LVE, x ∉ L) : VE s' s := by
  have g1 : (1 : Int) ≤ s 1 4 ∧ s 1 4 ≤ 40 := hG 1 4
  have g2 : (0 : Int) ≤ s 179 5 ∧ s 179 5 ≤ 8 := hG 179 5
  have g3 : (0 : Int) ≤ s 50 6 ∧ s 50 6 ≤ 120 := hG 50 6
  exact ⟨⟨f 1 4 (hL 69 (by decide)), g1.2, g2.2, g3.2⟩, ⟨funext fun i => f 2 i (hL 128 (by decide)), funext fun i => f 3 i (hL 192 (by decide)), funext fun i => f 4 i (hL 256 (by decide)), rows40 f (hL 384 (by decide))⟩, f.rue (fun x hx => hL x (by revert x; decide)),
    ⟨f 50 6 (hL 711 (by decide)), funext fun i => f 51 i (hL 768 (by decide)), funext fun i => f 52 i (hL 832 (by decide)), funext fun i => f 54 i (hL 960 (by decide)), funext fun i => f 55 i (hL 1024 (by decide)), rows120 f (hL 1152 (by decide))⟩⟩
section VEC
variable {s σ : xS}
theorem VE.th (h : VE s σ) (e m : Int) : thC s e m ↔ thC σ e m := by
  obtain ⟨⟨h1, -⟩, ⟨h2, h3, -⟩, -⟩ := h
  unfold thC; rw [h1, h2, h3]
theorem VE.en (h : VE s σ) (e m : Int) : enC s e m ↔ enC σ e m := by
  obtain ⟨⟨h1, -⟩, ⟨h2, h3, -⟩, -⟩ := h
  unfold enC; rw [h1, h3]
theorem VE.jo (h : VE s σ) : joC s = joC σ := by
  obtain ⟨⟨h1, -⟩, ⟨h2, h3, h4, -⟩, -⟩ := h
  unfold joC; rw [h1, h4]
theorem VE.pa (h : VE s σ) (e : Int) : parC s e = parC σ e := by
  obtain ⟨⟨h1, h40, -⟩, ⟨h2, h3, h4, h5⟩, -⟩ := h
  funext x
  unfold parC
  rw [h1]
  by_cases q : (0 ≤ x ∧ x < σ 1 4) ∧ 0 ≤ e ∧ e ≤ 9
  · rw [if_pos q, if_pos q, h5 _ _ (by omega) (by omega)]
  · rw [if_neg q, if_neg q]
theorem VE.on (h : VE s σ) (e : Int) (n : Nat) (x k : Int) : onp s e n x k ↔ onp σ e n x k := onp_cg h.1.1 h.1.2.1 h.2.1.2.2.2 n x
theorem VE.cn (h : VE s σ) (e : Int) : CnP s e = CnP σ e := by
  obtain ⟨e1, e2, e3, e4, e5⟩ := h.2.2.1.fn h.1.2.2.1
  funext r n
  unfold CnP CnC
  rw [e1, e2, e3, e4, h.2.2.1.1]
theorem VE.al (h : VE s σ) (e k m : Int) : AlC s e k m ↔ AlC σ e k m := by
  obtain ⟨e1, e2, e3, e4, e5⟩ := h.2.2.1.fn h.1.2.2.1
  unfold AlC AlP
  rw [h.cn e, e3, e4, e5]
theorem VE.ba (h : VE s σ) (e k m : Int) : BaC s e k m ↔ BaC σ e k m := by
  obtain ⟨e1, e2, e3, e4, e5⟩ := h.2.2.1.fn h.1.2.2.1
  unfold BaC BaP
  rw [h.cn e, e3, e4, e5]
theorem VE.ne (h : VE s σ) (e k m : Int) : NeC s e k m ↔ NeC σ e k m := by
  obtain ⟨e1, e2, e3, e4, e5⟩ := h.2.2.1.fn h.1.2.2.1
  unfold NeC NeP
  rw [h.cn e, e3, e4, e5]
theorem VE.fo (h : VE s σ) (e : Int) : foF s e = foF σ e := by
  obtain ⟨e1, e2, e3, e4, e5⟩ := h.2.2.1.fn h.1.2.2.1
  unfold foF
  rw [e1, e2, e3, e4, e5, h.2.2.1.1]
theorem VE.why (h : VE s σ) (w : Int → Int) (g : Int) : whyC s w g = whyC σ w g := by
  have hf := h.fo
  have hth := h.th; have hon := h.on; have hal := h.al; have hba := h.ba
  obtain ⟨-, -, -, ⟨-, h51, h52, h54, h55, -⟩⟩ := id h
  unfold whyC
  rw [h51, h52, h54, h55]
  refine pIf_c (not_congr (hth _ _)) rfl (pIf_c ?_ rfl (pIf_c ?_ rfl (pIf_c ?_ rfl rfl)))
  · unfold noC
    simp only [hal, hon]
  · unfold twC
    simp only [hba]
  · unfold moC; rw [hf]
theorem VE.wrl (h : VE s σ) : ∀ n : Nat, wrL s n = wrL σ n := by
  intro n
  induction n with
  | zero => rfl
  | succ n ih =>
    funext g
    have e : ∀ s : xS, wrL s (n + 1) g = if g = n then whyC s (wrL s n) n else wrL s n g := fun s => rfl
    rw [e, e, ih, h.why]
theorem VE.wr (h : VE s σ) : wrC s = wrC σ := funext fun g => by unfold wrC; rw [h.wrl]
theorem VE.tu (h : VE s σ) (g : Int) : tuC s g ↔ tuC σ g := by
  have hf := h.fo
  obtain ⟨-, -, -, ⟨-, h51, h52, h54, h55, -⟩⟩ := h
  unfold tuC seC
  rw [h54, h55, hf]
theorem VE.ra (h : VE s σ) : raC s = raC σ := funext fun g => by
  have hf := h.fo
  obtain ⟨-, -, -, ⟨-, h51, h52, h54, h55, -⟩⟩ := h
  unfold raC seC
  rw [h54, h55, hf]
theorem VE.dc (h : VE s σ) {g : Int} (hg : 0 ≤ g ∧ g < σ 50 6) (e : Int) : dcC s g e = dcC σ g e := by
  obtain ⟨⟨-, -, -, h120⟩, -, -, ⟨-, h51, h52, h54, h55, h57⟩⟩ := h
  unfold dcC
  exact dcn_cg 8 (fun j hj => h57 _ _ (by omega) (by omega))
theorem VE.nu (h : VE s σ) {g : Int} (hg : 0 ≤ g ∧ g < σ 50 6) (e : Int) : nuC s e g ↔ nuC σ e g := by
  unfold nuC
  rw [h.wr, h.tu, h.dc hg, h.2.2.2.2.2.2.2.1]
theorem VE.fj (h : VE s σ) (e g : Int) : fiM s e g = fiM σ e g := by
  unfold fiM
  rw [h.jo, show enC s e = enC σ e from funext fun m => propext (h.en e m), h.2.2.2.2.2.1]
theorem VE.me (h : VE s σ) {g : Int} (hg : 0 ≤ g ∧ g < σ 50 6) (e : Int) : meC s e g = meC σ e g := by
  unfold meC
  exact pIf_c (h.nu hg e) rfl (by rw [h.ra, h.fj, h.pa, h.1.1, show thC s e = thC σ e from funext fun m => propext (h.th e m)])
theorem VE.lo (h : VE s σ) {g : Int} (hg : 0 ≤ g ∧ g < σ 50 6) (e : Int) : loC s e g ↔ loC σ e g := by
  unfold loC
  rw [h.nu hg, h.fj, h.en]
theorem VE.sh (h : VE s σ) (e p k : Int) : shC s e p k ↔ shC σ e p k := by
  have h6 := h.2.2.2.1
  have h51 := h.2.2.2.2.1
  unfold shC
  rw [h6, h51]
  refine exists_congr (fun g => and_congr_right (fun hg => ?_))
  rw [h.me hg, h.on]
theorem VE.rf (hG : GI s) : VE s s := (FL.rf (L := [])).ve hG (by decide)
theorem VE.tr {τ : xS} (h : VE s σ) (h' : VE σ τ) : VE s τ := by
  obtain ⟨⟨a1, a2, a3, a4⟩, ⟨a5, a6, a7, a8⟩, ⟨a9, b1, b2, b3⟩, b4, b5, b6, b7, b8, b9⟩ := h
  obtain ⟨⟨c1, c2, c3, c4⟩, ⟨c5, c6, c7, c8⟩, ⟨c9, d1, d2, d3⟩, d4, d5, d6, d7, d8, d9⟩ := h'
  exact ⟨⟨a1.trans c1, c2, c3, c4⟩, ⟨a5.trans c5, a6.trans c6, a7.trans c7, fun r j h1 h2 => (a8 r j h1 h2).trans (c8 r j h1 h2)⟩, ⟨a9.trans c9, b1.trans d1, b2.trans d2, fun r j h1 h2 => (b3 r j h1 h2).trans (d3 r j h1 h2)⟩, b4.trans d4, b5.trans d5, b6.trans d6, b7.trans d7, b8.trans d8, fun r j h1 h2 => (b9 r j h1 h2).trans (d9 r j h1 h2)⟩
end VEC
theorem VJ.cg {s σ τ : xS} (h : VJ s σ) (e : VE σ τ) : VJ s τ := fun g g0 g1 => by
  have h6 := e.2.2.2.1
  have hg := h g g0 (by omega)
  rw [e.wr, e.tu, e.ra] at hg
  exact hg
theorem VL.cg {s σ τ : xS} {x : Int} (h : VL s σ x) (e : VE σ τ) : VL s τ x := by
  have h6 := e.2.2.2.1
  refine ⟨fun g g0 g1 => ?_, fun p p0 p1 k hk => ?_⟩
  · have hg := h.1 g g0 (by omega)
    rw [e.me ⟨g0, g1⟩, e.lo ⟨g0, g1⟩] at hg
    exact hg
  · rw [h.2 p p0 p1 k hk, e.sh]
/-- the class's view is right, where it says that it has judged, looked -/
def VCj (s : xS) : Prop := s 243 11 ≠ 0 → VJ s s
def VCl (s : xS) : Prop := s 243 12 ≠ -1 → s 243 11 ≠ 0 ∧ VL s s (s 243 12)
def LVJ : List Nat := [69, 128, 192, 256, 384, 1350, 1408, 1472, 1600, 1664, 1728, 1792, 1856, 711, 768, 832, 960, 1024, 1152, 3276, 3712, 3776, 3840]
def LVL : List Nat := [69, 128, 192, 256, 384, 1350, 1408, 1472, 1600, 1664, 1728, 1792, 1856, 711, 768, 832, 960, 1024, 1152, 3276, 3277, 3904, 3968, 4032]
theorem RuE.sy {s σ : xS} (h : RuE s σ) : RuE σ s := ⟨h.1.symm, h.2.1.symm, h.2.2.1.symm, fun r j h1 h2 => (h.2.2.2 r j h1 h2).symm⟩
theorem VE.sy {s σ : xS} (h : VE s σ) : VE σ s := by
  obtain ⟨⟨a1, a2, a3, a4⟩, ⟨a5, a6, a7, a8⟩, a9, b4, b5, b6, b7, b8, b9⟩ := h
  have e := a9.1
  exact ⟨⟨a1.symm, by omega, by omega, by omega⟩, ⟨a5.symm, a6.symm, a7.symm, fun r j h1 h2 => (a8 r j h1 h2).symm⟩, a9.sy, b4.symm, b5.symm, b6.symm, b7.symm, b8.symm, fun r j h1 h2 => (b9 r j h1 h2).symm⟩
theorem VCj.fl {L : List Nat} {s s' : xS} (h : VCj s) (hG : GI s) (f : FL L s s') (hL : ∀ x ∈ LVJ, x ∉ L) : VCj s' := by
  have ve := (f.ve hG (fun x hx => hL x (by revert x; decide))).sy
  have a1 : s' 243 11 = s 243 11 := f 243 11 (hL 3276 (by decide))
  have b0 : s' 250 = s 250 := funext fun i => f 250 i (hL 3712 (by decide))
  have b1 : s' 251 = s 251 := funext fun i => f 251 i (hL 3776 (by decide))
  have b2 : s' 252 = s 252 := funext fun i => f 252 i (hL 3840 (by decide))
  intro w
  rw [a1] at w
  have q := (h w).cg ve
  unfold VJ at q ⊢
  rw [b0, b1, b2]
  exact q
theorem VCj.up {s : xS} (hG : GI s) {q i : Nat} {v : Int} (h : VCj s) (hL : x_pl q i ∉ LVJ) : VCj (x_up s q i v) := h.fl hG FL.one (fun x hx hm => hL (by rw [← List.mem_singleton.mp hm]; exact hx))
theorem VCj.no {s : xS} (h1 : s 243 11 = 0) : VCj s := fun w => absurd h1 w
/-- behind judging -/
theorem VCj.judge {L : List Nat} {s s' : xS} (hG : GI s) (f : FL L s s') (hL : ∀ x ∈ LVE, x ∉ L) (v : VJ s' s) : VCj s' := fun _ => v.cg (f.ve hG hL).sy
theorem VCl.fl {L : List Nat} {s s' : xS} (h : VCl s) (hG : GI s) (f : FL L s s') (hL : ∀ x ∈ LVL, x ∉ L) : VCl s' := by
  have ve := (f.ve hG (fun x hx => hL x (by revert x; decide))).sy
  have a1 : s' 243 11 = s 243 11 := f 243 11 (hL 3276 (by decide))
  have a2 : s' 243 12 = s 243 12 := f 243 12 (hL 3277 (by decide))
  have b3 : s' 253 = s 253 := funext fun i => f 253 i (hL 3904 (by decide))
  have b4 : s' 254 = s 254 := funext fun i => f 254 i (hL 3968 (by decide))
  have b5 : s' 255 = s 255 := funext fun i => f 255 i (hL 4032 (by decide))
  intro w
  rw [a2] at w ⊢
  have q := (h w).2.cg ve
  rw [a1]
  refine ⟨(h w).1, ?_⟩
  unfold VL at q ⊢
  rw [b3, b4, b5]
  exact q
theorem VCl.up {s : xS} (hG : GI s) {q i : Nat} {v : Int} (h : VCl s) (hL : x_pl q i ∉ LVL) : VCl (x_up s q i v) := h.fl hG FL.one (fun x hx hm => hL (by rw [← List.mem_singleton.mp hm]; exact hx))
theorem VCl.no {s : xS} (h2 : s 243 12 = -1) : VCl s := fun w => absurd h2 w
/-- behind judging -/
theorem VCl.judge {L : List Nat} {s s' : xS} (h : VCl s) (hG : GI s) (f : FL L s s') (hL : ∀ x ∈ [69, 128, 192, 256, 384, 1350, 1408, 1472, 1600, 1664, 1728, 1792, 1856, 711, 768, 832, 960, 1024, 1152, 3277, 3904, 3968, 4032], x ∉ L) (e : s' 243 11 ≠ 0) : VCl s' := by
  have ve := (f.ve hG (fun x hx => hL x (by revert x; decide))).sy
  have a2 : s' 243 12 = s 243 12 := f 243 12 (hL 3277 (by decide))
  have b3 : s' 253 = s 253 := funext fun i => f 253 i (hL 3904 (by decide))
  have b4 : s' 254 = s 254 := funext fun i => f 254 i (hL 3968 (by decide))
  have b5 : s' 255 = s 255 := funext fun i => f 255 i (hL 4032 (by decide))
  intro w
  refine ⟨e, ?_⟩
  rw [a2] at w ⊢
  have q := (h w).2.cg ve
  unfold VL at q ⊢
  rw [b3, b4, b5]
  exact q
/-- behind looking -/
theorem VCl.look {L : List Nat} {s s' : xS} {a : Int} (hG : GI s) (f : FL L s s') (hL : ∀ x ∈ LVE, x ∉ L) (l : VL s' s a) (e : s' 243 11 ≠ 0) (e2 : s' 243 12 = a) : VCl s' := by
  have ve := (f.ve hG hL).sy
  intro _
  rw [e2]
  exact ⟨e, l.cg ve⟩
