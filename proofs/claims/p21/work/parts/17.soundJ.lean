set_option maxHeartbeats 4000000 in
theorem pm_sound (D : va_G) (cA : Nat → ClassId) (b : Nat) (sa : Nat → Nat) (l : Launch) : ∀ n, pm_Sn D cA b sa l n := by
  intro n
  induction n with
  | zero =>
    intro X m pc lv st h c k h' r hs
    exact absurd hs (by simp [pm_exec])
  | succ n ih =>
    intro X m pc lv st h c k h' r hs p e R s mi args below meth co H locs ls Q hx hb hml hts hown hK hTx hX hsb hR hin hl hW hSv hc hk hend
    unfold pm_exec at hs
    split at hs
    · cases hs
    · next i len hlk =>
      have hdec : decode (pm_bytes m) pc = .ok (i, pm_len i len) := pm_dec hlk
      split at hs
      · next r0 he => cases hs; exact W.widen hc hk (hend pc i len st H locs ls hdec he hW hSv)
      · split at hs
        · next y as rest hinv =>
          split at hs
          · next h1 r1 hcall =>
            have hic := pm_inv_ok hinv
            have hbd : c + pm_mc y ≤ pm_mc m ∧ k + pm_ms y ≤ pm_ms m := by
              obtain ⟨_, _, _, _, _, ⟨_, _, q1, q2⟩, _⟩ := hic
              exact ⟨q1, q2⟩
            exact pm_docall ih hx hb hml hts hown hK hTx hsb hR hl.1 hW hSv hdec hic hcall (fun H1 locs1 hW1 hSv1 => ih X m (pc + 3) lv _ h1 _ _ h' r hs p e R s mi args below meth co H1 locs1 ls Q hx hb hml hts hown hK hTx hX hsb hR hin hl hW1 hSv1 hbd.1 hbd.2 hend)
          · cases hs
        · next as rest hinv =>
          obtain ⟨j, y, n', q, rfl, hlk2, rfl, hfr, hlo⟩ := pm_inv_obj hinv
          have hwords : ∀ w ∈ pm_wc (pm_oc m) (j, y, 3, n'), w ∈ pm_ws := fun w hw => pm_cA _ _ (List.mem_flatMap.mpr ⟨_, pm_look_mem hlk2, hw⟩)
          simp only [pm_wc, if_true] at hwords
          refine W.objInit hx hb hown (hts _ (hwords _ List.mem_cons_self)) (hts _ (hwords _ (List.mem_cons_of_mem _ List.mem_cons_self))) (hts _ (hwords _ (List.mem_cons_of_mem _ (List.mem_cons_of_mem _ List.mem_cons_self)))) (g := F0 mi pc ls (pm_cs b sa (.ref q :: rest))) rfl (hl.1.trans hml.symm) rfl hdec (Nat.le_trans hfr hR.1) ?_ ?_
          · show 2 * 0 + ((pm_cs b sa rest).map fun v => v.category).sum + 12 ≤ R.locals
            rw [pm_cat_cs]
            have := hR.2.1
            omega
          · exact ih X m (pc + 3) lv rest h c k h' r hs p e R s mi args below meth co H locs ls Q hx hb hml hts hown hK hTx hX hsb hR hin hl hW hSv hc hk hend
        · split at hs
          · next pc' lv' st' h2 c' k' hstep =>
            unfold pm_step at hstep
            split at hstep
            · next q hA =>
              cases hstep
              obtain ⟨⟨rfl, rfl, rfl⟩, hk2⟩ := pm_stA (b := b) (sa := sa) (l := l) (p := p) (e := e) (R := R) (s := s) (mi := mi) (args := args) (below := below) (meth := meth) (co := co) (H := H) (locs := locs) (Q := Q) hx hb hdec hl hA
              exact hk2 (fun ls' hl' => ih X m pc' lv' st' h2 c' k' h' r hs p e R s mi args below meth co H locs ls' Q hx hb hml hts hown hK hTx hX hsb hR hin hl' hW hSv hc hk hend)
            · obtain ⟨⟨rfl, g1, g2⟩, hk2⟩ := pm_stB (l := l) (p := p) (e := e) (R := R) (s := s) (mi := mi) (args := args) (below := below) (meth := meth) (co := co) (H := H) (locs := locs) (Q := Q) (ls := ls) hTx hx hb hts hown hK hX hsb hR.2.2.1 hR.2.2.2 hin hdec hW hSv hstep
              exact hk2 (fun H1 locs1 hW1 hSv1 => ih X m pc' lv' st' h2 c' k' h' r hs p e R s mi args below meth co H1 locs1 ls Q hx hb hml hts hown hK hTx hX hsb hR hin hl hW1 hSv1 (g1 hc) (g2 hk) hend)
          · cases hs
