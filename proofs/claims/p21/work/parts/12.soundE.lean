section PME
variable {p : Program} {l : Launch} {e : Env} {R : Room} {s : State} {mi : MethodId} {args : Array Value} {below : List Frame} {meth : Method} {co : Code} {H H0 : Heap} {locs : List Loc} {Q : State → Prop}
variable {D : va_G} {cA : Nat → ClassId} {b : Nat} {sa : Nat → Nat} {m pc len : Nat} {lv lv' : pmL} {st st' : List Value} {h h' : pmH} {c k c' k' pc' : Nat} {ls : Array Slot} {cc : ByteArray} {X : pmX}
theorem pm_acI : Cond.arrayClass (pm_aty 20) ∈ pm_ws := pm_wsin (List.mem_of_getElem? (i := 130) (by decide +kernel)) rfl
theorem pm_acJ : Cond.arrayClass (pm_aty 21) ∈ pm_ws := pm_wsin (List.mem_of_getElem? (i := 302) (by decide +kernel)) rfl
theorem pm_acZ : Cond.arrayClass (pm_aty 22) ∈ pm_ws := pm_wsin (List.mem_of_getElem? (i := 433) (by decide +kernel)) rfl
theorem pm_ad_str (b : Nat) (sa : Nat → Nat) (y : Nat) : pm_ad b sa (y + 2001) = sa (y + 1) := by
  unfold pm_ad
  rw [if_neg (by omega), show y + 2001 - 2000 = y + 1 by omega]
theorem pm_ad_scr (b : Nat) (sa : Nat → Nat) : pm_ad b sa 2000 = sa 0 := by
  unfold pm_ad
  rw [if_neg (by omega), Nat.sub_self]
set_option maxHeartbeats 4000000 in
set_option maxRecDepth 100000 in
theorem pm_stB {i : Instr} (hTx : pm_T b sa s) (hx : p.tables.exec = Jvm.exec) (hb : co.code = cc) (hts : ∀ w ∈ pm_ws, w.before args s = true) (hown : s.vm.findClass (pm_own (pm_oc m)) = some mi.cls) (hK : pm_K D cA sa s)
    (hX : ∀ x, X = some x → va_X (sa 0) x.1 x.2 s s.heap) (hsb : sa 0 < b) (hRc : pm_mc m ≤ R.cells) (hRs : pm_ms m ≤ R.slots) (hin : pm_in m = 1 → meth.name = "<init>")
    (hdec : decode cc pc = .ok (i, pm_len i len)) (hW : pm_Wd D cA b sa h H) (hSv : pm_Sv b s.heap H locs)
    (hs : pm_stepB X m i pc lv st h c k = some (pc', lv', st', h', c', k')) :
    (lv' = lv ∧ (c ≤ pm_mc m → c' ≤ pm_mc m) ∧ (k ≤ pm_ms m → k' ≤ pm_ms m)) ∧ ((∀ (H1 : Heap) (locs1 : List Loc), pm_Wd D cA b sa h' H1 → pm_Sv b s.heap H1 locs1 → W p l e R s mi args below meth co H1 locs1 c' k' Q (F0 mi pc' ls (pm_cs b sa st'))) → W p l e R s mi args below meth co H locs c k Q (F0 mi pc ls (pm_cs b sa st))) := by
  have hXH : ∀ x, X = some x → va_X (sa 0) x.1 x.2 s H := fun x hx0 => (hX x hx0).kept (hSv.1 _ hsb)
  cases i
  case tableswitch dflt lo hi offs =>
    simp only [pm_stepB] at hs; split at hs
    · next x r =>
      split at hs
      · next hc => split at hs
                   · next t ht => cases hs; exact ⟨⟨rfl, id, id⟩, fun hk => lv_tableOut hx hb hdec hc (pm_tgt_ok ht) (hk _ _ hW hSv)⟩
                   · cases hs
      · next hc => split at hs
                   · next off hoff =>
                     split at hs
                     · next t ht => cases hs; exact ⟨⟨rfl, id, id⟩, fun hk => lv_tableIn hx hb hdec (fun q => hc (Or.inl q)) (fun q => hc (Or.inr q)) hoff (pm_tgt_ok ht) (hk _ _ hW hSv)⟩
                     · cases hs
                   · cases hs
    · cases hs
  case lookupswitch dflt ps =>
    simp only [pm_stepB] at hs; split at hs
    · next x r =>
      split at hs
      · next hc => split at hs
                   · next t ht => cases hs; exact ⟨⟨rfl, id, id⟩, fun hk => lv_lookup hx hb hdec hc rfl (pm_tgt_ok ht) (hk _ _ hW hSv)⟩
                   · cases hs
      · cases hs
    · cases hs
  case ldc j =>
    simp only [pm_stepB] at hs; split at hs
    · next x hg =>
      cases hs
      have hw := hts _ (pm_kA _ _ (List.mem_flatMap.mpr ⟨_, pm_look_mem hg, List.mem_singleton.mpr rfl⟩))
      exact ⟨⟨rfl, id, id⟩, fun hk => lv_ldc hx hb hown hw hdec (hk _ _ hW hSv)⟩
    · next x hg =>
      cases hs
      have hw := pm_kB _ _ (pm_look_mem hg)
      simp only [pm_chk, Bool.and_eq_true, decide_eq_true_eq] at hw
      obtain ⟨h1, h2⟩ := hw
      obtain ⟨y, rfl⟩ : ∃ y : Nat, x = y + 2001 := ⟨x - 2001, (Nat.sub_add_cancel h1).symm⟩
      split at h2
      · next q hq =>
        have h2 := of_decide_eq_true h2
        rw [Nat.add_sub_cancel] at hq
        have hv := hK.2.2.2.2 _ _ hq
        rw [h2.1, h2.2] at hv
        refine ⟨⟨rfl, id, id⟩, fun hk => va_ldcS hx hb hown hv hdec ?_⟩
        have := hk _ _ hW hSv
        rw [show pm_cs b sa (Value.ref (y + 2001) :: st) = .ref (sa (y + 1)) :: pm_cs b sa st from congrArg (fun z => Value.ref z :: pm_cs b sa st) (pm_ad_str b sa y)] at this
        exact this
      · cases h2
    · cases hs
  case ldc_w j =>
    simp only [pm_stepB] at hs; split at hs
    · next x hg =>
      cases hs
      have hw := hts _ (pm_kA _ _ (List.mem_flatMap.mpr ⟨_, pm_look_mem hg, List.mem_singleton.mpr rfl⟩))
      exact ⟨⟨rfl, id, id⟩, fun hk => lv_ldcw hx hb hown hw hdec (hk _ _ hW hSv)⟩
    · cases hs
  case ldc2_w j =>
    simp only [pm_stepB] at hs; split at hs
    · next x hg =>
      cases hs
      have hw := hts _ (pm_kA _ _ (List.mem_flatMap.mpr ⟨_, pm_look_mem hg, List.mem_singleton.mpr rfl⟩))
      exact ⟨⟨rfl, id, id⟩, fun hk => lv_ldc2 hx hb hown hw hdec (hk _ _ hW hSv)⟩
    · cases hs
  case getstatic j =>
    simp only [pm_stepB] at hs; split at hs
    · next hl => cases hs; exact ⟨⟨rfl, id, id⟩, fun hk => pm_x_st0 hx hb hts hown hTx hSv hl hdec (hk _ _ hW hSv)⟩
    · next hl => cases hs; exact ⟨⟨rfl, id, id⟩, fun hk => pm_x_st1 hx hb hts hown hTx hSv hl hdec (hk _ _ hW hSv)⟩
    · cases hs
  case getfield j =>
    simp only [pm_stepB] at hs; split at hs
    · next q r =>
      split at hs
      · next h2001 =>
        split at hs
        · next h2020 =>
          split at hs
          · next hl => cases hs; exact ⟨⟨rfl, id, id⟩, fun hk => pm_x_val hx hb hts hown hTx hSv hl h2001 h2020 hdec (hk _ _ hW hSv)⟩
          · next hl => cases hs; exact ⟨⟨rfl, id, id⟩, fun hk => pm_x_cod hx hb hts hown hTx hSv hl h2001 h2020 hdec (hk _ _ hW hSv)⟩
          · cases hs
        · cases hs
      · split at hs
        · next ci f t n g hf hq =>
          split at hs
          · next he => cases hs; subst he; exact ⟨⟨rfl, id, id⟩, fun hk => pm_g_get hx hb hts hown hK hW hf hq hdec (hk _ _ hW hSv)⟩
          · cases hs
        · cases hs
    · cases hs
  case putfield j =>
    simp only [pm_stepB] at hs; split at hs
    · next v q r =>
      split at hs
      · next ci f t n g hf hq =>
        split at hs
        · next he =>
          obtain ⟨he, hv, hfi⟩ := he
          cases hs; subst he
          exact ⟨⟨rfl, id, id⟩, fun hk => pm_g_put hx hb hts hown hK hW hSv hf hq hv (hfi.imp id (fun z => ⟨hin z.1, z.2⟩)) hdec (fun H1 l1 a1 a2 => hk H1 l1 a1 a2)⟩
        · cases hs
      · cases hs
    · cases hs
  case iaload =>
    simp only [pm_stepB] at hs; split at hs
    · next j q r =>
      split at hs
      · next hq => split at hs
                   · next x => split at hs
                               · next hj =>
                                 cases hs; subst hq
                                 refine ⟨⟨rfl, id, id⟩, fun hk => ?_⟩
                                 obtain ⟨scr, x1, x2, x3, x4, x5⟩ := hXH x rfl
                                 have k1 := hk _ _ hW hSv
                                 rw [show pm_cs b sa (Value.int j :: Value.ref 2000 :: r) = .int j :: .ref (sa 0) :: pm_cs b sa r from congrArg (fun z => Value.int j :: Value.ref z :: pm_cs b sa r) (pm_ad_scr b sa)]
                                 exact W.iald hx hb x1 x2 x3 (by rw [x4]; exact pm_ix_ok hj) (x5 _ (pm_ix_lt hj)) rfl rfl hdec k1
                               · cases hs
                   · cases hs
      · next hq => split at hs
                   · next t n f hf => split at hs
                                      · next hc => obtain ⟨rfl, hj⟩ := hc; cases hs; exact ⟨⟨rfl, id, id⟩, fun hk => pm_g_iald hx hb hK hW hf hj hdec (hk _ _ hW hSv)⟩
                                      · cases hs
                   · cases hs
    · cases hs
  case laload =>
    simp only [pm_stepB] at hs; split at hs
    · next j q r =>
      split at hs
      · next t n f hf => split at hs
                         · next hc => obtain ⟨rfl, hj⟩ := hc; cases hs; exact ⟨⟨rfl, id, id⟩, fun hk => pm_g_lald hx hb hK hW hf hj hdec (hk _ _ hW hSv)⟩
                         · cases hs
      · cases hs
    · cases hs
  case baload =>
    simp only [pm_stepB] at hs; split at hs
    · next j q r =>
      split at hs
      · next h2101 =>
        split at hs
        · next t ht =>
          split at hs
          · next hj => cases hs; exact ⟨⟨rfl, id, id⟩, fun hk => pm_x_bald hx hb hTx hSv h2101 ht hj hdec (hk _ _ hW hSv)⟩
          · cases hs
        · cases hs
      · split at hs
        · next t n f hf => split at hs
                           · next hc => obtain ⟨rfl, hj⟩ := hc; cases hs; exact ⟨⟨rfl, id, id⟩, fun hk => pm_g_zald hx hb hK hW hf hj hdec (hk _ _ hW hSv)⟩
                           · cases hs
        · cases hs
    · cases hs
  case aaload =>
    simp only [pm_stepB] at hs; split at hs
    · next j q r =>
      split at hs
      · next t n f hf => split at hs
                         · next hc => obtain ⟨ht, hj⟩ := hc; cases hs; exact ⟨⟨rfl, id, id⟩, fun hk => pm_g_aald hx hb hK hW hf ht hj hdec (hk _ _ hW hSv)⟩
                         · cases hs
      · cases hs
    · cases hs
  case iastore =>
    simp only [pm_stepB] at hs; split at hs
    · next x j q r =>
      split at hs
      · next t n f hf => split at hs
                         · next hc => obtain ⟨rfl, hj⟩ := hc; cases hs; exact ⟨⟨rfl, id, id⟩, fun hk => pm_g_iast hx hb hK hW hSv hf hj hdec (fun H1 l1 a1 a2 => hk H1 l1 a1 a2)⟩
                         · cases hs
      · cases hs
    · cases hs
  case lastore =>
    simp only [pm_stepB] at hs; split at hs
    · next x j q r =>
      split at hs
      · next t n f hf => split at hs
                         · next hc => obtain ⟨rfl, hj⟩ := hc; cases hs; exact ⟨⟨rfl, id, id⟩, fun hk => pm_g_last hx hb hK hW hSv hf hj hdec (fun H1 l1 a1 a2 => hk H1 l1 a1 a2)⟩
                         · cases hs
      · cases hs
    · cases hs
  case bastore =>
    simp only [pm_stepB] at hs; split at hs
    · next x j q r =>
      split at hs
      · next t n f hf => split at hs
                         · next hc => obtain ⟨rfl, hj⟩ := hc; cases hs; exact ⟨⟨rfl, id, id⟩, fun hk => pm_g_zast hx hb hK hW hSv hf hj hdec (fun H1 l1 a1 a2 => hk H1 l1 a1 a2)⟩
                         · cases hs
      · cases hs
    · cases hs
  case arraylength =>
    simp only [pm_stepB] at hs; split at hs
    · next q r =>
      split at hs
      · next hq =>
        split at hs
        · next x =>
          cases hs; subst hq
          refine ⟨⟨rfl, id, id⟩, fun hk => ?_⟩
          obtain ⟨scr, x1, x2, x3, x4, x5⟩ := hXH x rfl
          have k1 := hk _ _ hW hSv
          rw [show pm_cs b sa (Value.ref 2000 :: r) = .ref (sa 0) :: pm_cs b sa r from congrArg (fun z => Value.ref z :: pm_cs b sa r) (pm_ad_scr b sa)]
          exact W.alen hx hb x1 x2 (by rw [x4]) rfl rfl hdec k1
        · cases hs
      · next hq => split at hs
                   · next h2101 =>
                     split at hs
                     · next t ht => cases hs; exact ⟨⟨rfl, id, id⟩, fun hk => pm_x_len hx hb hTx hSv h2101 ht hdec (hk _ _ hW hSv)⟩
                     · cases hs
                   · split at hs
                     · next t n f hf => split at hs
                                        · next ht => cases hs; exact ⟨⟨rfl, id, id⟩, fun hk => pm_g_alen hx hb hK hW hf ht hdec (hk _ _ hW hSv)⟩
                                        · cases hs
                     · cases hs
    · cases hs
  case new j =>
    simp only [pm_stepB] at hs; split at hs
    · next ci hn =>
      split at hs
      · next q hq =>
        split at hs
        · next hc =>
          cases hs
          exact ⟨⟨rfl, fun _ => hc.1, fun _ => hc.2.1⟩, fun hk => pm_g_new hx hb hts hown hK hW hSv hn hq (Nat.le_trans hc.1 hRc) (Nat.le_trans hc.2.1 hRs) hc.2.2 hdec (fun H1 l1 a1 a2 => hk H1 l1 a1 a2)⟩
        · cases hs
      · cases hs
    · cases hs
  case newarray ty =>
    simp only [pm_stepB] at hs; split at hs
    · next n r =>
      split at hs
      · next hc =>
        obtain ⟨h1, h2, h3, h4, h5⟩ := hc
        cases ty <;> simp only at hs
        case int => cases hs; exact ⟨⟨rfl, fun _ => h3, fun _ => h4⟩, fun hk => pm_g_newa (t := 20) hx hb hts hK hW hSv (by decide) rfl pm_acI rfl h1 rfl h2 (Nat.le_trans h3 hRc) (Nat.le_trans h4 hRs) h5 hdec (fun H1 l1 a1 a2 => hk H1 l1 a1 a2)⟩
        case long => cases hs; exact ⟨⟨rfl, fun _ => h3, fun _ => h4⟩, fun hk => pm_g_newa (t := 21) hx hb hts hK hW hSv (by decide) rfl pm_acJ rfl h1 rfl h2 (Nat.le_trans h3 hRc) (Nat.le_trans h4 hRs) h5 hdec (fun H1 l1 a1 a2 => hk H1 l1 a1 a2)⟩
        case boolean => cases hs; exact ⟨⟨rfl, fun _ => h3, fun _ => h4⟩, fun hk => pm_g_newa (t := 22) hx hb hts hK hW hSv (by decide) rfl pm_acZ rfl h1 rfl h2 (Nat.le_trans h3 hRc) (Nat.le_trans h4 hRs) h5 hdec (fun H1 l1 a1 a2 => hk H1 l1 a1 a2)⟩
        all_goals cases hs
      · cases hs
    · cases hs
  case multianewarray j d =>
    simp only [pm_stepB] at hs; split at hs
    · next k1 n1 r =>
      split at hs
      · next t hl =>
        split at hs
        · next hc =>
          obtain ⟨rfl, h1, h2, h3, h4, h5, h6, h7, h8⟩ := hc
          cases hs
          refine ⟨⟨rfl, fun _ => by omega, fun _ => by omega⟩, fun hk => pm_g_mna hx hb hts hown hK hW hSv hl h8 ?_ h1 h2 h3 h4 (Nat.le_trans h5 hRc) (Nat.le_trans h6 hRs) h7 hdec (fun H1 l1 a1 a2 => hk H1 l1 a1 a2)⟩
          rcases h8 with rfl | rfl
          · exact pm_acI
          · exact pm_acJ
        · cases hs
      · cases hs
    · cases hs
  all_goals exact absurd hs (by simp [pm_stepB])
end PME
