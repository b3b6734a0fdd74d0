/-! THE PURE MACHINE IS SOUND: its steps are the machine's -/
def pm_ad (b : Nat) (sa : Nat → Nat) (k : Nat) : Nat := if k < 2000 then b + k else sa (k - 2000)
def pm_cv (b : Nat) (sa : Nat → Nat) (v : Value) : Value := match v with
  | .ref k => .ref (pm_ad b sa k)
  | .int x => .int x
  | .long x => .long x
  | .float x => .float x
  | .double x => .double x
  | .null => .null
  | .retAddr _ => if sa 201 = 0 then .null else .ref (sa 200)
abbrev pm_cs (b : Nat) (sa : Nat → Nat) (st : List Value) : List Value := st.map (pm_cv b sa)
abbrev pm_lc (b : Nat) (sa : Nat → Nat) (ls : pmL) : pmL := ls.map (fun q => (q.1, pm_cv b sa q.2))
theorem pm_cv_cat (b : Nat) (sa : Nat → Nat) (v : Value) : (pm_cv b sa v).category = v.category := by
  cases v with
  | retAddr x =>
    show (if sa 201 = 0 then Value.null else Value.ref (sa 200)).category = _
    split <;> rfl
  | _ => rfl
theorem pm_get_at {b : Nat} {sa : Nat → Nat} {ls : Array Slot} {nL : Nat} {lv : pmL} {i : Nat} {v : Value} (hl : lv_has ls nL (pm_lc b sa lv)) (h : pm_get lv i = some v) : ls[i]? = some (.val (pm_cv b sa v)) := hl.2.2 (i, pm_cv b sa v) (List.mem_map.mpr ⟨(i, v), pm_look_mem h, rfl⟩)
theorem pm_st1_lc (b : Nat) (sa : Nat → Nat) (lv : pmL) (i : Nat) (v : Value) : (i, pm_cv b sa v) :: (pm_lc b sa lv).filter (fun q => !(q.1 == i) && !(q.1 + 1 == i && q.2.category == 2)) = pm_lc b sa (pm_st1 lv i v) := by
  unfold pm_st1 pm_lc
  rw [List.map_cons, List.filter_map]
  congr 3
  funext q
  simp only [Function.comp, pm_cv_cat]
theorem pm_st2_lc (b : Nat) (sa : Nat → Nat) (lv : pmL) (i : Nat) (v : Value) : (i, pm_cv b sa v) :: (pm_lc b sa lv).filter (fun q => !(q.1 == i) && (!(q.1 == i + 1) && !(q.1 + 1 == i && q.2.category == 2))) = pm_lc b sa (pm_st2 lv i v) := by
  unfold pm_st2 pm_lc
  rw [List.map_cons, List.filter_map]
  congr 3
  funext q
  simp only [Function.comp, pm_cv_cat]
theorem pm_tgt_ok {pc : Nat} {off : Int} {t : Nat} (h : pm_tgt pc off = some t) : (pc : Int) + off = (t : Int) := by
  unfold pm_tgt at h
  split at h
  · next q hq => cases h; exact hq
  · cases h
theorem pm_br_ok {bb : Bool} {pc : Nat} {off : Int} {ls : pmL} {st : List Value} {h : pmH} {c k : Nat} {r : pmS} (hs : pm_br bb pc off ls st h c k = some r) : ∃ t : Nat, (pc : Int) + off = (t : Int) ∧ r = (cond bb t (pc + 3), ls, st, h, c, k) := by
  unfold pm_br at hs
  split at hs
  · next t ht => exact ⟨t, pm_tgt_ok ht, (Option.some.inj hs).symm⟩
  · cases hs
section PMA
variable {p : Program} {l : Launch} {e : Env} {R : Room} {s : State} {mi : MethodId} {args : Array Value} {below : List Frame} {meth : Method} {co : Code} {H : Heap} {locs : List Loc} {Q : State → Prop}
variable {b : Nat} {sa : Nat → Nat} {m pc len : Nat} {lv lv' : pmL} {st st' : List Value} {h h' : pmH} {c k c' k' pc' : Nat} {ls : Array Slot} {cc : ByteArray}
set_option maxHeartbeats 4000000 in
theorem pm_stA {i : Instr} (hx : p.tables.exec = Jvm.exec) (hb : co.code = cc) (hdec : decode cc pc = .ok (i, pm_len i len)) (hl : lv_has ls (pm_maxL m) (pm_lc b sa lv))
    (hs : pm_stepA m i pc lv st h c k = some (pc', lv', st', h', c', k')) :
    (h' = h ∧ c' = c ∧ k' = k) ∧ ((∀ ls', lv_has ls' (pm_maxL m) (pm_lc b sa lv') → W p l e R s mi args below meth co H locs c k Q (F0 mi pc' ls' (pm_cs b sa st'))) → W p l e R s mi args below meth co H locs c k Q (F0 mi pc ls (pm_cs b sa st))) := by
  cases i
  case iconst n => simp only [pm_stepA] at hs; cases hs; exact ⟨⟨rfl, rfl, rfl⟩, fun hk => lv_iconst hx hb hdec rfl (hk _ hl)⟩
  case bipush n => simp only [pm_stepA] at hs; cases hs; exact ⟨⟨rfl, rfl, rfl⟩, fun hk => lv_bipush hx hb hdec rfl (hk _ hl)⟩
  case sipush n => simp only [pm_stepA] at hs; cases hs; exact ⟨⟨rfl, rfl, rfl⟩, fun hk => lv_sipush hx hb hdec rfl (hk _ hl)⟩
  case lconst n => simp only [pm_stepA] at hs; cases hs; exact ⟨⟨rfl, rfl, rfl⟩, fun hk => lv_lconst hx hb hdec rfl (hk _ hl)⟩
  case iload_n j =>
    simp only [pm_stepA] at hs; split at hs
    · next x hg => cases hs; exact ⟨⟨rfl, rfl, rfl⟩, fun hk => lv_iload_n hx hb hdec rfl (pm_get_at hl hg) (hk _ hl)⟩
    · cases hs
  case iload j =>
    simp only [pm_stepA] at hs; split at hs
    · next x hg => cases hs; exact ⟨⟨rfl, rfl, rfl⟩, fun hk => lv_iload hx hb hdec (pm_get_at hl hg) (hk _ hl)⟩
    · cases hs
  case lload_n j =>
    simp only [pm_stepA] at hs; split at hs
    · next x hg => cases hs; exact ⟨⟨rfl, rfl, rfl⟩, fun hk => lv_lload_n hx hb hdec rfl (pm_get_at hl hg) (hk _ hl)⟩
    · cases hs
  case lload j =>
    simp only [pm_stepA] at hs; split at hs
    · next x hg => cases hs; exact ⟨⟨rfl, rfl, rfl⟩, fun hk => lv_lload hx hb hdec (pm_get_at hl hg) (hk _ hl)⟩
    · cases hs
  case aload_n j =>
    simp only [pm_stepA] at hs; split at hs
    · next x hg => cases hs; exact ⟨⟨rfl, rfl, rfl⟩, fun hk => lv_aload_n hx hb hdec rfl (pm_get_at hl hg) (hk _ hl)⟩
    · cases hs
  case aload j =>
    simp only [pm_stepA] at hs; split at hs
    · next x hg => cases hs; exact ⟨⟨rfl, rfl, rfl⟩, fun hk => lv_aload hx hb hdec (pm_get_at hl hg) (hk _ hl)⟩
    · cases hs
  case istore_n j =>
    simp only [pm_stepA] at hs; split at hs
    · next x r => split at hs
                  · next hn => cases hs; exact ⟨⟨rfl, rfl, rfl⟩, fun hk => lv_istore_n hx hb hdec rfl hl hn (pm_st1_lc b sa lv j (.int x)) (fun ls' hl' => hk ls' hl')⟩
                  · cases hs
    · cases hs
  case istore j =>
    simp only [pm_stepA] at hs; split at hs
    · next x r => split at hs
                  · next hn => cases hs; exact ⟨⟨rfl, rfl, rfl⟩, fun hk => lv_istore hx hb hdec hl hn (pm_st1_lc b sa lv j (.int x)) (fun ls' hl' => hk ls' hl')⟩
                  · cases hs
    · cases hs
  case lstore_n j =>
    simp only [pm_stepA] at hs; split at hs
    · next x r => split at hs
                  · next hn => cases hs; exact ⟨⟨rfl, rfl, rfl⟩, fun hk => lv_lstore_n hx hb hdec rfl hl hn (pm_st2_lc b sa lv j (.long x)) (fun ls' hl' => hk ls' hl')⟩
                  · cases hs
    · cases hs
  case lstore j =>
    simp only [pm_stepA] at hs; split at hs
    · next x r => split at hs
                  · next hn => cases hs; exact ⟨⟨rfl, rfl, rfl⟩, fun hk => lv_lstore hx hb hdec hl hn (pm_st2_lc b sa lv j (.long x)) (fun ls' hl' => hk ls' hl')⟩
                  · cases hs
    · cases hs
  case astore_n j =>
    simp only [pm_stepA] at hs; split at hs
    · next x r => split at hs
                  · next hn => cases hs; exact ⟨⟨rfl, rfl, rfl⟩, fun hk => lv_astore_n hx hb hdec rfl hl hn (pm_st1_lc b sa lv j (.ref x)) (fun ls' hl' => hk ls' hl')⟩
                  · cases hs
    · cases hs
  case astore j =>
    simp only [pm_stepA] at hs; split at hs
    · next x r => split at hs
                  · next hn => cases hs; exact ⟨⟨rfl, rfl, rfl⟩, fun hk => lv_astore hx hb hdec hl hn (pm_st1_lc b sa lv j (.ref x)) (fun ls' hl' => hk ls' hl')⟩
                  · cases hs
    · cases hs
  case iinc j n =>
    simp only [pm_stepA] at hs; split at hs
    · next x hg => split at hs
                   · next hn =>
                     cases hs
                     obtain ⟨kq, hkq⟩ := List.getElem?_of_mem (List.mem_map.mpr ⟨(j, .int x), pm_look_mem hg, rfl⟩ : (j, pm_cv b sa (.int x)) ∈ pm_lc b sa lv)
                     exact ⟨⟨rfl, rfl, rfl⟩, fun hk => lv_iinc hx hb hdec hl hkq rfl hn (pm_st1_lc b sa lv j (.int (x + Int32.ofInt n))) (fun ls' hl' => hk ls' hl')⟩
                   · cases hs
    · cases hs
  case dup =>
    simp only [pm_stepA] at hs; split at hs
    · cases hs; exact ⟨⟨rfl, rfl, rfl⟩, fun hk => lv_dup hx hb hdec rfl (hk _ hl)⟩
    · cases hs; exact ⟨⟨rfl, rfl, rfl⟩, fun hk => lv_dup hx hb hdec rfl (hk _ hl)⟩
    · cases hs
  case dup2 =>
    simp only [pm_stepA] at hs; split at hs
    · cases hs; exact ⟨⟨rfl, rfl, rfl⟩, fun hk => lv_dup2_11 hx hb hdec rfl rfl (hk _ hl)⟩
    · cases hs
  case pop =>
    simp only [pm_stepA] at hs; split at hs
    · cases hs; exact ⟨⟨rfl, rfl, rfl⟩, fun hk => lv_pop hx hb hdec rfl (hk _ hl)⟩
    · cases hs; exact ⟨⟨rfl, rfl, rfl⟩, fun hk => lv_pop hx hb hdec rfl (hk _ hl)⟩
    · cases hs
  case pop2 =>
    simp only [pm_stepA] at hs; split at hs
    · cases hs; exact ⟨⟨rfl, rfl, rfl⟩, fun hk => lv_pop2_2 hx hb hdec rfl (hk _ hl)⟩
    · cases hs
  case i2c =>
    simp only [pm_stepA] at hs; split at hs
    · cases hs; exact ⟨⟨rfl, rfl, rfl⟩, fun hk => lv_i2c hx hb hdec rfl (hk _ hl)⟩
    · cases hs
  case iadd => simp only [pm_stepA] at hs; split at hs; · cases hs; exact ⟨⟨rfl, rfl, rfl⟩, fun hk => lv_iadd hx hb hdec (hk _ hl)⟩
               · cases hs
  case isub => simp only [pm_stepA] at hs; split at hs; · cases hs; exact ⟨⟨rfl, rfl, rfl⟩, fun hk => lv_isub hx hb hdec (hk _ hl)⟩
               · cases hs
  case imul => simp only [pm_stepA] at hs; split at hs; · cases hs; exact ⟨⟨rfl, rfl, rfl⟩, fun hk => lv_imul hx hb hdec (hk _ hl)⟩
               · cases hs
  case idiv =>
    simp only [pm_stepA] at hs; split at hs
    · split at hs
      · cases hs
      · next hz => cases hs; exact ⟨⟨rfl, rfl, rfl⟩, fun hk => lv_idiv hx hb hdec hz (hk _ hl)⟩
    · cases hs
  case irem =>
    simp only [pm_stepA] at hs; split at hs
    · split at hs
      · cases hs
      · next hz => cases hs; exact ⟨⟨rfl, rfl, rfl⟩, fun hk => lv_irem hx hb hdec hz (hk _ hl)⟩
    · cases hs
  case iand => simp only [pm_stepA] at hs; split at hs; · cases hs; exact ⟨⟨rfl, rfl, rfl⟩, fun hk => lv_iand hx hb hdec (hk _ hl)⟩
               · cases hs
  case ior => simp only [pm_stepA] at hs; split at hs; · cases hs; exact ⟨⟨rfl, rfl, rfl⟩, fun hk => lv_ior hx hb hdec (hk _ hl)⟩
              · cases hs
  case ishl => simp only [pm_stepA] at hs; split at hs; · cases hs; exact ⟨⟨rfl, rfl, rfl⟩, fun hk => lv_ishl hx hb hdec (hk _ hl)⟩
               · cases hs
  case ishr => simp only [pm_stepA] at hs; split at hs; · cases hs; exact ⟨⟨rfl, rfl, rfl⟩, fun hk => lv_ishr hx hb hdec (hk _ hl)⟩
               · cases hs
  case iushr => simp only [pm_stepA] at hs; split at hs; · cases hs; exact ⟨⟨rfl, rfl, rfl⟩, fun hk => lv_iushr hx hb hdec rfl (hk _ hl)⟩
                · cases hs
  case ladd => simp only [pm_stepA] at hs; split at hs; · cases hs; exact ⟨⟨rfl, rfl, rfl⟩, fun hk => lv_ladd hx hb hdec (hk _ hl)⟩
               · cases hs
  case lsub => simp only [pm_stepA] at hs; split at hs; · cases hs; exact ⟨⟨rfl, rfl, rfl⟩, fun hk => lv_lsub hx hb hdec (hk _ hl)⟩
               · cases hs
  case lmul => simp only [pm_stepA] at hs; split at hs; · cases hs; exact ⟨⟨rfl, rfl, rfl⟩, fun hk => lv_lmul hx hb hdec (hk _ hl)⟩
               · cases hs
  case land => simp only [pm_stepA] at hs; split at hs; · cases hs; exact ⟨⟨rfl, rfl, rfl⟩, fun hk => lv_land hx hb hdec (hk _ hl)⟩
               · cases hs
  case lor => simp only [pm_stepA] at hs; split at hs; · cases hs; exact ⟨⟨rfl, rfl, rfl⟩, fun hk => lv_lor hx hb hdec (hk _ hl)⟩
              · cases hs
  case lxor => simp only [pm_stepA] at hs; split at hs; · cases hs; exact ⟨⟨rfl, rfl, rfl⟩, fun hk => lv_lxor hx hb hdec (hk _ hl)⟩
               · cases hs
  case lshl => simp only [pm_stepA] at hs; split at hs; · cases hs; exact ⟨⟨rfl, rfl, rfl⟩, fun hk => lv_lshl hx hb hdec rfl (hk _ hl)⟩
               · cases hs
  case lshr => simp only [pm_stepA] at hs; split at hs; · cases hs; exact ⟨⟨rfl, rfl, rfl⟩, fun hk => lv_lshr hx hb hdec rfl (hk _ hl)⟩
               · cases hs
  case lushr => simp only [pm_stepA] at hs; split at hs; · cases hs; exact ⟨⟨rfl, rfl, rfl⟩, fun hk => lv_lushr hx hb hdec rfl (hk _ hl)⟩
                · cases hs
  case i2l => simp only [pm_stepA] at hs; split at hs; · cases hs; exact ⟨⟨rfl, rfl, rfl⟩, fun hk => lv_i2l hx hb hdec rfl (hk _ hl)⟩
              · cases hs
  case l2i => simp only [pm_stepA] at hs; split at hs; · cases hs; exact ⟨⟨rfl, rfl, rfl⟩, fun hk => lv_l2i hx hb hdec rfl (hk _ hl)⟩
              · cases hs
  case lcmp => simp only [pm_stepA] at hs; split at hs; · cases hs; exact ⟨⟨rfl, rfl, rfl⟩, fun hk => W.lcmp hx hb hdec (hk _ hl)⟩
               · cases hs
  case goto off =>
    simp only [pm_stepA] at hs; split at hs
    · next t ht => cases hs; exact ⟨⟨rfl, rfl, rfl⟩, fun hk => lv_goto hx hb hdec (pm_tgt_ok ht) (hk _ hl)⟩
    · cases hs
  case if_icmp cd off =>
    simp only [pm_stepA] at hs; split at hs
    · next y x r =>
      cases cd <;> (simp only at hs; obtain ⟨t, ht, he⟩ := pm_br_ok hs; cases he; refine ⟨⟨rfl, rfl, rfl⟩, fun hk => ?_⟩)
      · exact lv_icmp_eq hx hb hdec ht (fun hc => by have q := hk _ hl; rw [decide_eq_true hc] at q; exact q) (fun hc => by have q := hk _ hl; rw [decide_eq_false hc] at q; exact q)
      · exact lv_icmp_ne hx hb hdec ht (fun hc => by have q := hk _ hl; rw [decide_eq_true hc] at q; exact q) (fun hc => by have q := hk _ hl; rw [decide_eq_false (fun hn => hn hc)] at q; exact q)
      · exact lv_icmp_lt hx hb hdec ht (fun hc => by have q := hk _ hl; rw [decide_eq_true hc] at q; exact q) (fun hc => by have q := hk _ hl; rw [decide_eq_false hc] at q; exact q)
      · exact lv_icmp_ge hx hb hdec ht (fun hc => by have q := hk _ hl; rw [decide_eq_true hc] at q; exact q) (fun hc => by have q := hk _ hl; rw [decide_eq_false hc] at q; exact q)
      · exact lv_icmp_gt hx hb hdec ht (fun hc => by have q := hk _ hl; rw [decide_eq_true hc] at q; exact q) (fun hc => by have q := hk _ hl; rw [decide_eq_false hc] at q; exact q)
      · exact lv_icmp_le hx hb hdec ht (fun hc => by have q := hk _ hl; rw [decide_eq_true hc] at q; exact q) (fun hc => by have q := hk _ hl; rw [decide_eq_false hc] at q; exact q)
    · cases hs
  case ifCond cd off =>
    simp only [pm_stepA] at hs; split at hs
    · next x r =>
      cases cd <;> (simp only at hs; obtain ⟨t, ht, he⟩ := pm_br_ok hs; cases he; refine ⟨⟨rfl, rfl, rfl⟩, fun hk => ?_⟩)
      · exact lv_if_eq hx hb hdec ht (fun hc => by have q := hk _ hl; rw [decide_eq_true hc] at q; exact q) (fun hc => by have q := hk _ hl; rw [decide_eq_false hc] at q; exact q)
      · exact lv_if_ne hx hb hdec ht (fun hc => by have q := hk _ hl; rw [decide_eq_true hc] at q; exact q) (fun hc => by have q := hk _ hl; rw [decide_eq_false (fun hn => hn hc)] at q; exact q)
      · exact lv_if_lt hx hb hdec ht (fun hc => by have q := hk _ hl; rw [decide_eq_true hc] at q; exact q) (fun hc => by have q := hk _ hl; rw [decide_eq_false hc] at q; exact q)
      · exact lv_if_ge hx hb hdec ht (fun hc => by have q := hk _ hl; rw [decide_eq_true hc] at q; exact q) (fun hc => by have q := hk _ hl; rw [decide_eq_false hc] at q; exact q)
      · exact lv_if_gt hx hb hdec ht (fun hc => by have q := hk _ hl; rw [decide_eq_true hc] at q; exact q) (fun hc => by have q := hk _ hl; rw [decide_eq_false hc] at q; exact q)
      · exact lv_if_le hx hb hdec ht (fun hc => by have q := hk _ hl; rw [decide_eq_true hc] at q; exact q) (fun hc => by have q := hk _ hl; rw [decide_eq_false hc] at q; exact q)
    · cases hs
  all_goals exact absurd hs (by simp [pm_stepA])
end PMA
