set_option maxHeartbeats 8000000 in
theorem L_E_X6_advance_177_8 (s0 : xS) (pa : s0 177 4 ≤ s0 177 1)  : ∀ (n : Nat) (s : xS) (x1000 : Int) (x1001 : Int) (x1002 : Int) (x1003 : Int) (hG : GI s) (f : FL [1219, 1220, 1221] s0 s) (b_x1000 : 0 ≤ x1000 ∧ x1000 ≤ 160) (b_x1001 : 0 ≤ x1001 ∧ x1001 ≤ 3) (b_x1002 : 0 ≤ x1002 ∧ x1002 ≤ 160) (b_x1003 : 0 ≤ x1003 ∧ x1003 ≤ 160) (r_1003_1002 : x1003 ≤ x1002 + 0) (w_0 : x1000 = s0 177 1) (w_1 : 0 ≤ x1002 ∧ x1002 ≤ x1000) (w_2 : sk (s0 178) (s0 177 1) x1002 = sk (s0 178) (s0 177 1) (s0 177 4)) (e_x1000 : x1000 = s 177 1) (e_x1001 : x1001 = s 177 2) (e_x1002 : x1002 = s 177 3) (e_x1003 : x1003 = s 177 4)  (hm : (160 - x1002) < (n : Int)), xe none 51 8 [(0, .ref 177)] [] s 0 0 (fun s' v => GI s' ∧ FL [1219, 1220, 1221] s0 s' ∧ v = none ∧ (TK s' (s0 178) (s0 177 1) (sk (s0 178) (s0 177 1) (s0 177 4)))) := by
  intro n
  induction n with
  | zero => intro s x1000 x1001 x1002 x1003 hG f b_x1000 b_x1001 b_x1002 b_x1003 r_1003_1002 w_0 w_1 w_2 e_x1000 e_x1001 e_x1002 e_x1003  hm; exfalso; omega
  | succ n ih =>
    intro s x1000 x1001 x1002 x1003 hG f b_x1000 b_x1001 b_x1002 b_x1003 r_1003_1002 w_0 w_1 w_2 e_x1000 e_x1001 e_x1002 e_x1003  hm
    refine x_A k51_8 (fun _ => rfl) ?_
    refine x_getI k51_9 (f := 3) rfl (q := 177) (n := 7) (kd := 7) ⟨by decide, rfl⟩ (by decide) rfl ?_
    refine x_rw (e_x1002.symm) ?_
    refine x_A k51_12 (fun _ => rfl) ?_
    refine x_getI k51_13 (f := 1) rfl (q := 177) (n := 7) (kd := 7) ⟨by decide, rfl⟩ (by decide) rfl ?_
    refine x_rw (e_x1000.symm) ?_
    refine x_ic_ge k51_16 (t := 45) rfl (by first | exact x_rb b_x1002 rfl rfl | exact ⟨by omega, by omega⟩) (by first | exact x_rb b_x1000 rfl rfl | exact ⟨by omega, by omega⟩) (fun c213 => ?_) (fun c213 => ?_)
    · skip
      have hp : sk (s0 178) (s0 177 1) (s0 177 4) = x1002 := w_2.symm.trans (sk_n (by omega))
      refine x_A k51_45 (fun _ => rfl) ?_
      refine x_A k51_46 (fun _ => rfl) ?_
      refine x_A k51_47 (fun _ => rfl) ?_
      refine x_getI k51_48 (f := 3) rfl (q := 177) (n := 7) (kd := 7) ⟨by decide, rfl⟩ (by decide) rfl ?_
      refine x_rw (e_x1002.symm) ?_
      refine x_callV k51_51 (y := 49) (n := 1) (w0 := 1) (w1 := 1) (as := [vi x1002]) (rest := [.ref 177]) (by decide +kernel) (q := 177) (nq := 7) (kq := 7) ⟨by decide, rfl⟩ rfl rfl rfl rfl (xe_mono (E_X6_byteAt_177 s hG x1002 (by first | exact x_rb b_x1002 rfl rfl | exact ⟨by omega, by omega⟩)) ?_)
      rintro s215 v ⟨h_s215, z214, rfl, g_z214⟩
      rw [h_s215]
      show xe none 51 54 [(0, .ref 177)] [vi z214, .ref 177] s 0 0 _
      rw [(show s 178 = s0 178 from funext fun i => f 178 i (show 1280 ∉ [1219, 1220, 1221] from by decide +kernel))] at g_z214
      refine x_callS k51_54 (y := 50) (n := 1) (w0 := 1) (w1 := 1) (as := [vi z214]) (rest := [.ref 177]) (by decide +kernel) rfl rfl rfl rfl (xe_mono (E_X6_kindOf s hG z214 (by first | exact x_rbe e_z214 g_z214 rfl rfl | exact x_rb g_z214 rfl rfl | exact ⟨by omega, by omega⟩)) ?_)
      rintro s217 v ⟨h_s217, z216, rfl, g_z216⟩
      rw [h_s217]
      show xe none 51 57 [(0, .ref 177)] [vi z216, .ref 177] s 0 0 _
      refine x_putI k51_57 (f := 2) rfl (q := 177) (n := 7) (kd := 7) ⟨by decide, rfl⟩ rfl rfl rfl ?_
      refine x_nh (fun s218 e_s218 => ?_)
      have hG_s218 : GI s218 := by rw [e_s218]; exact hG.up (show 0 ≤ z216 ∧ z216 ≤ 3 from (by first | exact x_rbe e_z216 g_z216 rfl rfl | exact x_rb g_z216 rfl rfl | exact ⟨by omega, by omega⟩))
      have f_s218 : FL [1219, 1220, 1221] s0 s218 := by rw [e_s218]; exact f.up (show 1219 ∈ [1219, 1220, 1221] from by decide +kernel)
      have q219 : s218 177 1 = x1000 := by rw [e_s218, x_up_i (by decide)]; exact e_x1000.symm
      have q220 : s218 177 3 = x1002 := by rw [e_s218, x_up_i (by decide)]; exact e_x1002.symm
      have q221 : s218 177 4 = x1003 := by rw [e_s218, x_up_i (by decide)]; exact e_x1003.symm
      have q222 : s218 177 2 = z216 := by rw [e_s218]; exact x_up_same
      have hk : z216 = kd (s0 178) (s0 177 1) x1002 := by
        rcases kd_cs (T := s0 178) (n := s0 177 1) (p := x1002) with q | q | q | q <;> omega
      refine x_A k51_60 (fun _ => rfl) ?_
      refine x_A k51_61 (fun _ => rfl) ?_
      refine x_getI k51_62 (f := 3) rfl (q := 177) (n := 7) (kd := 7) ⟨by decide, rfl⟩ (by decide) rfl ?_
      refine x_rw (q220) ?_
      refine x_putI k51_65 (f := 4) rfl (q := 177) (n := 7) (kd := 7) ⟨by decide, rfl⟩ rfl rfl rfl ?_
      refine x_nh (fun s223 e_s223 => ?_)
      have hG_s223 : GI s223 := by rw [e_s223]; exact hG_s218.up (show 0 ≤ x1002 ∧ x1002 ≤ 160 from (by first | exact x_rb b_x1002 rfl rfl | exact ⟨by omega, by omega⟩))
      have f_s223 : FL [1219, 1220, 1221] s0 s223 := by rw [e_s223]; exact f_s218.up (show 1221 ∈ [1219, 1220, 1221] from by decide +kernel)
      have q224 : s223 177 1 = x1000 := by rw [e_s223, x_up_i (by decide)]; exact q219
      have q225 : s223 177 3 = x1002 := by rw [e_s223, x_up_i (by decide)]; exact q220
      have q226 : s223 177 2 = z216 := by rw [e_s223, x_up_i (by decide)]; exact q222
      have q227 : s223 177 4 = x1002 := by rw [e_s223]; exact x_up_same
      refine x_A k51_68 (fun _ => rfl) ?_
      refine x_getI k51_69 (f := 2) rfl (q := 177) (n := 7) (kd := 7) ⟨by decide, rfl⟩ (by decide) rfl ?_
      refine x_rw (q226) ?_
      refine x_if_ne k51_72 (t := 76) rfl (by first | exact x_rbe e_z216 g_z216 rfl rfl | exact x_rb g_z216 rfl rfl | exact ⟨by omega, by omega⟩) (fun c228 => ?_) (fun c228 => ?_)
      · skip
        refine x_A k51_76 (fun _ => rfl) ?_
        refine x_A k51_77 (fun _ => rfl) ?_
        refine x_getI k51_78 (f := 4) rfl (q := 177) (n := 7) (kd := 7) ⟨by decide, rfl⟩ (by decide) rfl ?_
        refine x_rw (q227) ?_
        refine x_A k51_81 (fun _ => rfl) ?_
        refine x_iadd k51_82 ?_
        refine x_top (fun z229 e_z229 => ?_)
        refine x_putI k51_83 (f := 4) rfl (q := 177) (n := 7) (kd := 7) ⟨by decide, rfl⟩ rfl rfl rfl ?_
        refine x_nh (fun s230 e_s230 => ?_)
        have hG_s230 : GI s230 := by rw [e_s230]; exact hG_s223.up (show 0 ≤ z229 ∧ z229 ≤ 160 from (by first | exact x_rbe e_z229 g_z229 rfl rfl | exact x_rb g_z229 rfl rfl | exact ⟨by omega, by omega⟩))
        have f_s230 : FL [1219, 1220, 1221] s0 s230 := by rw [e_s230]; exact f_s223.up (show 1221 ∈ [1219, 1220, 1221] from by decide +kernel)
        have q231 : s230 177 1 = x1000 := by rw [e_s230, x_up_i (by decide)]; exact q224
        have q232 : s230 177 3 = x1002 := by rw [e_s230, x_up_i (by decide)]; exact q225
        have q233 : s230 177 2 = z216 := by rw [e_s230, x_up_i (by decide)]; exact q226
        have q234 : s230 177 4 = z229 := by rw [e_s230]; exact x_up_same
        refine x_A k51_86 (fun _ => rfl) ?_
        refine x_getI k51_87 (f := 2) rfl (q := 177) (n := 7) (kd := 7) ⟨by decide, rfl⟩ (by decide) rfl ?_
        refine x_rw (q233) ?_
        refine x_A k51_90 (fun _ => rfl) ?_
        refine x_ic_ne k51_91 (t := 95) rfl (by first | exact x_rbe e_z216 g_z216 rfl rfl | exact x_rb g_z216 rfl rfl | exact ⟨by omega, by omega⟩) ⟨by decide, by decide⟩ (fun c235 => ?_) (fun c235 => ?_)
        · skip
          refine x_ls (l := [(0, .ref 177)]) (show ([0] : List Nat).Nodup from by decide +kernel) ⟨rfl, trivial⟩ ?_
          exact L_E_X6_advance_177_95 s0 pa  (((161 - z229) + 1 : Int)).toNat s230 x1000 z216 x1002 z229 hG_s230 f_s230 (by first | exact x_rb b_x1000 rfl rfl | exact ⟨by omega, by omega⟩) (by first | exact x_rbe e_z216 g_z216 rfl rfl | exact x_rb g_z216 rfl rfl | exact ⟨by omega, by omega⟩) (by first | exact x_rb b_x1002 rfl rfl | exact ⟨by omega, by omega⟩) (by first | exact x_rbe e_z229 g_z229 rfl rfl | exact x_rb g_z229 rfl rfl | exact ⟨by omega, by omega⟩) (by omega) (by omega) (by omega) (by omega) (by omega) hk hp (sk_n (by omega)) (by rw [te_rk hk (by omega), show z229 = x1002 + 1 by omega]) (q231).symm (q233).symm (q232).symm (q234).symm  (by omega)
        · skip
          exact x_vret k51_94 rfl ⟨hG_s230, f_s230, rfl, (by rw [hp]; exact ⟨⟨by omega, by omega⟩, sk_n (by omega), by omega, by rw [kd_3 (by omega) (by omega) (by omega)]; omega, by rw [te_3 (kd_3 (by omega) (by omega) (by omega))]; omega⟩)⟩
      · skip
        exact x_vret k51_75 rfl ⟨hG_s223, f_s223, rfl, (by rw [hp]; exact ⟨⟨by omega, by omega⟩, sk_n (by omega), by omega, by rw [kd_0 (by omega)]; omega, by rw [te_0 (kd_0 (by omega))]; omega⟩)⟩
    · skip
      refine x_A k51_19 (fun _ => rfl) ?_
      refine x_A k51_20 (fun _ => rfl) ?_
      refine x_getI k51_21 (f := 3) rfl (q := 177) (n := 7) (kd := 7) ⟨by decide, rfl⟩ (by decide) rfl ?_
      refine x_rw (e_x1002.symm) ?_
      refine x_callV k51_24 (y := 49) (n := 1) (w0 := 0) (w1 := 1) (as := [vi x1002]) (rest := []) (by decide +kernel) (q := 177) (nq := 7) (kq := 7) ⟨by decide, rfl⟩ rfl rfl rfl rfl (xe_mono (E_X6_byteAt_177 s hG x1002 (by first | exact x_rb b_x1002 rfl rfl | exact ⟨by omega, by omega⟩)) ?_)
      rintro s237 v ⟨h_s237, z236, rfl, g_z236⟩
      rw [h_s237]
      show xe none 51 27 [(0, .ref 177)] [vi z236] s 0 0 _
      rw [(show s 178 = s0 178 from funext fun i => f 178 i (show 1280 ∉ [1219, 1220, 1221] from by decide +kernel))] at g_z236
      refine x_bipush k51_27 (by decide +kernel) ?_
      refine x_ic_ne k51_29 (t := 45) rfl (by first | exact x_rbe e_z236 g_z236 rfl rfl | exact x_rb g_z236 rfl rfl | exact ⟨by omega, by omega⟩) ⟨by decide, by decide⟩ (fun c238 => ?_) (fun c238 => ?_)
      · skip
        have hp : sk (s0 178) (s0 177 1) (s0 177 4) = x1002 := w_2.symm.trans (sk_n (by omega))
        refine x_A k51_45 (fun _ => rfl) ?_
        refine x_A k51_46 (fun _ => rfl) ?_
        refine x_A k51_47 (fun _ => rfl) ?_
        refine x_getI k51_48 (f := 3) rfl (q := 177) (n := 7) (kd := 7) ⟨by decide, rfl⟩ (by decide) rfl ?_
        refine x_rw (e_x1002.symm) ?_
        refine x_callV k51_51 (y := 49) (n := 1) (w0 := 1) (w1 := 1) (as := [vi x1002]) (rest := [.ref 177]) (by decide +kernel) (q := 177) (nq := 7) (kq := 7) ⟨by decide, rfl⟩ rfl rfl rfl rfl (xe_mono (E_X6_byteAt_177 s hG x1002 (by first | exact x_rb b_x1002 rfl rfl | exact ⟨by omega, by omega⟩)) ?_)
        rintro s240 v ⟨h_s240, z239, rfl, g_z239⟩
        rw [h_s240]
        show xe none 51 54 [(0, .ref 177)] [vi z239, .ref 177] s 0 0 _
        rw [(show s 178 = s0 178 from funext fun i => f 178 i (show 1280 ∉ [1219, 1220, 1221] from by decide +kernel))] at g_z239
        refine x_callS k51_54 (y := 50) (n := 1) (w0 := 1) (w1 := 1) (as := [vi z239]) (rest := [.ref 177]) (by decide +kernel) rfl rfl rfl rfl (xe_mono (E_X6_kindOf s hG z239 (by first | exact x_rbe e_z239 g_z239 rfl rfl | exact x_rb g_z239 rfl rfl | exact ⟨by omega, by omega⟩)) ?_)
        rintro s242 v ⟨h_s242, z241, rfl, g_z241⟩
        rw [h_s242]
        show xe none 51 57 [(0, .ref 177)] [vi z241, .ref 177] s 0 0 _
        refine x_putI k51_57 (f := 2) rfl (q := 177) (n := 7) (kd := 7) ⟨by decide, rfl⟩ rfl rfl rfl ?_
        refine x_nh (fun s243 e_s243 => ?_)
        have hG_s243 : GI s243 := by rw [e_s243]; exact hG.up (show 0 ≤ z241 ∧ z241 ≤ 3 from (by first | exact x_rbe e_z241 g_z241 rfl rfl | exact x_rb g_z241 rfl rfl | exact ⟨by omega, by omega⟩))
        have f_s243 : FL [1219, 1220, 1221] s0 s243 := by rw [e_s243]; exact f.up (show 1219 ∈ [1219, 1220, 1221] from by decide +kernel)
        have q244 : s243 177 1 = x1000 := by rw [e_s243, x_up_i (by decide)]; exact e_x1000.symm
        have q245 : s243 177 3 = x1002 := by rw [e_s243, x_up_i (by decide)]; exact e_x1002.symm
        have q246 : s243 177 4 = x1003 := by rw [e_s243, x_up_i (by decide)]; exact e_x1003.symm
        have q247 : s243 177 2 = z241 := by rw [e_s243]; exact x_up_same
        have hk : z241 = kd (s0 178) (s0 177 1) x1002 := by
          rcases kd_cs (T := s0 178) (n := s0 177 1) (p := x1002) with q | q | q | q <;> omega
        refine x_A k51_60 (fun _ => rfl) ?_
        refine x_A k51_61 (fun _ => rfl) ?_
        refine x_getI k51_62 (f := 3) rfl (q := 177) (n := 7) (kd := 7) ⟨by decide, rfl⟩ (by decide) rfl ?_
        refine x_rw (q245) ?_
        refine x_putI k51_65 (f := 4) rfl (q := 177) (n := 7) (kd := 7) ⟨by decide, rfl⟩ rfl rfl rfl ?_
        refine x_nh (fun s248 e_s248 => ?_)
        have hG_s248 : GI s248 := by rw [e_s248]; exact hG_s243.up (show 0 ≤ x1002 ∧ x1002 ≤ 160 from (by first | exact x_rb b_x1002 rfl rfl | exact ⟨by omega, by omega⟩))
        have f_s248 : FL [1219, 1220, 1221] s0 s248 := by rw [e_s248]; exact f_s243.up (show 1221 ∈ [1219, 1220, 1221] from by decide +kernel)
        have q249 : s248 177 1 = x1000 := by rw [e_s248, x_up_i (by decide)]; exact q244
        have q250 : s248 177 3 = x1002 := by rw [e_s248, x_up_i (by decide)]; exact q245
        have q251 : s248 177 2 = z241 := by rw [e_s248, x_up_i (by decide)]; exact q247
        have q252 : s248 177 4 = x1002 := by rw [e_s248]; exact x_up_same
        refine x_A k51_68 (fun _ => rfl) ?_
        refine x_getI k51_69 (f := 2) rfl (q := 177) (n := 7) (kd := 7) ⟨by decide, rfl⟩ (by decide) rfl ?_
        refine x_rw (q251) ?_
        refine x_if_ne k51_72 (t := 76) rfl (by first | exact x_rbe e_z241 g_z241 rfl rfl | exact x_rb g_z241 rfl rfl | exact ⟨by omega, by omega⟩) (fun c253 => ?_) (fun c253 => ?_)
        · skip
          refine x_A k51_76 (fun _ => rfl) ?_
          refine x_A k51_77 (fun _ => rfl) ?_
          refine x_getI k51_78 (f := 4) rfl (q := 177) (n := 7) (kd := 7) ⟨by decide, rfl⟩ (by decide) rfl ?_
          refine x_rw (q252) ?_
          refine x_A k51_81 (fun _ => rfl) ?_
          refine x_iadd k51_82 ?_
          refine x_top (fun z254 e_z254 => ?_)
          refine x_putI k51_83 (f := 4) rfl (q := 177) (n := 7) (kd := 7) ⟨by decide, rfl⟩ rfl rfl rfl ?_
          refine x_nh (fun s255 e_s255 => ?_)
          have hG_s255 : GI s255 := by rw [e_s255]; exact hG_s248.up (show 0 ≤ z254 ∧ z254 ≤ 160 from (by first | exact x_rbe e_z254 g_z254 rfl rfl | exact x_rb g_z254 rfl rfl | exact ⟨by omega, by omega⟩))
          have f_s255 : FL [1219, 1220, 1221] s0 s255 := by rw [e_s255]; exact f_s248.up (show 1221 ∈ [1219, 1220, 1221] from by decide +kernel)
          have q256 : s255 177 1 = x1000 := by rw [e_s255, x_up_i (by decide)]; exact q249
          have q257 : s255 177 3 = x1002 := by rw [e_s255, x_up_i (by decide)]; exact q250
          have q258 : s255 177 2 = z241 := by rw [e_s255, x_up_i (by decide)]; exact q251
          have q259 : s255 177 4 = z254 := by rw [e_s255]; exact x_up_same
          refine x_A k51_86 (fun _ => rfl) ?_
          refine x_getI k51_87 (f := 2) rfl (q := 177) (n := 7) (kd := 7) ⟨by decide, rfl⟩ (by decide) rfl ?_
          refine x_rw (q258) ?_
          refine x_A k51_90 (fun _ => rfl) ?_
          refine x_ic_ne k51_91 (t := 95) rfl (by first | exact x_rbe e_z241 g_z241 rfl rfl | exact x_rb g_z241 rfl rfl | exact ⟨by omega, by omega⟩) ⟨by decide, by decide⟩ (fun c260 => ?_) (fun c260 => ?_)
          · skip
            refine x_ls (l := [(0, .ref 177)]) (show ([0] : List Nat).Nodup from by decide +kernel) ⟨rfl, trivial⟩ ?_
            exact L_E_X6_advance_177_95 s0 pa  (((161 - z254) + 1 : Int)).toNat s255 x1000 z241 x1002 z254 hG_s255 f_s255 (by first | exact x_rb b_x1000 rfl rfl | exact ⟨by omega, by omega⟩) (by first | exact x_rbe e_z241 g_z241 rfl rfl | exact x_rb g_z241 rfl rfl | exact ⟨by omega, by omega⟩) (by first | exact x_rb b_x1002 rfl rfl | exact ⟨by omega, by omega⟩) (by first | exact x_rbe e_z254 g_z254 rfl rfl | exact x_rb g_z254 rfl rfl | exact ⟨by omega, by omega⟩) (by omega) (by omega) (by omega) (by omega) (by omega) hk hp (sk_n (by omega)) (by rw [te_rk hk (by omega), show z254 = x1002 + 1 by omega]) (q256).symm (q258).symm (q257).symm (q259).symm  (by omega)
          · skip
            exact x_vret k51_94 rfl ⟨hG_s255, f_s255, rfl, (by rw [hp]; exact ⟨⟨by omega, by omega⟩, sk_n (by omega), by omega, by rw [kd_3 (by omega) (by omega) (by omega)]; omega, by rw [te_3 (kd_3 (by omega) (by omega) (by omega))]; omega⟩)⟩
        · skip
          exact x_vret k51_75 rfl ⟨hG_s248, f_s248, rfl, (by rw [hp]; exact ⟨⟨by omega, by omega⟩, sk_n (by omega), by omega, by rw [kd_0 (by omega)]; omega, by rw [te_0 (kd_0 (by omega))]; omega⟩)⟩
      · skip
        refine x_A k51_32 (fun _ => rfl) ?_
        refine x_A k51_33 (fun _ => rfl) ?_
        refine x_getI k51_34 (f := 3) rfl (q := 177) (n := 7) (kd := 7) ⟨by decide, rfl⟩ (by decide) rfl ?_
        refine x_rw (e_x1002.symm) ?_
        refine x_A k51_37 (fun _ => rfl) ?_
        refine x_iadd k51_38 ?_
        refine x_top (fun z261 e_z261 => ?_)
        refine x_putI k51_39 (f := 3) rfl (q := 177) (n := 7) (kd := 7) ⟨by decide, rfl⟩ rfl rfl rfl ?_
        refine x_nh (fun s262 e_s262 => ?_)
        have hG_s262 : GI s262 := by rw [e_s262]; exact hG.up (show 0 ≤ z261 ∧ z261 ≤ 160 from (by first | exact x_rbe e_z261 g_z261 rfl rfl | exact x_rb g_z261 rfl rfl | exact ⟨by omega, by omega⟩))
        have f_s262 : FL [1219, 1220, 1221] s0 s262 := by rw [e_s262]; exact f.up (show 1220 ∈ [1219, 1220, 1221] from by decide +kernel)
        have q263 : s262 177 1 = x1000 := by rw [e_s262, x_up_i (by decide)]; exact e_x1000.symm
        have q264 : s262 177 2 = x1001 := by rw [e_s262, x_up_i (by decide)]; exact e_x1001.symm
        have q265 : s262 177 4 = x1003 := by rw [e_s262, x_up_i (by decide)]; exact e_x1003.symm
        have q266 : s262 177 3 = z261 := by rw [e_s262]; exact x_up_same
        refine x_goto k51_42 (t := 8) rfl ?_
        refine x_ls (l := [(0, .ref 177)]) (show ([0] : List Nat).Nodup from by decide +kernel) ⟨rfl, trivial⟩ ?_
        exact ih s262 x1000 x1001 z261 x1003 hG_s262 f_s262 (by first | exact x_rb b_x1000 rfl rfl | exact ⟨by omega, by omega⟩) (by first | exact x_rb b_x1001 rfl rfl | exact ⟨by omega, by omega⟩) (by first | exact x_rbe e_z261 g_z261 rfl rfl | exact x_rb g_z261 rfl rfl | exact ⟨by omega, by omega⟩) (by first | exact x_rb b_x1003 rfl rfl | exact ⟨by omega, by omega⟩) (by omega) (by omega) (by omega) (by rw [show z261 = x1002 + 1 by omega]; exact (sk_y (by omega) (by omega)).symm.trans w_2) (q263).symm (q264).symm (q266).symm (q265).symm  (by omega)
set_option maxHeartbeats 8000000 in
theorem E_X6_advance_177 (s0 : xS) (hG0 : GI s0) (pa : s0 177 4 ≤ s0 177 1) : xe none 51 0 (lv_args 0 [.ref 177]) [] s0 0 0 (fun s' v => GI s' ∧ FL [1219, 1220, 1221] s0 s' ∧ v = none ∧ (TK s' (s0 178) (s0 177 1) (sk (s0 178) (s0 177 1) (s0 177 4)))) := by
  have f0 : FL [1219, 1220, 1221] s0 s0 := FL.rf
  show xe none 51 0 [(0, .ref 177)] [] s0 0 0 _
  obtain ⟨z267, e_z267⟩ : ∃ z, z = s0 177 1 := ⟨_, rfl⟩
  have g_z267 : (0 : Int) ≤ s0 177 1 ∧ s0 177 1 ≤ 160 := hG0 177 1
  obtain ⟨z268, e_z268⟩ : ∃ z, z = s0 177 4 := ⟨_, rfl⟩
  have g_z268 : (0 : Int) ≤ s0 177 4 ∧ s0 177 4 ≤ 160 := hG0 177 4
  refine x_A k51_0 (fun _ => rfl) ?_
  refine x_A k51_1 (fun _ => rfl) ?_
  refine x_getI k51_2 (f := 4) rfl (q := 177) (n := 7) (kd := 7) ⟨by decide, rfl⟩ (by decide) rfl ?_
  refine x_rw (e_z268.symm) ?_
  refine x_putI k51_5 (f := 3) rfl (q := 177) (n := 7) (kd := 7) ⟨by decide, rfl⟩ rfl rfl rfl ?_
  refine x_nh (fun s269 e_s269 => ?_)
  have hG_s269 : GI s269 := by rw [e_s269]; exact hG0.up (show 0 ≤ z268 ∧ z268 ≤ 160 from (by first | exact x_rbe e_z268 g_z268 rfl rfl | exact x_rb g_z268 rfl rfl | exact ⟨by omega, by omega⟩))
  have f_s269 : FL [1219, 1220, 1221] s0 s269 := by rw [e_s269]; exact f0.up (show 1220 ∈ [1219, 1220, 1221] from by decide +kernel)
  have q270 : s269 177 1 = z267 := by rw [e_s269, x_up_i (by decide)]; exact e_z267.symm
  have q271 : s269 177 4 = z268 := by rw [e_s269, x_up_i (by decide)]; exact e_z268.symm
  have q272 : s269 177 3 = z268 := by rw [e_s269]; exact x_up_same
  obtain ⟨z273, e_z273⟩ : ∃ z, z = s269 177 2 := ⟨_, rfl⟩
  have g_z273 : (0 : Int) ≤ s269 177 2 ∧ s269 177 2 ≤ 3 := hG_s269 177 2
  refine x_ls (l := [(0, .ref 177)]) (show ([0] : List Nat).Nodup from by decide +kernel) ⟨rfl, trivial⟩ ?_
  exact L_E_X6_advance_177_8 s0 pa  (((160 - z268) + 1 : Int)).toNat s269 z267 z273 z268 z268 hG_s269 f_s269 (by first | exact x_rbe e_z267 g_z267 rfl rfl | exact x_rb g_z267 rfl rfl | exact ⟨by omega, by omega⟩) (by first | exact x_rbe e_z273 g_z273 rfl rfl | exact x_rb g_z273 rfl rfl | exact ⟨by omega, by omega⟩) (by first | exact x_rbe e_z268 g_z268 rfl rfl | exact x_rb g_z268 rfl rfl | exact ⟨by omega, by omega⟩) (by first | exact x_rbe e_z268 g_z268 rfl rfl | exact x_rb g_z268 rfl rfl | exact ⟨by omega, by omega⟩) (by omega) (by omega) (by omega) (by rw [show z268 = s0 177 4 by omega]) (q270).symm (e_z273.symm).symm (q272).symm (q271).symm  (by omega)
set_option maxHeartbeats 8000000 in
theorem L_E_X6_takeNumber_177_57 (s0 : xS) (a : Int) (b_a : (-2147483648) ≤ a ∧ a ≤ 2147483647) (b : Int) (b_b : (-2147483648) ≤ b ∧ b ≤ 2147483647) (d : Int) (b_d : 1 ≤ d ∧ d ≤ 3)  : ∀ (n : Nat) (s : xS) (x1 : Int) (x2 : Int) (x3 : Int) (x4 : Int) (x5 : Int) (x1000 : Int) (x1001 : Int) (x1002 : Int) (x1003 : Int) (hG : GI s) (f : FL [1219, 1220, 1221, 1222, 1223] s0 s) (b_x1 : (-2147483648) ≤ x1 ∧ x1 ≤ 2147483647) (b_x2 : (-2147483648) ≤ x2 ∧ x2 ≤ 2147483647) (b_x3 : 1 ≤ x3 ∧ x3 ≤ 3) (b_x4 : (-49) ≤ x4 ∧ x4 ≤ 1197) (b_x5 : 0 ≤ x5 ∧ x5 ≤ 160) (b_x1000 : 0 ≤ x1000 ∧ x1000 ≤ 160) (b_x1001 : 0 ≤ x1001 ∧ x1001 ≤ 160) (b_x1002 : 0 ≤ x1002 ∧ x1002 ≤ 160) (b_x1003 : 0 ≤ x1003 ∧ x1003 ≤ 0) (r_1001_5 : x1001 ≤ x5 + 0) (r_1003_5 : x1003 ≤ x5 + 0) (r_1003_3 : x1003 ≤ x3 + 0) (r_1003_1000 : x1003 ≤ x1000 + 0) (r_1003_1001 : x1003 ≤ x1001 + 0) (r_1003_1002 : x1003 ≤ x1002 + 0) (w_0 : x1 = a ∧ x2 = b ∧ x3 = d) (w_1 : x1000 = s0 177 1 ∧ x1001 = s0 177 3 ∧ x1002 = te (s0 178) (s0 177 1) (s0 177 3) ∧ x1003 = 0 ∧ s0 177 5 = 0 ∧ s 177 6 = s0 177 6) (w_2 : 0 ≤ s0 177 3 ∧ s0 177 3 ≤ x5 ∧ x5 ≤ x1002 ∧ x1002 ≤ x1000 ∧ x1002 - s0 177 3 ≤ d ∧ 1 ≤ d ∧ d ≤ 3) (w_3 : x4 = nv (s0 178) (s0 177 3) (x5 - s0 177 3).toNat) (w_4 : x4 = x4) (w_5 : s 177 2 = s0 177 2) (w_6 : kd (s0 178) (s0 177 1) (s0 177 3) = 2) (w_7 : s 178 = s0 178) (e_x1000 : x1000 = s 177 1) (e_x1001 : x1001 = s 177 3) (e_x1002 : x1002 = s 177 4) (e_x1003 : x1003 = s 177 5) (i_TK : TKs s)  (hm : (160 - x5) < (n : Int)), xe none 57 57 [(0, .ref 177), (1, vi x1), (2, vi x2), (3, vi x3), (4, vi x4), (5, vi x5)] [] s 0 0 (fun s' v => GI s' ∧ FL [1219, 1220, 1221, 1222, 1223] s0 s' ∧ ∃ z, v = some (vi z) ∧ ((-2147483648) ≤ z ∧ z ≤ 2147483647) ∧ (NmC s0 s' a b d z ∧ (s' 177 5 = 0 → s0 177 5 = 0 ∧ a ≤ z ∧ z ≤ b) ∧ (z = -1 ∨ (a ≤ z ∧ z ≤ b))) ∧ TKs s') := by
  intro n
  induction n with
  | zero => intro s x1 x2 x3 x4 x5 x1000 x1001 x1002 x1003 hG f b_x1 b_x2 b_x3 b_x4 b_x5 b_x1000 b_x1001 b_x1002 b_x1003 r_1001_5 r_1003_5 r_1003_3 r_1003_1000 r_1003_1001 r_1003_1002 w_0 w_1 w_2 w_3 w_4 w_5 w_6 w_7 e_x1000 e_x1001 e_x1002 e_x1003 i_TK  hm; exfalso; omega
  | succ n ih =>
    intro s x1 x2 x3 x4 x5 x1000 x1001 x1002 x1003 hG f b_x1 b_x2 b_x3 b_x4 b_x5 b_x1000 b_x1001 b_x1002 b_x1003 r_1001_5 r_1003_5 r_1003_3 r_1003_1000 r_1003_1001 r_1003_1002 w_0 w_1 w_2 w_3 w_4 w_5 w_6 w_7 e_x1000 e_x1001 e_x1002 e_x1003 i_TK  hm
    refine x_A k57_57 (fun _ => rfl) ?_
    refine x_A k57_59 (fun _ => rfl) ?_
    refine x_getI k57_60 (f := 4) rfl (q := 177) (n := 7) (kd := 7) ⟨by decide, rfl⟩ (by decide) rfl ?_
    refine x_rw (e_x1002.symm) ?_
    refine x_ic_ge k57_63 (t := 89) rfl (by first | exact x_rb b_x5 rfl rfl | exact ⟨by omega, by omega⟩) (by first | exact x_rb b_x1002 rfl rfl | exact ⟨by omega, by omega⟩) (fun c216 => ?_) (fun c216 => ?_)
    · skip
      have ex : x5 = te (s0 178) (s0 177 1) (s0 177 3) := by omega
      rw [ex] at w_3
      have nb := nv_d (n := s0 177 1) (x := te (s0 178) (s0 177 1) (s0 177 3)) w_6 (by omega) (by omega)
      refine x_A k57_89 (fun _ => rfl) ?_
      refine x_A k57_91 (fun _ => rfl) ?_
      refine x_A k57_92 (fun _ => rfl) ?_
      refine x_callS k57_93 (y := 121) (n := 3) (w0 := 0) (w1 := 3) (as := [vi x4, vi x1, vi x2]) (rest := []) (by decide +kernel) rfl rfl rfl rfl (xe_mono (C_X10_isWithin s hG x4 (by first | exact x_rb b_x4 rfl rfl | exact ⟨by omega, by omega⟩) x1 (by first | exact x_rb b_x1 rfl rfl | exact ⟨by omega, by omega⟩) x2 (by first | exact x_rb b_x2 rfl rfl | exact ⟨by omega, by omega⟩)) ?_)
      rintro s218 v ⟨h_s218, z217, rfl, hz_z217⟩
      rw [h_s218]
      rcases hz_z217 with ⟨c_z217, e_z217⟩ | ⟨c_z217, e_z217⟩
      · rw [e_z217]
        show xe none 57 96 [(0, .ref 177), (1, vi x1), (2, vi x2), (3, vi x3), (4, vi x4), (5, vi x5)] [vi 1] s 0 0 _
        refine x_if_ne k57_96 (t := 108) rfl ⟨by decide, by decide⟩ (fun c219 => ?_) (fun c219 => by exfalso; omega)
        refine x_A k57_108 (fun _ => rfl) ?_
        refine x_getI k57_109 (f := 5) rfl (q := 177) (n := 7) (kd := 7) ⟨by decide, rfl⟩ (by decide) rfl ?_
        refine x_rw (e_x1003.symm) ?_
        refine x_if_eq k57_112 (t := 117) rfl (by first | exact x_rb b_x1003 rfl rfl | exact ⟨by omega, by omega⟩) (fun c220 => ?_) (fun c220 => by exfalso; omega)
        have nf : numf (s0 178) (s0 177 1) (s0 177 3) a b d 2 = 0 := numf_0 w_6 (by omega) (by omega)
        obtain ⟨z221, e_z221⟩ : ∃ z, z = s 177 6 := ⟨_, rfl⟩
        have g_z221 : (-2147483648) ≤ s 177 6 ∧ s 177 6 ≤ 2147483647 := hG 177 6
        refine x_A k57_117 (fun _ => rfl) ?_
        refine x_callV k57_118 (y := 51) (n := 0) (w0 := 0) (w1 := 0) (as := []) (rest := []) (by decide +kernel) (q := 177) (nq := 7) (kq := 7) ⟨by decide, rfl⟩ rfl rfl rfl rfl (xe_mono (E_X6_advance_177 s hG (by omega)) ?_)
        rintro s223 v ⟨hG_s223, t_s223, rfl, xp_z222⟩
        have f_s223 : FL [1219, 1220, 1221, 1222, 1223] s0 s223 := f.tr t_s223 (by decide +kernel)
        have q224 : s223 177 1 = x1000 := (t_s223 177 1 (show 1218 ∉ [1219, 1220, 1221] from by decide +kernel)).trans e_x1000.symm
        have q225 : s223 177 5 = x1003 := (t_s223 177 5 (show 1222 ∉ [1219, 1220, 1221] from by decide +kernel)).trans e_x1003.symm
        have q226 : s223 177 6 = z221 := (t_s223 177 6 (show 1223 ∉ [1219, 1220, 1221] from by decide +kernel)).trans e_z221.symm
        show xe none 57 121 [(0, .ref 177), (1, vi x1), (2, vi x2), (3, vi x3), (4, vi x4), (5, vi x5)] [] s223 0 0 _
        have tq := xp_z222
        rw [w_7, show s 177 1 = s0 177 1 by omega, show s 177 4 = te (s0 178) (s0 177 1) (s0 177 3) by omega] at tq
        have TK_n : TKs s223 := TK.s tq (show s223 178 = s0 178 from funext fun i => f_s223 178 i (show 1280 ∉ [1219, 1220, 1221, 1222, 1223] from by decide +kernel)) (by omega)
        unfold TK at tq
        refine x_A k57_121 (fun _ => rfl) ?_
        obtain ⟨z227, e_z227⟩ : ∃ z, z = s223 177 3 := ⟨_, rfl⟩
        have g_z227 : (0 : Int) ≤ s223 177 3 ∧ s223 177 3 ≤ 160 := hG_s223 177 3
        exact x_iret k57_123 rfl ⟨hG_s223, f_s223, x4, rfl, (by first | exact x_rb b_x4 rfl rfl | exact ⟨by omega, by omega⟩), ⟨(by unfold NmC NmR nva nx; omega), by omega, by omega⟩, TK_n⟩
      · rw [e_z217]
        show xe none 57 96 [(0, .ref 177), (1, vi x1), (2, vi x2), (3, vi x3), (4, vi x4), (5, vi x5)] [vi 0] s 0 0 _
        refine x_if_ne k57_96 (t := 108) rfl ⟨by decide, by decide⟩ (fun c228 => by exfalso; omega) (fun c228 => ?_)
        have nf : numf (s0 178) (s0 177 1) (s0 177 3) a b d 2 = 2 := numf_3 w_6 (by omega) (by omega)
        refine x_A k57_99 (fun _ => rfl) ?_
        refine x_A k57_100 (fun _ => rfl) ?_
        refine x_A k57_101 (fun _ => rfl) ?_
        refine x_getI k57_102 (f := 3) rfl (q := 177) (n := 7) (kd := 7) ⟨by decide, rfl⟩ (by decide) rfl ?_
        refine x_rw (e_x1001.symm) ?_
        refine x_callV k57_105 (y := 52) (n := 2) (w0 := 0) (w1 := 2) (as := [vi 2, vi x1001]) (rest := []) (by decide +kernel) (q := 177) (nq := 7) (kq := 7) ⟨by decide, rfl⟩ rfl rfl rfl rfl (xe_mono (E_X6_fail_177 s hG 2 ⟨by decide, by decide⟩ x1001 (by first | exact x_rb b_x1001 rfl rfl | exact ⟨by omega, by omega⟩)) ?_)
        rintro s230 v ⟨hG_s230, t_s230, rfl, xp_z229⟩
        have f_s230 : FL [1219, 1220, 1221, 1222, 1223] s0 s230 := f.tr t_s230 (by decide +kernel)
        have q231 : s230 177 1 = x1000 := (t_s230 177 1 (show 1218 ∉ [1222, 1223] from by decide +kernel)).trans e_x1000.symm
        have q232 : s230 177 3 = x1001 := (t_s230 177 3 (show 1220 ∉ [1222, 1223] from by decide +kernel)).trans e_x1001.symm
        have q233 : s230 177 4 = x1002 := (t_s230 177 4 (show 1221 ∉ [1222, 1223] from by decide +kernel)).trans e_x1002.symm
        have TK_s230 : TKs s230 := TKs.fl i_TK t_s230 (by decide +kernel)
        obtain ⟨z234, e_z234⟩ : ∃ z, z = s230 177 5 := ⟨_, rfl⟩
        have g_z234 : (0 : Int) ≤ s230 177 5 ∧ s230 177 5 ≤ 5 := hG_s230 177 5
        obtain ⟨z235, e_z235⟩ : ∃ z, z = s230 177 6 := ⟨_, rfl⟩
        have g_z235 : (-2147483648) ≤ s230 177 6 ∧ s230 177 6 ≤ 2147483647 := hG_s230 177 6
        show xe none 57 108 [(0, .ref 177), (1, vi x1), (2, vi x2), (3, vi x3), (4, vi x4), (5, vi x5)] [] s230 0 0 _
        refine x_A k57_108 (fun _ => rfl) ?_
        refine x_getI k57_109 (f := 5) rfl (q := 177) (n := 7) (kd := 7) ⟨by decide, rfl⟩ (by decide) rfl ?_
        refine x_rw (e_z234.symm) ?_
        refine x_if_eq k57_112 (t := 117) rfl (by first | exact x_rbe e_z234 g_z234 rfl rfl | exact x_rb g_z234 rfl rfl | exact ⟨by omega, by omega⟩) (fun c236 => by exfalso; omega) (fun c236 => ?_)
        refine x_A k57_115 (fun _ => rfl) ?_
        exact x_iret k57_116 rfl ⟨hG_s230, f_s230, (-1), rfl, ⟨by decide, by decide⟩, ⟨(by unfold NmC NmR nva nx; omega), by omega, by omega⟩, TK_s230⟩
    · skip
      have nb := nv_d (x := x5) w_6 (by omega) (by omega)
      have ns := nv_s (T := s0 178) (p := s0 177 3) (x := x5) (by omega)
      refine x_bipush k57_66 (by decide +kernel) ?_
      refine x_A k57_68 (fun _ => rfl) ?_
      refine x_imul k57_70 ?_
      refine x_top (fun z237 e_z237 => ?_)
      refine x_A k57_71 (fun _ => rfl) ?_
      refine x_A k57_72 (fun _ => rfl) ?_
      refine x_callV k57_74 (y := 49) (n := 1) (w0 := 1) (w1 := 1) (as := [vi x5]) (rest := [vi z237]) (by decide +kernel) (q := 177) (nq := 7) (kq := 7) ⟨by decide, rfl⟩ rfl rfl rfl rfl (xe_mono (E_X6_byteAt_177 s hG x5 (by first | exact x_rb b_x5 rfl rfl | exact ⟨by omega, by omega⟩)) ?_)
      rintro s239 v ⟨h_s239, z238, rfl, g_z238⟩
      rw [h_s239]
      show xe none 57 77 [(0, .ref 177), (1, vi x1), (2, vi x2), (3, vi x3), (4, vi x4), (5, vi x5)] [vi z238, vi z237] s 0 0 _
      rw [(show s 178 = s0 178 from funext fun i => f 178 i (show 1280 ∉ [1219, 1220, 1221, 1222, 1223] from by decide +kernel))] at g_z238
      refine x_iadd k57_77 ?_
      refine x_top (fun z240 e_z240 => ?_)
      refine x_bipush k57_78 (by decide +kernel) ?_
      refine x_isub k57_80 ?_
      refine x_top (fun z241 e_z241 => ?_)
      refine x_istore k57_81 (ls' := [(4, vi z241), (0, .ref 177), (1, vi x1), (2, vi x2), (3, vi x3), (5, vi x5)]) (by decide) rfl ?_
      refine x_iinc k57_83 (ls' := [(5, vi (x5 + 1)), (4, vi z241), (0, .ref 177), (1, vi x1), (2, vi x2), (3, vi x3)]) rfl (by decide) rfl ?_
      refine x_goto k57_86 (t := 57) rfl ?_
      refine x_ls (l := [(0, .ref 177), (1, vi x1), (2, vi x2), (3, vi x3), (4, vi z241), (5, vi (x5 + 1))]) (show ([0, 1, 2, 3, 4, 5] : List Nat).Nodup from by decide +kernel) ⟨rfl, rfl, rfl, rfl, rfl, rfl, trivial⟩ ?_
      exact ih s x1 x2 x3 z241 (x5 + 1) x1000 x1001 x1002 x1003 hG f (by first | exact x_rb b_x1 rfl rfl | exact ⟨by omega, by omega⟩) (by first | exact x_rb b_x2 rfl rfl | exact ⟨by omega, by omega⟩) (by first | exact x_rb b_x3 rfl rfl | exact ⟨by omega, by omega⟩) (by first | exact x_rbe e_z241 g_z241 rfl rfl | exact x_rb g_z241 rfl rfl | exact ⟨by omega, by omega⟩) ⟨by omega, by omega⟩ (by first | exact x_rb b_x1000 rfl rfl | exact ⟨by omega, by omega⟩) (by first | exact x_rb b_x1001 rfl rfl | exact ⟨by omega, by omega⟩) (by first | exact x_rb b_x1002 rfl rfl | exact ⟨by omega, by omega⟩) (by first | exact x_rb b_x1003 rfl rfl | exact ⟨by omega, by omega⟩) (by omega) (by omega) (by omega) (by omega) (by omega) (by omega) (by omega) (by omega) (by omega) (by omega) (by omega) (by omega) w_6 w_7 (e_x1000.symm).symm (e_x1001.symm).symm (e_x1002.symm).symm (e_x1003.symm).symm i_TK  (by omega)
set_option maxHeartbeats 8000000 in
theorem E_X6_takeNumber_177 (s0 : xS) (hG0 : GI s0) (a : Int) (b_a : (-2147483648) ≤ a ∧ a ≤ 2147483647) (b : Int) (b_b : (-2147483648) ≤ b ∧ b ≤ 2147483647) (d : Int) (b_d : 1 ≤ d ∧ d ≤ 3) (i0_TK : TKs s0) : xe none 57 0 (lv_args 0 [.ref 177, vi a, vi b, vi d]) [] s0 0 0 (fun s' v => GI s' ∧ FL [1219, 1220, 1221, 1222, 1223] s0 s' ∧ ∃ z, v = some (vi z) ∧ ((-2147483648) ≤ z ∧ z ≤ 2147483647) ∧ (NmC s0 s' a b d z ∧ (s' 177 5 = 0 → s0 177 5 = 0 ∧ a ≤ z ∧ z ≤ b) ∧ (z = -1 ∨ (a ≤ z ∧ z ≤ b))) ∧ TKs s') := by
  have f0 : FL [1219, 1220, 1221, 1222, 1223] s0 s0 := FL.rf
  show xe none 57 0 [(0, .ref 177), (1, vi a), (2, vi b), (3, vi d)] [] s0 0 0 _
  have tk := i0_TK
  unfold TKs TK at tk
  have tl := te_le (T := s0 178) (n := s0 177 1) (p := s0 177 3)
  refine x_A k57_0 (fun _ => rfl) ?_
  refine x_getI k57_1 (f := 2) rfl (q := 177) (n := 7) (kd := 7) ⟨by decide, rfl⟩ (by decide) rfl ?_
  refine x_top (fun z242 e_z242 => ?_)
  have g_z242 : (0 : Int) ≤ s0 177 2 ∧ s0 177 2 ≤ 3 := hG0 177 2
  refine x_A k57_4 (fun _ => rfl) ?_
  refine x_ic_eq k57_5 (t := 17) rfl (by first | exact x_rbe e_z242 g_z242 rfl rfl | exact x_rb g_z242 rfl rfl | exact ⟨by omega, by omega⟩) ⟨by decide, by decide⟩ (fun c243 => ?_) (fun c243 => ?_)
  · skip
    refine x_A k57_17 (fun _ => rfl) ?_
    refine x_getI k57_18 (f := 4) rfl (q := 177) (n := 7) (kd := 7) ⟨by decide, rfl⟩ (by decide) rfl ?_
    refine x_top (fun z244 e_z244 => ?_)
    have g_z244 : (0 : Int) ≤ s0 177 4 ∧ s0 177 4 ≤ 160 := hG0 177 4
    refine x_A k57_21 (fun _ => rfl) ?_
    refine x_getI k57_22 (f := 3) rfl (q := 177) (n := 7) (kd := 7) ⟨by decide, rfl⟩ (by decide) rfl ?_
    refine x_top (fun z245 e_z245 => ?_)
    have g_z245 : (0 : Int) ≤ s0 177 3 ∧ s0 177 3 ≤ 160 := hG0 177 3
    refine x_isub k57_25 ?_
    refine x_top (fun z246 e_z246 => ?_)
    refine x_A k57_26 (fun _ => rfl) ?_
    refine x_ic_le k57_27 (t := 39) rfl (by first | exact x_rbe e_z246 g_z246 rfl rfl | exact x_rb g_z246 rfl rfl | exact ⟨by omega, by omega⟩) (by first | exact x_rb b_d rfl rfl | exact ⟨by omega, by omega⟩) (fun c247 => ?_) (fun c247 => ?_)
    · skip
      refine x_A k57_39 (fun _ => rfl) ?_
      refine x_getI k57_40 (f := 5) rfl (q := 177) (n := 7) (kd := 7) ⟨by decide, rfl⟩ (by decide) rfl ?_
      refine x_top (fun z248 e_z248 => ?_)
      have g_z248 : (0 : Int) ≤ s0 177 5 ∧ s0 177 5 ≤ 5 := hG0 177 5
      refine x_if_eq k57_43 (t := 48) rfl (by first | exact x_rbe e_z248 g_z248 rfl rfl | exact x_rb g_z248 rfl rfl | exact ⟨by omega, by omega⟩) (fun c249 => ?_) (fun c249 => ?_)
      · skip
        refine x_A k57_48 (fun _ => rfl) ?_
        refine x_istore k57_49 (ls' := [(4, vi 0), (0, .ref 177), (1, vi a), (2, vi b), (3, vi d)]) (by decide) rfl ?_
        refine x_A k57_51 (fun _ => rfl) ?_
        refine x_getI k57_52 (f := 3) rfl (q := 177) (n := 7) (kd := 7) ⟨by decide, rfl⟩ (by decide) rfl ?_
        refine x_rw (e_z245.symm) ?_
        refine x_istore k57_55 (ls' := [(5, vi z245), (4, vi 0), (0, .ref 177), (1, vi a), (2, vi b), (3, vi d)]) (by decide) rfl ?_
        obtain ⟨z250, e_z250⟩ : ∃ z, z = s0 177 1 := ⟨_, rfl⟩
        have g_z250 : (0 : Int) ≤ s0 177 1 ∧ s0 177 1 ≤ 160 := hG0 177 1
        refine x_ls (l := [(0, .ref 177), (1, vi a), (2, vi b), (3, vi d), (4, vi 0), (5, vi z245)]) (show ([0, 1, 2, 3, 4, 5] : List Nat).Nodup from by decide +kernel) ⟨rfl, rfl, rfl, rfl, rfl, rfl, trivial⟩ ?_
        exact L_E_X6_takeNumber_177_57 s0 a b_a b b_b d b_d  (((160 - z245) + 1 : Int)).toNat s0 a b d 0 z245 z250 z245 z244 z248 hG0 f0 (by first | exact x_rb b_a rfl rfl | exact ⟨by omega, by omega⟩) (by first | exact x_rb b_b rfl rfl | exact ⟨by omega, by omega⟩) (by first | exact x_rb b_d rfl rfl | exact ⟨by omega, by omega⟩) ⟨by decide, by decide⟩ (by first | exact x_rbe e_z245 g_z245 rfl rfl | exact x_rb g_z245 rfl rfl | exact ⟨by omega, by omega⟩) (by first | exact x_rbe e_z250 g_z250 rfl rfl | exact x_rb g_z250 rfl rfl | exact ⟨by omega, by omega⟩) (by first | exact x_rbe e_z245 g_z245 rfl rfl | exact x_rb g_z245 rfl rfl | exact ⟨by omega, by omega⟩) (by first | exact x_rbe e_z244 g_z244 rfl rfl | exact x_rb g_z244 rfl rfl | exact ⟨by omega, by omega⟩) (by first | exact x_rbe e_z248 g_z248 rfl rfl | exact x_rb g_z248 rfl rfl | exact ⟨by omega, by omega⟩) (by omega) (by omega) (by omega) (by omega) (by omega) (by omega) (by omega) (by omega) (by omega) (by rw [show z245 - s0 177 3 = 0 by omega]; rfl) (by omega) (by omega) (by omega) rfl (e_z250.symm).symm (e_z245.symm).symm (e_z244.symm).symm (e_z248.symm).symm i0_TK  (by omega)
      · skip
        refine x_A k57_46 (fun _ => rfl) ?_
        obtain ⟨z251, e_z251⟩ : ∃ z, z = s0 177 6 := ⟨_, rfl⟩
        have g_z251 : (-2147483648) ≤ s0 177 6 ∧ s0 177 6 ≤ 2147483647 := hG0 177 6
        exact x_iret k57_47 rfl ⟨hG0, f0, (-1), rfl, ⟨by decide, by decide⟩, ⟨(by unfold NmC NmR nva nx; omega), by omega, by omega⟩, i0_TK⟩
    · skip
      have nf : numf (s0 178) (s0 177 1) (s0 177 3) a b d 2 = 2 := numf_2 (by omega) (by omega)
      refine x_A k57_30 (fun _ => rfl) ?_
      refine x_A k57_31 (fun _ => rfl) ?_
      refine x_A k57_32 (fun _ => rfl) ?_
      refine x_getI k57_33 (f := 3) rfl (q := 177) (n := 7) (kd := 7) ⟨by decide, rfl⟩ (by decide) rfl ?_
      refine x_rw (e_z245.symm) ?_
      refine x_callV k57_36 (y := 52) (n := 2) (w0 := 0) (w1 := 2) (as := [vi 2, vi z245]) (rest := []) (by decide +kernel) (q := 177) (nq := 7) (kq := 7) ⟨by decide, rfl⟩ rfl rfl rfl rfl (xe_mono (E_X6_fail_177 s0 hG0 2 ⟨by decide, by decide⟩ z245 (by first | exact x_rbe e_z245 g_z245 rfl rfl | exact x_rb g_z245 rfl rfl | exact ⟨by omega, by omega⟩)) ?_)
      rintro s253 v ⟨hG_s253, t_s253, rfl, xp_z252⟩
      have f_s253 : FL [1219, 1220, 1221, 1222, 1223] s0 s253 := f0.tr t_s253 (by decide +kernel)
      have q254 : s253 177 2 = z242 := (t_s253 177 2 (show 1219 ∉ [1222, 1223] from by decide +kernel)).trans e_z242.symm
      have q255 : s253 177 4 = z244 := (t_s253 177 4 (show 1221 ∉ [1222, 1223] from by decide +kernel)).trans e_z244.symm
      have q256 : s253 177 3 = z245 := (t_s253 177 3 (show 1220 ∉ [1222, 1223] from by decide +kernel)).trans e_z245.symm
      have TK_s253 : TKs s253 := TKs.fl i0_TK t_s253 (by decide +kernel)
      obtain ⟨z257, e_z257⟩ : ∃ z, z = s253 177 5 := ⟨_, rfl⟩
      have g_z257 : (0 : Int) ≤ s253 177 5 ∧ s253 177 5 ≤ 5 := hG_s253 177 5
      obtain ⟨z258, e_z258⟩ : ∃ z, z = s253 177 6 := ⟨_, rfl⟩
      have g_z258 : (-2147483648) ≤ s253 177 6 ∧ s253 177 6 ≤ 2147483647 := hG_s253 177 6
      show xe none 57 39 [(0, .ref 177), (1, vi a), (2, vi b), (3, vi d)] [] s253 0 0 _
      refine x_A k57_39 (fun _ => rfl) ?_
      refine x_getI k57_40 (f := 5) rfl (q := 177) (n := 7) (kd := 7) ⟨by decide, rfl⟩ (by decide) rfl ?_
      refine x_rw (e_z257.symm) ?_
      refine x_if_eq k57_43 (t := 48) rfl (by first | exact x_rbe e_z257 g_z257 rfl rfl | exact x_rb g_z257 rfl rfl | exact ⟨by omega, by omega⟩) (fun c259 => by exfalso; omega) (fun c259 => ?_)
      refine x_A k57_46 (fun _ => rfl) ?_
      exact x_iret k57_47 rfl ⟨hG_s253, f_s253, (-1), rfl, ⟨by decide, by decide⟩, ⟨(by unfold NmC NmR nva nx; omega), by omega, by omega⟩, TK_s253⟩
  · skip
    have nf : numf (s0 178) (s0 177 1) (s0 177 3) a b d 2 = 1 := numf_1 (by omega)
    refine x_A k57_8 (fun _ => rfl) ?_
    refine x_A k57_9 (fun _ => rfl) ?_
    refine x_A k57_10 (fun _ => rfl) ?_
    refine x_getI k57_11 (f := 3) rfl (q := 177) (n := 7) (kd := 7) ⟨by decide, rfl⟩ (by decide) rfl ?_
    refine x_top (fun z260 e_z260 => ?_)
    have g_z260 : (0 : Int) ≤ s0 177 3 ∧ s0 177 3 ≤ 160 := hG0 177 3
    refine x_callV k57_14 (y := 52) (n := 2) (w0 := 0) (w1 := 2) (as := [vi 1, vi z260]) (rest := []) (by decide +kernel) (q := 177) (nq := 7) (kq := 7) ⟨by decide, rfl⟩ rfl rfl rfl rfl (xe_mono (E_X6_fail_177 s0 hG0 1 ⟨by decide, by decide⟩ z260 (by first | exact x_rbe e_z260 g_z260 rfl rfl | exact x_rb g_z260 rfl rfl | exact ⟨by omega, by omega⟩)) ?_)
    rintro s262 v ⟨hG_s262, t_s262, rfl, xp_z261⟩
    have f_s262 : FL [1219, 1220, 1221, 1222, 1223] s0 s262 := f0.tr t_s262 (by decide +kernel)
    have q263 : s262 177 2 = z242 := (t_s262 177 2 (show 1219 ∉ [1222, 1223] from by decide +kernel)).trans e_z242.symm
    have q264 : s262 177 3 = z260 := (t_s262 177 3 (show 1220 ∉ [1222, 1223] from by decide +kernel)).trans e_z260.symm
    have TK_s262 : TKs s262 := TKs.fl i0_TK t_s262 (by decide +kernel)
    obtain ⟨z265, e_z265⟩ : ∃ z, z = s262 177 5 := ⟨_, rfl⟩
    have g_z265 : (0 : Int) ≤ s262 177 5 ∧ s262 177 5 ≤ 5 := hG_s262 177 5
    obtain ⟨z266, e_z266⟩ : ∃ z, z = s262 177 6 := ⟨_, rfl⟩
    have g_z266 : (-2147483648) ≤ s262 177 6 ∧ s262 177 6 ≤ 2147483647 := hG_s262 177 6
    show xe none 57 17 [(0, .ref 177), (1, vi a), (2, vi b), (3, vi d)] [] s262 0 0 _
    refine x_A k57_17 (fun _ => rfl) ?_
    refine x_getI k57_18 (f := 4) rfl (q := 177) (n := 7) (kd := 7) ⟨by decide, rfl⟩ (by decide) rfl ?_
    refine x_top (fun z267 e_z267 => ?_)
    have g_z267 : (0 : Int) ≤ s262 177 4 ∧ s262 177 4 ≤ 160 := hG_s262 177 4
    refine x_A k57_21 (fun _ => rfl) ?_
    refine x_getI k57_22 (f := 3) rfl (q := 177) (n := 7) (kd := 7) ⟨by decide, rfl⟩ (by decide) rfl ?_
    refine x_rw (q264) ?_
    refine x_isub k57_25 ?_
    refine x_top (fun z268 e_z268 => ?_)
    refine x_A k57_26 (fun _ => rfl) ?_
    refine x_ic_le k57_27 (t := 39) rfl (by first | exact x_rbe e_z268 g_z268 rfl rfl | exact x_rb g_z268 rfl rfl | exact ⟨by omega, by omega⟩) (by first | exact x_rb b_d rfl rfl | exact ⟨by omega, by omega⟩) (fun c269 => ?_) (fun c269 => ?_)
    · skip
      refine x_A k57_39 (fun _ => rfl) ?_
      refine x_getI k57_40 (f := 5) rfl (q := 177) (n := 7) (kd := 7) ⟨by decide, rfl⟩ (by decide) rfl ?_
      refine x_rw (e_z265.symm) ?_
      refine x_if_eq k57_43 (t := 48) rfl (by first | exact x_rbe e_z265 g_z265 rfl rfl | exact x_rb g_z265 rfl rfl | exact ⟨by omega, by omega⟩) (fun c270 => by exfalso; omega) (fun c270 => ?_)
      refine x_A k57_46 (fun _ => rfl) ?_
      exact x_iret k57_47 rfl ⟨hG_s262, f_s262, (-1), rfl, ⟨by decide, by decide⟩, ⟨(by unfold NmC NmR nva nx; omega), by omega, by omega⟩, TK_s262⟩
    · skip
      refine x_A k57_30 (fun _ => rfl) ?_
      refine x_A k57_31 (fun _ => rfl) ?_
      refine x_A k57_32 (fun _ => rfl) ?_
      refine x_getI k57_33 (f := 3) rfl (q := 177) (n := 7) (kd := 7) ⟨by decide, rfl⟩ (by decide) rfl ?_
      refine x_rw (q264) ?_
      refine x_callV k57_36 (y := 52) (n := 2) (w0 := 0) (w1 := 2) (as := [vi 2, vi z260]) (rest := []) (by decide +kernel) (q := 177) (nq := 7) (kq := 7) ⟨by decide, rfl⟩ rfl rfl rfl rfl (xe_mono (E_X6_fail_177 s262 hG_s262 2 ⟨by decide, by decide⟩ z260 (by first | exact x_rbe e_z260 g_z260 rfl rfl | exact x_rb g_z260 rfl rfl | exact ⟨by omega, by omega⟩)) ?_)
      rintro s272 v ⟨hG_s272, t_s272, rfl, xp_z271⟩
      have f_s272 : FL [1219, 1220, 1221, 1222, 1223] s0 s272 := f_s262.tr t_s272 (by decide +kernel)
      have q273 : s272 177 2 = z242 := (t_s272 177 2 (show 1219 ∉ [1222, 1223] from by decide +kernel)).trans q263
      have q274 : s272 177 3 = z260 := (t_s272 177 3 (show 1220 ∉ [1222, 1223] from by decide +kernel)).trans q264
      have q275 : s272 177 4 = z267 := (t_s272 177 4 (show 1221 ∉ [1222, 1223] from by decide +kernel)).trans e_z267.symm
      have TK_s272 : TKs s272 := TKs.fl TK_s262 t_s272 (by decide +kernel)
      obtain ⟨z276, e_z276⟩ : ∃ z, z = s272 177 5 := ⟨_, rfl⟩
      have g_z276 : (0 : Int) ≤ s272 177 5 ∧ s272 177 5 ≤ 5 := hG_s272 177 5
      obtain ⟨z277, e_z277⟩ : ∃ z, z = s272 177 6 := ⟨_, rfl⟩
      have g_z277 : (-2147483648) ≤ s272 177 6 ∧ s272 177 6 ≤ 2147483647 := hG_s272 177 6
      show xe none 57 39 [(0, .ref 177), (1, vi a), (2, vi b), (3, vi d)] [] s272 0 0 _
      refine x_A k57_39 (fun _ => rfl) ?_
      refine x_getI k57_40 (f := 5) rfl (q := 177) (n := 7) (kd := 7) ⟨by decide, rfl⟩ (by decide) rfl ?_
      refine x_rw (e_z276.symm) ?_
      refine x_if_eq k57_43 (t := 48) rfl (by first | exact x_rbe e_z276 g_z276 rfl rfl | exact x_rb g_z276 rfl rfl | exact ⟨by omega, by omega⟩) (fun c278 => by exfalso; omega) (fun c278 => ?_)
      refine x_A k57_46 (fun _ => rfl) ?_
      exact x_iret k57_47 rfl ⟨hG_s272, f_s272, (-1), rfl, ⟨by decide, by decide⟩, ⟨(by unfold NmC NmR nva nx; omega), by omega, by omega⟩, TK_s272⟩
set_option maxHeartbeats 8000000 in
theorem wl_0 : cv [116, 111, 110] = 10631 ∧ (∀ c ∈ ([116, 111, 110] : List Int), 97 ≤ c ∧ c ≤ 122) ∧ (10631 : Int) ≤ 10000000000 := by decide
set_option maxHeartbeats 8000000 in
theorem tx_chE_0 (z : Int) (hz : 0 ≤ z ∧ z < 3) : ∃ ch : Int, ((97 ≤ ch ∧ ch ≤ 122) ∧ ch = ([116, 111, 110] : List Int).getD (3 - 1 - z.toNat) 0) ∧ ∀ h, pm_exec none 40 223 0 [(0, .ref 2001), (1, vi z)] [] h 0 0 = some (h, some (vi ch)) := by
  rcases (show z = 0 ∨ z = 1 ∨ z = 2 by omega) with rfl | rfl | rfl
  · exact ⟨110, ⟨⟨by omega, by omega⟩, rfl⟩, tx_ch_0_0⟩
  · exact ⟨111, ⟨⟨by omega, by omega⟩, rfl⟩, tx_ch_0_1⟩
  · exact ⟨116, ⟨⟨by omega, by omega⟩, rfl⟩, tx_ch_0_2⟩
set_option maxHeartbeats 8000000 in
theorem wl_1 : cv [107, 114, 97, 109] = 257105 ∧ (∀ c ∈ ([107, 114, 97, 109] : List Int), 97 ≤ c ∧ c ≤ 122) ∧ (257105 : Int) ≤ 10000000000 := by decide
set_option maxHeartbeats 8000000 in
theorem tx_chE_1 (z : Int) (hz : 0 ≤ z ∧ z < 4) : ∃ ch : Int, ((97 ≤ ch ∧ ch ≤ 122) ∧ ch = ([107, 114, 97, 109] : List Int).getD (4 - 1 - z.toNat) 0) ∧ ∀ h, pm_exec none 40 223 0 [(0, .ref 2002), (1, vi z)] [] h 0 0 = some (h, some (vi ch)) := by
  rcases (show z = 0 ∨ z = 1 ∨ z = 2 ∨ z = 3 by omega) with rfl | rfl | rfl | rfl
  · exact ⟨109, ⟨⟨by omega, by omega⟩, rfl⟩, tx_ch_1_0⟩
  · exact ⟨97, ⟨⟨by omega, by omega⟩, rfl⟩, tx_ch_1_1⟩
  · exact ⟨114, ⟨⟨by omega, by omega⟩, rfl⟩, tx_ch_1_2⟩
  · exact ⟨107, ⟨⟨by omega, by omega⟩, rfl⟩, tx_ch_1_3⟩
set_option maxHeartbeats 8000000 in
theorem wl_2 : cv [100, 114, 111, 119] = 464134 ∧ (∀ c ∈ ([100, 114, 111, 119] : List Int), 97 ≤ c ∧ c ≤ 122) ∧ (464134 : Int) ≤ 10000000000 := by decide
set_option maxHeartbeats 8000000 in
theorem tx_chE_2 (z : Int) (hz : 0 ≤ z ∧ z < 4) : ∃ ch : Int, ((97 ≤ ch ∧ ch ≤ 122) ∧ ch = ([100, 114, 111, 119] : List Int).getD (4 - 1 - z.toNat) 0) ∧ ∀ h, pm_exec none 40 223 0 [(0, .ref 2003), (1, vi z)] [] h 0 0 = some (h, some (vi ch)) := by
  rcases (show z = 0 ∨ z = 1 ∨ z = 2 ∨ z = 3 by omega) with rfl | rfl | rfl | rfl
  · exact ⟨119, ⟨⟨by omega, by omega⟩, rfl⟩, tx_ch_2_0⟩
  · exact ⟨111, ⟨⟨by omega, by omega⟩, rfl⟩, tx_ch_2_1⟩
  · exact ⟨114, ⟨⟨by omega, by omega⟩, rfl⟩, tx_ch_2_2⟩
  · exact ⟨100, ⟨⟨by omega, by omega⟩, rfl⟩, tx_ch_2_3⟩
set_option maxHeartbeats 8000000 in
theorem wl_3 : cv [100, 110, 97, 104] = 158575 ∧ (∀ c ∈ ([100, 110, 97, 104] : List Int), 97 ≤ c ∧ c ≤ 122) ∧ (158575 : Int) ≤ 10000000000 := by decide
set_option maxHeartbeats 8000000 in
theorem tx_chE_3 (z : Int) (hz : 0 ≤ z ∧ z < 4) : ∃ ch : Int, ((97 ≤ ch ∧ ch ≤ 122) ∧ ch = ([100, 110, 97, 104] : List Int).getD (4 - 1 - z.toNat) 0) ∧ ∀ h, pm_exec none 40 223 0 [(0, .ref 2004), (1, vi z)] [] h 0 0 = some (h, some (vi ch)) := by
  rcases (show z = 0 ∨ z = 1 ∨ z = 2 ∨ z = 3 by omega) with rfl | rfl | rfl | rfl
  · exact ⟨104, ⟨⟨by omega, by omega⟩, rfl⟩, tx_ch_3_0⟩
  · exact ⟨97, ⟨⟨by omega, by omega⟩, rfl⟩, tx_ch_3_1⟩
  · exact ⟨110, ⟨⟨by omega, by omega⟩, rfl⟩, tx_ch_3_2⟩
  · exact ⟨100, ⟨⟨by omega, by omega⟩, rfl⟩, tx_ch_3_3⟩
set_option maxHeartbeats 8000000 in
theorem wl_4 : cv [101, 114, 111, 102, 101, 98] = 31484543 ∧ (∀ c ∈ ([101, 114, 111, 102, 101, 98] : List Int), 97 ≤ c ∧ c ≤ 122) ∧ (31484543 : Int) ≤ 10000000000 := by decide
set_option maxHeartbeats 8000000 in
theorem tx_chE_4 (z : Int) (hz : 0 ≤ z ∧ z < 6) : ∃ ch : Int, ((97 ≤ ch ∧ ch ≤ 122) ∧ ch = ([101, 114, 111, 102, 101, 98] : List Int).getD (6 - 1 - z.toNat) 0) ∧ ∀ h, pm_exec none 40 223 0 [(0, .ref 2005), (1, vi z)] [] h 0 0 = some (h, some (vi ch)) := by
  rcases (show z = 0 ∨ z = 1 ∨ z = 2 ∨ z = 3 ∨ z = 4 ∨ z = 5 by omega) with rfl | rfl | rfl | rfl | rfl | rfl
  · exact ⟨98, ⟨⟨by omega, by omega⟩, rfl⟩, tx_ch_4_0⟩
  · exact ⟨101, ⟨⟨by omega, by omega⟩, rfl⟩, tx_ch_4_1⟩
  · exact ⟨102, ⟨⟨by omega, by omega⟩, rfl⟩, tx_ch_4_2⟩
  · exact ⟨111, ⟨⟨by omega, by omega⟩, rfl⟩, tx_ch_4_3⟩
  · exact ⟨114, ⟨⟨by omega, by omega⟩, rfl⟩, tx_ch_4_4⟩
  · exact ⟨101, ⟨⟨by omega, by omega⟩, rfl⟩, tx_ch_4_5⟩
set_option maxHeartbeats 8000000 in
theorem wl_5 : cv [116, 97] = 47 ∧ (∀ c ∈ ([116, 97] : List Int), 97 ≤ c ∧ c ≤ 122) ∧ (47 : Int) ≤ 10000000000 := by decide
set_option maxHeartbeats 8000000 in
theorem tx_chE_5 (z : Int) (hz : 0 ≤ z ∧ z < 2) : ∃ ch : Int, ((97 ≤ ch ∧ ch ≤ 122) ∧ ch = ([116, 97] : List Int).getD (2 - 1 - z.toNat) 0) ∧ ∀ h, pm_exec none 40 223 0 [(0, .ref 2006), (1, vi z)] [] h 0 0 = some (h, some (vi ch)) := by
  rcases (show z = 0 ∨ z = 1 by omega) with rfl | rfl
  · exact ⟨97, ⟨⟨by omega, by omega⟩, rfl⟩, tx_ch_5_0⟩
  · exact ⟨116, ⟨⟨by omega, by omega⟩, rfl⟩, tx_ch_5_1⟩
set_option maxHeartbeats 8000000 in
theorem wl_6 : cv [100, 110, 97] = 1111 ∧ (∀ c ∈ ([100, 110, 97] : List Int), 97 ≤ c ∧ c ≤ 122) ∧ (1111 : Int) ≤ 10000000000 := by decide
set_option maxHeartbeats 8000000 in
theorem tx_chE_6 (z : Int) (hz : 0 ≤ z ∧ z < 3) : ∃ ch : Int, ((97 ≤ ch ∧ ch ≤ 122) ∧ ch = ([100, 110, 97] : List Int).getD (3 - 1 - z.toNat) 0) ∧ ∀ h, pm_exec none 40 223 0 [(0, .ref 2007), (1, vi z)] [] h 0 0 = some (h, some (vi ch)) := by
  rcases (show z = 0 ∨ z = 1 ∨ z = 2 by omega) with rfl | rfl | rfl
  · exact ⟨97, ⟨⟨by omega, by omega⟩, rfl⟩, tx_ch_6_0⟩
  · exact ⟨110, ⟨⟨by omega, by omega⟩, rfl⟩, tx_ch_6_1⟩
  · exact ⟨100, ⟨⟨by omega, by omega⟩, rfl⟩, tx_ch_6_2⟩
set_option maxHeartbeats 8000000 in
theorem wl_7 : cv [114, 111] = 423 ∧ (∀ c ∈ ([114, 111] : List Int), 97 ≤ c ∧ c ≤ 122) ∧ (423 : Int) ≤ 10000000000 := by decide
set_option maxHeartbeats 8000000 in
theorem tx_chE_7 (z : Int) (hz : 0 ≤ z ∧ z < 2) : ∃ ch : Int, ((97 ≤ ch ∧ ch ≤ 122) ∧ ch = ([114, 111] : List Int).getD (2 - 1 - z.toNat) 0) ∧ ∀ h, pm_exec none 40 223 0 [(0, .ref 2008), (1, vi z)] [] h 0 0 = some (h, some (vi ch)) := by
  rcases (show z = 0 ∨ z = 1 by omega) with rfl | rfl
  · exact ⟨111, ⟨⟨by omega, by omega⟩, rfl⟩, tx_ch_7_0⟩
  · exact ⟨114, ⟨⟨by omega, by omega⟩, rfl⟩, tx_ch_7_1⟩
set_option maxHeartbeats 8000000 in
theorem wl_8 : cv [121, 101, 107] = 8179 ∧ (∀ c ∈ ([121, 101, 107] : List Int), 97 ≤ c ∧ c ≤ 122) ∧ (8179 : Int) ≤ 10000000000 := by decide
set_option maxHeartbeats 8000000 in
theorem tx_chE_8 (z : Int) (hz : 0 ≤ z ∧ z < 3) : ∃ ch : Int, ((97 ≤ ch ∧ ch ≤ 122) ∧ ch = ([121, 101, 107] : List Int).getD (3 - 1 - z.toNat) 0) ∧ ∀ h, pm_exec none 40 223 0 [(0, .ref 2009), (1, vi z)] [] h 0 0 = some (h, some (vi ch)) := by
  rcases (show z = 0 ∨ z = 1 ∨ z = 2 by omega) with rfl | rfl | rfl
  · exact ⟨107, ⟨⟨by omega, by omega⟩, rfl⟩, tx_ch_8_0⟩
  · exact ⟨101, ⟨⟨by omega, by omega⟩, rfl⟩, tx_ch_8_1⟩
  · exact ⟨121, ⟨⟨by omega, by omega⟩, rfl⟩, tx_ch_8_2⟩
set_option maxHeartbeats 8000000 in
theorem wl_9 : cv [119, 111, 108, 108, 97] = 776813 ∧ (∀ c ∈ ([119, 111, 108, 108, 97] : List Int), 97 ≤ c ∧ c ≤ 122) ∧ (776813 : Int) ≤ 10000000000 := by decide
set_option maxHeartbeats 8000000 in
theorem tx_chE_9 (z : Int) (hz : 0 ≤ z ∧ z < 5) : ∃ ch : Int, ((97 ≤ ch ∧ ch ≤ 122) ∧ ch = ([119, 111, 108, 108, 97] : List Int).getD (5 - 1 - z.toNat) 0) ∧ ∀ h, pm_exec none 40 223 0 [(0, .ref 2010), (1, vi z)] [] h 0 0 = some (h, some (vi ch)) := by
  rcases (show z = 0 ∨ z = 1 ∨ z = 2 ∨ z = 3 ∨ z = 4 by omega) with rfl | rfl | rfl | rfl | rfl
  · exact ⟨97, ⟨⟨by omega, by omega⟩, rfl⟩, tx_ch_9_0⟩
  · exact ⟨108, ⟨⟨by omega, by omega⟩, rfl⟩, tx_ch_9_1⟩
  · exact ⟨108, ⟨⟨by omega, by omega⟩, rfl⟩, tx_ch_9_2⟩
  · exact ⟨111, ⟨⟨by omega, by omega⟩, rfl⟩, tx_ch_9_3⟩
  · exact ⟨119, ⟨⟨by omega, by omega⟩, rfl⟩, tx_ch_9_4⟩
set_option maxHeartbeats 8000000 in
theorem wl_10 : cv [114, 97, 98] = 1503 ∧ (∀ c ∈ ([114, 97, 98] : List Int), 97 ≤ c ∧ c ≤ 122) ∧ (1503 : Int) ≤ 10000000000 := by decide
set_option maxHeartbeats 8000000 in
theorem tx_chE_10 (z : Int) (hz : 0 ≤ z ∧ z < 3) : ∃ ch : Int, ((97 ≤ ch ∧ ch ≤ 122) ∧ ch = ([114, 97, 98] : List Int).getD (3 - 1 - z.toNat) 0) ∧ ∀ h, pm_exec none 40 223 0 [(0, .ref 2011), (1, vi z)] [] h 0 0 = some (h, some (vi ch)) := by
  rcases (show z = 0 ∨ z = 1 ∨ z = 2 by omega) with rfl | rfl | rfl
  · exact ⟨98, ⟨⟨by omega, by omega⟩, rfl⟩, tx_ch_10_0⟩
  · exact ⟨97, ⟨⟨by omega, by omega⟩, rfl⟩, tx_ch_10_1⟩
  · exact ⟨114, ⟨⟨by omega, by omega⟩, rfl⟩, tx_ch_10_2⟩
set_option maxHeartbeats 8000000 in
theorem wl_11 : cv [100, 101, 101, 110] = 279346 ∧ (∀ c ∈ ([100, 101, 101, 110] : List Int), 97 ≤ c ∧ c ≤ 122) ∧ (279346 : Int) ≤ 10000000000 := by decide
set_option maxHeartbeats 8000000 in
theorem tx_chE_11 (z : Int) (hz : 0 ≤ z ∧ z < 4) : ∃ ch : Int, ((97 ≤ ch ∧ ch ≤ 122) ∧ ch = ([100, 101, 101, 110] : List Int).getD (4 - 1 - z.toNat) 0) ∧ ∀ h, pm_exec none 40 223 0 [(0, .ref 2012), (1, vi z)] [] h 0 0 = some (h, some (vi ch)) := by
  rcases (show z = 0 ∨ z = 1 ∨ z = 2 ∨ z = 3 by omega) with rfl | rfl | rfl | rfl
  · exact ⟨110, ⟨⟨by omega, by omega⟩, rfl⟩, tx_ch_11_0⟩
  · exact ⟨101, ⟨⟨by omega, by omega⟩, rfl⟩, tx_ch_11_1⟩
  · exact ⟨101, ⟨⟨by omega, by omega⟩, rfl⟩, tx_ch_11_2⟩
  · exact ⟨100, ⟨⟨by omega, by omega⟩, rfl⟩, tx_ch_11_3⟩
set_option maxHeartbeats 8000000 in
theorem wl_12 : cv [116, 115, 111, 109] = 267347 ∧ (∀ c ∈ ([116, 115, 111, 109] : List Int), 97 ≤ c ∧ c ≤ 122) ∧ (267347 : Int) ≤ 10000000000 := by decide
