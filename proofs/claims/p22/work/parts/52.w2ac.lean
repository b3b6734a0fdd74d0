set_option maxHeartbeats 8000000 in
theorem L_W_X11_isMet_256_6 (s0 : xS) (hJ0 : J s0) (hG0 : GI s0) (a : Int) (b_a : 0 ≤ a ∧ a ≤ 7) (b : Int) (b_b : 0 ≤ b ∧ b ≤ 39) (d : Int) (b_d : 0 ≤ d ∧ d ≤ 9) (pa : a < s0 256 43 ∧ b < s0 256 6) (pG1 : G1 s0) (pG3 : G3 s0) (pY : Y1 s0) (pX : X1 s0) (pW : W1 s0) (pq : Q1 s0) (pz : FdZ s0 s0 d)  : ∀ (n : Nat) (s : xS) (x1 : Int) (x2 : Int) (x3 : Int) (x4 : Int) (x5 : Int) (hG : GI s) (f : FL [6272] s0 s) (b_x1 : 0 ≤ x1 ∧ x1 ≤ 7) (b_x2 : 0 ≤ x2 ∧ x2 ≤ 39) (b_x3 : 0 ≤ x3 ∧ x3 ≤ 9) (b_x4 : 0 ≤ x4 ∧ x4 ≤ 119) (b_x5 : 0 ≤ x5 ∧ x5 ≤ 119) (r_4_5 : x4 ≤ x5 + 0) (w_0 : x1 = a) (w_1 : x4 = dp (fun k => s0 287 (110 * x1 + k).toNat) x5.toNat) (w_2 : x2 = b ∧ x3 = d ∧ x5 ≤ s0 286 a.toNat) (w_3 : EvR (mP s0 d) (s0 (220 + 1 + a.toNat)) b (s 290) x4 x5)  (hm : (119 - x5) < (n : Int)), xe none 203 6 [(0, .ref 256), (1, vi x1), (2, vi x2), (3, vi x3), (4, vi x4), (5, vi x5)] [] s 0 0 (fun s' v => GI s' ∧ FL [6272] s0 s' ∧ ∃ z, v = some (vi z) ∧ (0 ≤ z ∧ z ≤ 1) ∧ ((z = 1 ∧ MetP s0 d a b) ∨ (z = 0 ∧ ¬ MetP s0 d a b))) := by
  intro n
  induction n with
  | zero => intro s x1 x2 x3 x4 x5 hG f b_x1 b_x2 b_x3 b_x4 b_x5 r_4_5 w_0 w_1 w_2 w_3  hm; exfalso; omega
  | succ n ih =>
    intro s x1 x2 x3 x4 x5 hG f b_x1 b_x2 b_x3 b_x4 b_x5 r_4_5 w_0 w_1 w_2 w_3  hm
    refine x_A k203_6 (fun _ => rfl) ?_
    refine x_A k203_8 (fun _ => rfl) ?_
    refine x_getR k203_9 (f := 44) rfl (q := 256) (n := 62) (kd := 15) ⟨by decide, rfl⟩ (q2 := 286) (by decide) rfl ?_
    refine x_A k203_12 (fun _ => rfl) ?_
    refine x_iald k203_13 (q := 286) (n := 8) ⟨by decide, rfl⟩ (by decide) ⟨by omega, by omega⟩ ?_
    refine x_top (fun z2281 e_z2281 => ?_)
    have g_z2281 : (0 : Int) ≤ s 286 x1.toNat ∧ s 286 x1.toNat ≤ 110 := hG 286 x1.toNat
    refine x_ic_ge k203_14 (t := 270) rfl ⟨by omega, by omega⟩ ⟨by omega, by omega⟩ (fun c2282 => ?_) (fun c2282 => ?_)
    · skip
      have lm_ : s0 286 a.toNat = z2281 := by rw [← f 286 a.toNat (show 6016 ∉ [6272] from by decide), ← show x1 = a by omega]; exact e_z2281.symm
      have ro_ := pq.row (a := a) ⟨by omega, by have q := pX.2.2.2.1; omega⟩
      have ln_ := (ev_len (P := mP s0 d) ro_.1.1) (s0 219 a.toNat).toNat (Nat.le_refl _)
      have lt_ := w_3.1
      rw [show x5.toNat = (s0 219 a.toNat).toNat by omega] at lt_
      refine x_A k203_270 (fun _ => rfl) ?_
      refine x_getR k203_271 (f := 52) rfl (q := 256) (n := 62) (kd := 15) ⟨by decide, rfl⟩ (q2 := 290) (by decide) rfl ?_
      refine x_A k203_274 (fun _ => rfl) ?_
      refine x_bald k203_275 (q := 290) (n := 120) ⟨by decide, rfl⟩ (by decide) ⟨by omega, by omega⟩ ?_
      refine x_top (fun z2283 e_z2283 => ?_)
      have g_z2283 : (0 : Int) ≤ s 290 0 ∧ s 290 0 ≤ 1 := hG 290 0
      have p0_z2283 : z2283 = s 290 0 := e_z2283
      exact x_zret k203_276 rfl ⟨by omega, by omega⟩ ⟨hG, f, z2283, rfl, ⟨by omega, by omega⟩, (by have q1 := ro_.1.2; have q := w_3.fin (n := (s0 219 a.toNat).toNat) (by omega) (by omega); rw [show s 290 0 = z2283 by omega] at q; exact q)⟩
    · skip
      refine x_A k203_17 (fun _ => rfl) ?_
      refine x_getR k203_18 (f := 45) rfl (q := 256) (n := 62) (kd := 15) ⟨by decide, rfl⟩ (q2 := 287) (by decide) rfl ?_
      refine x_bipush k203_21 (by decide +kernel) ?_
      refine x_A k203_23 (fun _ => rfl) ?_
      refine x_imul k203_24 ?_
      refine x_top (fun z2284 e_z2284 => ?_)
      refine x_A k203_25 (fun _ => rfl) ?_
      refine x_iadd k203_27 ?_
      refine x_top (fun z2285 e_z2285 => ?_)
      refine x_iald k203_28 (q := 287) (n := 880) ⟨by decide, rfl⟩ (by decide) ⟨by omega, by omega⟩ ?_
      refine x_top (fun z2286 e_z2286 => ?_)
      have g_z2286 : (0 : Int) ≤ s 287 z2285.toNat ∧ s 287 z2285.toNat ≤ 7 := hG 287 z2285.toNat
      have ez_z2286 : s0 287 (110 * x1 + x5).toNat = z2286 := by rw [← f 287 _ (show 6080 ∉ [6272] from by decide), show 110 * x1 + x5 = z2285 by omega]; exact e_z2286.symm
      have ro_z2286 := hJ0.row x1 x5 (by omega) (by omega) (by omega) (by rw [← f 286 _ (show 6016 ∉ [6272] from by decide), e_z2281.symm]; omega)
      rw [ez_z2286] at ro_z2286
      refine x_istore k203_29 (ls' := [(6, vi z2286), (0, .ref 256), (1, vi x1), (2, vi x2), (3, vi x3), (4, vi x4), (5, vi x5)]) (by decide) rfl ?_
      refine x_A k203_31 (fun _ => rfl) ?_
      refine x_getR k203_32 (f := 46) rfl (q := 256) (n := 62) (kd := 15) ⟨by decide, rfl⟩ (q2 := 288) (by decide) rfl ?_
      refine x_bipush k203_35 (by decide +kernel) ?_
      refine x_A k203_37 (fun _ => rfl) ?_
      refine x_imul k203_38 ?_
      refine x_top (fun z2287 e_z2287 => ?_)
      refine x_A k203_39 (fun _ => rfl) ?_
      refine x_iadd k203_41 ?_
      refine x_top (fun z2288 e_z2288 => ?_)
      refine x_iald k203_42 (q := 288) (n := 880) ⟨by decide, rfl⟩ (by decide) ⟨by omega, by omega⟩ ?_
      refine x_top (fun z2289 e_z2289 => ?_)
      have g_z2289 : (0 : Int) ≤ s 288 z2288.toNat ∧ s 288 z2288.toNat ≤ 999 := hG 288 z2288.toNat
      have lm_ : s0 286 a.toNat = z2281 := by rw [← f 286 a.toNat (show 6016 ∉ [6272] from by decide), ← show x1 = a by omega]; exact e_z2281.symm
      have ha_ : 0 ≤ a ∧ a < s0 218 6 := ⟨by omega, by have q := pX.2.2.2.1; omega⟩
      have ro_ := pq.row ha_
      have c0_ := pq.at (k := x5) ha_ ⟨by omega, by omega⟩
      rw [show s0 287 (110 * a + x5).toNat = z2286 from by rw [← f 287 (110 * a + x5).toNat (show 6080 ∉ [6272] from by decide), ← show z2285.toNat = (110 * a + x5).toNat by omega]; exact e_z2286.symm] at c0_
      rw [show s0 288 (110 * a + x5).toNat = z2289 from by rw [← f 288 (110 * a + x5).toNat (show 6144 ∉ [6272] from by decide), ← show z2288.toNat = (110 * a + x5).toNat by omega]; exact e_z2289.symm] at c0_
      obtain ⟨oc_, od1_, od2_⟩ := ro_.1.1 x5.toNat (by omega)
      unfold okc at oc_
      unfold dc at c0_
      have ln_ := (ev_len (P := mP s0 d) ro_.1.1) x5.toNat (by omega)
      have lt_ := w_3.1
      refine x_istore k203_43 (ls' := [(7, vi z2289), (6, vi z2286), (0, .ref 256), (1, vi x1), (2, vi x2), (3, vi x3), (4, vi x4), (5, vi x5)]) (by decide) rfl ?_
      refine x_A k203_45 (fun _ => rfl) ?_
      refine x_A k203_47 (fun _ => rfl) ?_
      refine x_ic_ge k203_48 (t := 128) rfl ⟨by omega, by omega⟩ ⟨by omega, by omega⟩ (fun c2290 => ?_) (fun c2290 => ?_)
      · skip
        refine x_A k203_128 (fun _ => rfl) ?_
        refine x_A k203_130 (fun _ => rfl) ?_
        refine x_ic_ne k203_131 (t := 163) rfl ⟨by omega, by omega⟩ ⟨by omega, by omega⟩ (fun c2291 => ?_) (fun c2291 => ?_)
        · skip
          rw [if_neg (show ¬ z2286 < 3 by omega)] at c0_
          rw [c0_] at oc_ od1_ od2_
          refine x_A k203_163 (fun _ => rfl) ?_
          refine x_getR k203_164 (f := 52) rfl (q := 256) (n := 62) (kd := 15) ⟨by decide, rfl⟩ (q2 := 290) (by decide) rfl ?_
          refine x_A k203_167 (fun _ => rfl) ?_
          refine x_A k203_169 (fun _ => rfl) ?_
          refine x_A k203_171 (fun _ => rfl) ?_
          refine x_ic_ne k203_172 (t := 185) rfl ⟨by omega, by omega⟩ ⟨by omega, by omega⟩ (fun c2292 => ?_) (fun c2292 => ?_)
          · skip
            refine x_A k203_185 (fun _ => rfl) ?_
            refine x_A k203_187 (fun _ => rfl) ?_
            refine x_ic_ne k203_188 (t := 201) rfl ⟨by omega, by omega⟩ ⟨by omega, by omega⟩ (fun c2293 => ?_) (fun c2293 => ?_)
            · skip
              refine x_A k203_201 (fun _ => rfl) ?_
              refine x_A k203_203 (fun _ => rfl) ?_
              refine x_ic_ne k203_204 (t := 218) rfl ⟨by omega, by omega⟩ ⟨by omega, by omega⟩ (fun c2294 => ?_) (fun c2294 => ?_)
              · skip
                refine x_A k203_218 (fun _ => rfl) ?_
                refine x_bipush k203_220 (by decide +kernel) ?_
                refine x_ic_ne k203_222 (t := 244) rfl ⟨by omega, by omega⟩ ⟨by omega, by omega⟩ (fun c2295 => ?_) (fun c2295 => ?_)
                · skip
                  refine x_A k203_244 (fun _ => rfl) ?_
                  refine x_getR k203_245 (f := 8) rfl (q := 256) (n := 62) (kd := 15) ⟨by decide, rfl⟩ (q2 := 262) (by decide) rfl ?_
                  refine x_A k203_248 (fun _ => rfl) ?_
                  refine x_iald k203_249 (q := 262) (n := 40) ⟨by decide, rfl⟩ (by decide) ⟨by omega, by omega⟩ ?_
                  refine x_top (fun z2296 e_z2296 => ?_)
                  have g_z2296 : (0 : Int) ≤ s 262 x2.toNat ∧ s 262 x2.toNat ≤ 9 := hG 262 x2.toNat
                  refine x_A k203_250 (fun _ => rfl) ?_
                  refine x_ic_ne k203_252 (t := 259) rfl ⟨by omega, by omega⟩ ⟨by omega, by omega⟩ (fun c2297 => ?_) (fun c2297 => ?_)
                  · skip
                    have y_ : s0 48 b.toNat = z2296 := by rw [← (pY.2 b (by omega) (by omega) (by omega)).1.2, ← f 262 b.toNat (show 4480 ∉ [6272] from by decide), ← show x2 = b by omega]; exact e_z2296.symm
                    have lf_ : ((0 : Int) = 1 ∧ mP s0 d (1000 * (z2286 - 2) + z2289) b) ∨ ((0 : Int) = 0 ∧ ¬ mP s0 d (1000 * (z2286 - 2) + z2289) b) := by rw [mP5 (by omega), y_]; omega
                    refine x_A k203_259 (fun _ => rfl) ?_
                    refine x_bast k203_260 (q := 290) (n := 120) ⟨by decide, rfl⟩ (by decide) ⟨by omega, by omega⟩ ⟨by omega, by omega⟩ ?_
                    refine x_nh (fun s2298 e_s2298 => ?_)
                    have hG_s2298 : GI s2298 := by rw [e_s2298]; exact hG.up (show 0 ≤ 0 ∧ 0 ≤ 1 from ⟨by omega, by omega⟩)
                    have f_s2298 : FL [6272] s0 s2298 := by rw [e_s2298]; exact f.up (show 6272 ∈ [6272] from by decide)
                    have q2299 : s2298 286 x1.toNat = z2281 := by rw [e_s2298, x_up_q (by omega)]; exact e_z2281.symm
                    have q2300 : s2298 287 z2285.toNat = z2286 := by rw [e_s2298, x_up_q (by omega)]; exact e_z2286.symm
                    have q2301 : s2298 288 z2288.toNat = z2289 := by rw [e_s2298, x_up_q (by omega)]; exact e_z2289.symm
                    have q2302 : s2298 262 x2.toNat = z2296 := by rw [e_s2298, x_up_q (by omega)]; exact e_z2296.symm
                    have q2303 : s2298 290 x4.toNat = 0 := by rw [e_s2298]; exact x_up_same
                    refine x_iinc k203_261 (ls' := [(4, vi (x4 + 1)), (7, vi z2289), (6, vi z2286), (0, .ref 256), (1, vi x1), (2, vi x2), (3, vi x3), (5, vi x5)]) rfl (by decide) rfl ?_
                    refine x_iinc k203_264 (ls' := [(5, vi (x5 + 1)), (4, vi (x4 + 1)), (7, vi z2289), (6, vi z2286), (0, .ref 256), (1, vi x1), (2, vi x2), (3, vi x3)]) rfl (by decide) rfl ?_
                    refine x_goto k203_267 (t := 6) rfl ?_
                    refine x_ls (l := [(0, .ref 256), (1, vi x1), (2, vi x2), (3, vi x3), (4, vi (x4 + 1)), (5, vi (x5 + 1))]) (show ([0, 1, 2, 3, 4, 5] : List Nat).Nodup from by decide) ⟨rfl, rfl, rfl, rfl, rfl, rfl, trivial⟩ ?_
                    exact ih s2298 x1 x2 x3 (x4 + 1) (x5 + 1) hG_s2298 f_s2298 ⟨by omega, by omega⟩ ⟨by omega, by omega⟩ ⟨by omega, by omega⟩ ⟨by omega, by omega⟩ ⟨by omega, by omega⟩ (by omega) (by omega) (by omega) (by omega) (w_3.lf (by omega) c0_ (by omega) lf_ (fun j => by rw [e_s2298, x_up_at, show x4.toNat = x4.toNat by omega]))  (by omega)
                  · skip
                    have y_ : s0 48 b.toNat = z2296 := by rw [← (pY.2 b (by omega) (by omega) (by omega)).1.2, ← f 262 b.toNat (show 4480 ∉ [6272] from by decide), ← show x2 = b by omega]; exact e_z2296.symm
                    have lf_ : ((1 : Int) = 1 ∧ mP s0 d (1000 * (z2286 - 2) + z2289) b) ∨ ((1 : Int) = 0 ∧ ¬ mP s0 d (1000 * (z2286 - 2) + z2289) b) := by rw [mP5 (by omega), y_]; omega
                    refine x_A k203_255 (fun _ => rfl) ?_
                    refine x_goto k203_256 (t := 260) rfl ?_
                    refine x_bast k203_260 (q := 290) (n := 120) ⟨by decide, rfl⟩ (by decide) ⟨by omega, by omega⟩ ⟨by omega, by omega⟩ ?_
                    refine x_nh (fun s2304 e_s2304 => ?_)
                    have hG_s2304 : GI s2304 := by rw [e_s2304]; exact hG.up (show 0 ≤ 1 ∧ 1 ≤ 1 from ⟨by omega, by omega⟩)
                    have f_s2304 : FL [6272] s0 s2304 := by rw [e_s2304]; exact f.up (show 6272 ∈ [6272] from by decide)
                    have q2305 : s2304 286 x1.toNat = z2281 := by rw [e_s2304, x_up_q (by omega)]; exact e_z2281.symm
                    have q2306 : s2304 287 z2285.toNat = z2286 := by rw [e_s2304, x_up_q (by omega)]; exact e_z2286.symm
                    have q2307 : s2304 288 z2288.toNat = z2289 := by rw [e_s2304, x_up_q (by omega)]; exact e_z2289.symm
                    have q2308 : s2304 262 x2.toNat = z2296 := by rw [e_s2304, x_up_q (by omega)]; exact e_z2296.symm
                    have q2309 : s2304 290 x4.toNat = 1 := by rw [e_s2304]; exact x_up_same
                    refine x_iinc k203_261 (ls' := [(4, vi (x4 + 1)), (7, vi z2289), (6, vi z2286), (0, .ref 256), (1, vi x1), (2, vi x2), (3, vi x3), (5, vi x5)]) rfl (by decide) rfl ?_
                    refine x_iinc k203_264 (ls' := [(5, vi (x5 + 1)), (4, vi (x4 + 1)), (7, vi z2289), (6, vi z2286), (0, .ref 256), (1, vi x1), (2, vi x2), (3, vi x3)]) rfl (by decide) rfl ?_
                    refine x_goto k203_267 (t := 6) rfl ?_
                    refine x_ls (l := [(0, .ref 256), (1, vi x1), (2, vi x2), (3, vi x3), (4, vi (x4 + 1)), (5, vi (x5 + 1))]) (show ([0, 1, 2, 3, 4, 5] : List Nat).Nodup from by decide) ⟨rfl, rfl, rfl, rfl, rfl, rfl, trivial⟩ ?_
                    exact ih s2304 x1 x2 x3 (x4 + 1) (x5 + 1) hG_s2304 f_s2304 ⟨by omega, by omega⟩ ⟨by omega, by omega⟩ ⟨by omega, by omega⟩ ⟨by omega, by omega⟩ ⟨by omega, by omega⟩ (by omega) (by omega) (by omega) (by omega) (w_3.lf (by omega) c0_ (by omega) lf_ (fun j => by rw [e_s2304, x_up_at, show x4.toNat = x4.toNat by omega]))  (by omega)
                · skip
                  refine x_A k203_225 (fun _ => rfl) ?_
                  refine x_getR k203_226 (f := 7) rfl (q := 256) (n := 62) (kd := 15) ⟨by decide, rfl⟩ (q2 := 261) (by decide) rfl ?_
                  refine x_A k203_229 (fun _ => rfl) ?_
                  refine x_iald k203_230 (q := 261) (n := 40) ⟨by decide, rfl⟩ (by decide) ⟨by omega, by omega⟩ ?_
                  refine x_top (fun z2310 e_z2310 => ?_)
                  have g_z2310 : (0 : Int) ≤ s 261 x2.toNat ∧ s 261 x2.toNat ≤ 999 := hG 261 x2.toNat
                  refine x_A k203_231 (fun _ => rfl) ?_
                  refine x_ic_ge k203_233 (t := 240) rfl ⟨by omega, by omega⟩ ⟨by omega, by omega⟩ (fun c2311 => ?_) (fun c2311 => ?_)
                  · skip
                    have y_ : s0 47 b.toNat = z2310 := by rw [← (pY.2 b (by omega) (by omega) (by omega)).1.1, ← f 261 b.toNat (show 4416 ∉ [6272] from by decide), ← show x2 = b by omega]; exact e_z2310.symm
                    have lf_ : ((0 : Int) = 1 ∧ mP s0 d (1000 * (z2286 - 2) + z2289) b) ∨ ((0 : Int) = 0 ∧ ¬ mP s0 d (1000 * (z2286 - 2) + z2289) b) := by rw [mP4 (by omega), y_]; omega
                    refine x_A k203_240 (fun _ => rfl) ?_
                    refine x_goto k203_241 (t := 260) rfl ?_
                    refine x_bast k203_260 (q := 290) (n := 120) ⟨by decide, rfl⟩ (by decide) ⟨by omega, by omega⟩ ⟨by omega, by omega⟩ ?_
                    refine x_nh (fun s2312 e_s2312 => ?_)
                    have hG_s2312 : GI s2312 := by rw [e_s2312]; exact hG.up (show 0 ≤ 0 ∧ 0 ≤ 1 from ⟨by omega, by omega⟩)
                    have f_s2312 : FL [6272] s0 s2312 := by rw [e_s2312]; exact f.up (show 6272 ∈ [6272] from by decide)
                    have q2313 : s2312 286 x1.toNat = z2281 := by rw [e_s2312, x_up_q (by omega)]; exact e_z2281.symm
                    have q2314 : s2312 287 z2285.toNat = z2286 := by rw [e_s2312, x_up_q (by omega)]; exact e_z2286.symm
                    have q2315 : s2312 288 z2288.toNat = z2289 := by rw [e_s2312, x_up_q (by omega)]; exact e_z2289.symm
                    have q2316 : s2312 261 x2.toNat = z2310 := by rw [e_s2312, x_up_q (by omega)]; exact e_z2310.symm
                    have q2317 : s2312 290 x4.toNat = 0 := by rw [e_s2312]; exact x_up_same
                    refine x_iinc k203_261 (ls' := [(4, vi (x4 + 1)), (7, vi z2289), (6, vi z2286), (0, .ref 256), (1, vi x1), (2, vi x2), (3, vi x3), (5, vi x5)]) rfl (by decide) rfl ?_
                    refine x_iinc k203_264 (ls' := [(5, vi (x5 + 1)), (4, vi (x4 + 1)), (7, vi z2289), (6, vi z2286), (0, .ref 256), (1, vi x1), (2, vi x2), (3, vi x3)]) rfl (by decide) rfl ?_
                    refine x_goto k203_267 (t := 6) rfl ?_
                    refine x_ls (l := [(0, .ref 256), (1, vi x1), (2, vi x2), (3, vi x3), (4, vi (x4 + 1)), (5, vi (x5 + 1))]) (show ([0, 1, 2, 3, 4, 5] : List Nat).Nodup from by decide) ⟨rfl, rfl, rfl, rfl, rfl, rfl, trivial⟩ ?_
                    exact ih s2312 x1 x2 x3 (x4 + 1) (x5 + 1) hG_s2312 f_s2312 ⟨by omega, by omega⟩ ⟨by omega, by omega⟩ ⟨by omega, by omega⟩ ⟨by omega, by omega⟩ ⟨by omega, by omega⟩ (by omega) (by omega) (by omega) (by omega) (w_3.lf (by omega) c0_ (by omega) lf_ (fun j => by rw [e_s2312, x_up_at, show x4.toNat = x4.toNat by omega]))  (by omega)
                  · skip
                    have y_ : s0 47 b.toNat = z2310 := by rw [← (pY.2 b (by omega) (by omega) (by omega)).1.1, ← f 261 b.toNat (show 4416 ∉ [6272] from by decide), ← show x2 = b by omega]; exact e_z2310.symm
                    have lf_ : ((1 : Int) = 1 ∧ mP s0 d (1000 * (z2286 - 2) + z2289) b) ∨ ((1 : Int) = 0 ∧ ¬ mP s0 d (1000 * (z2286 - 2) + z2289) b) := by rw [mP4 (by omega), y_]; omega
                    refine x_A k203_236 (fun _ => rfl) ?_
                    refine x_goto k203_237 (t := 260) rfl ?_
                    refine x_bast k203_260 (q := 290) (n := 120) ⟨by decide, rfl⟩ (by decide) ⟨by omega, by omega⟩ ⟨by omega, by omega⟩ ?_
                    refine x_nh (fun s2318 e_s2318 => ?_)
                    have hG_s2318 : GI s2318 := by rw [e_s2318]; exact hG.up (show 0 ≤ 1 ∧ 1 ≤ 1 from ⟨by omega, by omega⟩)
                    have f_s2318 : FL [6272] s0 s2318 := by rw [e_s2318]; exact f.up (show 6272 ∈ [6272] from by decide)
                    have q2319 : s2318 286 x1.toNat = z2281 := by rw [e_s2318, x_up_q (by omega)]; exact e_z2281.symm
                    have q2320 : s2318 287 z2285.toNat = z2286 := by rw [e_s2318, x_up_q (by omega)]; exact e_z2286.symm
                    have q2321 : s2318 288 z2288.toNat = z2289 := by rw [e_s2318, x_up_q (by omega)]; exact e_z2289.symm
                    have q2322 : s2318 261 x2.toNat = z2310 := by rw [e_s2318, x_up_q (by omega)]; exact e_z2310.symm
                    have q2323 : s2318 290 x4.toNat = 1 := by rw [e_s2318]; exact x_up_same
                    refine x_iinc k203_261 (ls' := [(4, vi (x4 + 1)), (7, vi z2289), (6, vi z2286), (0, .ref 256), (1, vi x1), (2, vi x2), (3, vi x3), (5, vi x5)]) rfl (by decide) rfl ?_
                    refine x_iinc k203_264 (ls' := [(5, vi (x5 + 1)), (4, vi (x4 + 1)), (7, vi z2289), (6, vi z2286), (0, .ref 256), (1, vi x1), (2, vi x2), (3, vi x3)]) rfl (by decide) rfl ?_
                    refine x_goto k203_267 (t := 6) rfl ?_
                    refine x_ls (l := [(0, .ref 256), (1, vi x1), (2, vi x2), (3, vi x3), (4, vi (x4 + 1)), (5, vi (x5 + 1))]) (show ([0, 1, 2, 3, 4, 5] : List Nat).Nodup from by decide) ⟨rfl, rfl, rfl, rfl, rfl, rfl, trivial⟩ ?_
                    exact ih s2318 x1 x2 x3 (x4 + 1) (x5 + 1) hG_s2318 f_s2318 ⟨by omega, by omega⟩ ⟨by omega, by omega⟩ ⟨by omega, by omega⟩ ⟨by omega, by omega⟩ ⟨by omega, by omega⟩ (by omega) (by omega) (by omega) (by omega) (w_3.lf (by omega) c0_ (by omega) lf_ (fun j => by rw [e_s2318, x_up_at, show x4.toNat = x4.toNat by omega]))  (by omega)
              · skip
                refine x_A k203_207 (fun _ => rfl) ?_
                refine x_A k203_208 (fun _ => rfl) ?_
                refine x_A k203_209 (fun _ => rfl) ?_
                refine x_A k203_211 (fun _ => rfl) ?_
                refine x_callV k203_212 (y := 201) (n := 3) (w0 := 2) (w1 := 3) (as := [vi x2, vi z2289, vi x3]) (rest := [vi x4, .ref 290]) (by decide +kernel) (q := 256) (nq := 62) (kq := 15) ⟨by decide, rfl⟩ rfl rfl rfl rfl (xe_mono (E_X11_hasHand_256 s hG x2 ⟨by omega, by omega⟩ z2289 ⟨by omega, by omega⟩ x3 ⟨by omega, by omega⟩ (pG1.fl f (by decide)) (pG3.fl f (by decide))) ?_)
                rintro s2325 v ⟨-, t_s2325, z2324, rfl, g_z2324, xp_z2324⟩
                rw [t_s2325.nil]
                try rw [t_s2325.nil] at xp_z2324
                show xe none 203 215 [(7, vi z2289), (6, vi z2286), (0, .ref 256), (1, vi x1), (2, vi x2), (3, vi x3), (4, vi x4), (5, vi x5)] [vi z2324, vi x4, .ref 290] s 0 0 _
                have sh_ := xp_z2324
                have v_ : VE s s0 := FL.ve f hG0 (by decide)
                rw [show x2 = b by omega, show x3 = d by omega, hdC.cg v_ (funext fun i => f 53 i (show 896 ∉ [6272] from by decide))] at sh_
                have lf_ : (z2324 = 1 ∧ mP s0 d (1000 * (z2286 - 2) + z2289) b) ∨ (z2324 = 0 ∧ ¬ mP s0 d (1000 * (z2286 - 2) + z2289) b) := by rw [mP3 (by omega), show (1000 * (z2286 - 2) + z2289) - 3000 = z2289 by omega]; exact sh_
                refine x_goto k203_215 (t := 260) rfl ?_
                refine x_bast k203_260 (q := 290) (n := 120) ⟨by decide, rfl⟩ (by decide) ⟨by omega, by omega⟩ ⟨by omega, by omega⟩ ?_
                refine x_nh (fun s2326 e_s2326 => ?_)
                have hG_s2326 : GI s2326 := by rw [e_s2326]; exact hG.up (show 0 ≤ z2324 ∧ z2324 ≤ 1 from ⟨by omega, by omega⟩)
                have f_s2326 : FL [6272] s0 s2326 := by rw [e_s2326]; exact f.up (show 6272 ∈ [6272] from by decide)
                have q2327 : s2326 286 x1.toNat = z2281 := by rw [e_s2326, x_up_q (by omega)]; exact e_z2281.symm
                have q2328 : s2326 287 z2285.toNat = z2286 := by rw [e_s2326, x_up_q (by omega)]; exact e_z2286.symm
                have q2329 : s2326 288 z2288.toNat = z2289 := by rw [e_s2326, x_up_q (by omega)]; exact e_z2289.symm
                have q2330 : s2326 290 x4.toNat = z2324 := by rw [e_s2326]; exact x_up_same
                refine x_iinc k203_261 (ls' := [(4, vi (x4 + 1)), (7, vi z2289), (6, vi z2286), (0, .ref 256), (1, vi x1), (2, vi x2), (3, vi x3), (5, vi x5)]) rfl (by decide) rfl ?_
                refine x_iinc k203_264 (ls' := [(5, vi (x5 + 1)), (4, vi (x4 + 1)), (7, vi z2289), (6, vi z2286), (0, .ref 256), (1, vi x1), (2, vi x2), (3, vi x3)]) rfl (by decide) rfl ?_
                refine x_goto k203_267 (t := 6) rfl ?_
                refine x_ls (l := [(0, .ref 256), (1, vi x1), (2, vi x2), (3, vi x3), (4, vi (x4 + 1)), (5, vi (x5 + 1))]) (show ([0, 1, 2, 3, 4, 5] : List Nat).Nodup from by decide) ⟨rfl, rfl, rfl, rfl, rfl, rfl, trivial⟩ ?_
                exact ih s2326 x1 x2 x3 (x4 + 1) (x5 + 1) hG_s2326 f_s2326 ⟨by omega, by omega⟩ ⟨by omega, by omega⟩ ⟨by omega, by omega⟩ ⟨by omega, by omega⟩ ⟨by omega, by omega⟩ (by omega) (by omega) (by omega) (by omega) (w_3.lf (by omega) c0_ (by omega) lf_ (fun j => by rw [e_s2326, x_up_at, show x4.toNat = x4.toNat by omega]))  (by omega)
            · skip
              refine x_A k203_191 (fun _ => rfl) ?_
              refine x_A k203_192 (fun _ => rfl) ?_
              refine x_A k203_193 (fun _ => rfl) ?_
              refine x_callV k203_195 (y := 202) (n := 2) (w0 := 2) (w1 := 2) (as := [vi x2, vi z2289]) (rest := [vi x4, .ref 290]) (by decide +kernel) (q := 256) (nq := 62) (kq := 15) ⟨by decide, rfl⟩ rfl rfl rfl rfl (xe_mono (E_X11_showsWord_256 s hG x2 ⟨by omega, by omega⟩ z2289 ⟨by omega, by omega⟩) ?_)
              rintro s2332 v ⟨-, t_s2332, z2331, rfl, g_z2331, xp_z2331⟩
              rw [t_s2332.nil]
              try rw [t_s2332.nil] at xp_z2331
              show xe none 203 198 [(7, vi z2289), (6, vi z2286), (0, .ref 256), (1, vi x1), (2, vi x2), (3, vi x3), (4, vi x4), (5, vi x5)] [vi z2331, vi x4, .ref 290] s 0 0 _
              have sh_ := xp_z2331
              rw [swR.eq (s := s0) (s' := s) (funext fun i => f 282 i (show 5760 ∉ [6272] from by decide)) (f 256 40 (show 4137 ∉ [6272] from by decide)) (funext fun i => f 284 i (show 5888 ∉ [6272] from by decide)) (funext fun i => f 285 i (show 5952 ∉ [6272] from by decide)), show x2 = b by omega, swR_of pz pW hG0 ⟨by omega, by omega⟩ (by omega)] at sh_
              have lf_ : (z2331 = 1 ∧ mP s0 d (1000 * (z2286 - 2) + z2289) b) ∨ (z2331 = 0 ∧ ¬ mP s0 d (1000 * (z2286 - 2) + z2289) b) := by rw [mP2 (by omega), show (1000 * (z2286 - 2) + z2289) - 2000 = z2289 by omega]; exact sh_
              refine x_goto k203_198 (t := 260) rfl ?_
              refine x_bast k203_260 (q := 290) (n := 120) ⟨by decide, rfl⟩ (by decide) ⟨by omega, by omega⟩ ⟨by omega, by omega⟩ ?_
              refine x_nh (fun s2333 e_s2333 => ?_)
              have hG_s2333 : GI s2333 := by rw [e_s2333]; exact hG.up (show 0 ≤ z2331 ∧ z2331 ≤ 1 from ⟨by omega, by omega⟩)
              have f_s2333 : FL [6272] s0 s2333 := by rw [e_s2333]; exact f.up (show 6272 ∈ [6272] from by decide)
              have q2334 : s2333 286 x1.toNat = z2281 := by rw [e_s2333, x_up_q (by omega)]; exact e_z2281.symm
              have q2335 : s2333 287 z2285.toNat = z2286 := by rw [e_s2333, x_up_q (by omega)]; exact e_z2286.symm
              have q2336 : s2333 288 z2288.toNat = z2289 := by rw [e_s2333, x_up_q (by omega)]; exact e_z2289.symm
              have q2337 : s2333 290 x4.toNat = z2331 := by rw [e_s2333]; exact x_up_same
              refine x_iinc k203_261 (ls' := [(4, vi (x4 + 1)), (7, vi z2289), (6, vi z2286), (0, .ref 256), (1, vi x1), (2, vi x2), (3, vi x3), (5, vi x5)]) rfl (by decide) rfl ?_
              refine x_iinc k203_264 (ls' := [(5, vi (x5 + 1)), (4, vi (x4 + 1)), (7, vi z2289), (6, vi z2286), (0, .ref 256), (1, vi x1), (2, vi x2), (3, vi x3)]) rfl (by decide) rfl ?_
              refine x_goto k203_267 (t := 6) rfl ?_
              refine x_ls (l := [(0, .ref 256), (1, vi x1), (2, vi x2), (3, vi x3), (4, vi (x4 + 1)), (5, vi (x5 + 1))]) (show ([0, 1, 2, 3, 4, 5] : List Nat).Nodup from by decide) ⟨rfl, rfl, rfl, rfl, rfl, rfl, trivial⟩ ?_
              exact ih s2333 x1 x2 x3 (x4 + 1) (x5 + 1) hG_s2333 f_s2333 ⟨by omega, by omega⟩ ⟨by omega, by omega⟩ ⟨by omega, by omega⟩ ⟨by omega, by omega⟩ ⟨by omega, by omega⟩ (by omega) (by omega) (by omega) (by omega) (w_3.lf (by omega) c0_ (by omega) lf_ (fun j => by rw [e_s2333, x_up_at, show x4.toNat = x4.toNat by omega]))  (by omega)
          · skip
            refine x_A k203_175 (fun _ => rfl) ?_
            refine x_A k203_176 (fun _ => rfl) ?_
            refine x_A k203_177 (fun _ => rfl) ?_
            refine x_callV k203_179 (y := 169) (n := 2) (w0 := 2) (w1 := 2) (as := [vi x2, vi z2289]) (rest := [vi x4, .ref 290]) (by decide +kernel) (q := 256) (nq := 62) (kq := 15) ⟨by decide, rfl⟩ rfl rfl rfl rfl (xe_mono (E_X11_shows_256 s hG x2 ⟨by omega, by omega⟩ z2289 ⟨by omega, by omega⟩) ?_)
            rintro s2339 v ⟨-, t_s2339, z2338, rfl, g_z2338, xp_z2338⟩
            rw [t_s2339.nil]
            try rw [t_s2339.nil] at xp_z2338
            show xe none 203 182 [(7, vi z2289), (6, vi z2286), (0, .ref 256), (1, vi x1), (2, vi x2), (3, vi x3), (4, vi x4), (5, vi x5)] [vi z2338, vi x4, .ref 290] s 0 0 _
            have sh_ := xp_z2338
            rw [shR.eq (funext fun i => f 282 i (show 5760 ∉ [6272] from by decide)), show x2 = b by omega, FdZ.sh pz ⟨by omega, by omega⟩ ⟨by omega, by omega⟩] at sh_
            have lf_ : (z2338 = 1 ∧ mP s0 d (1000 * (z2286 - 2) + z2289) b) ∨ (z2338 = 0 ∧ ¬ mP s0 d (1000 * (z2286 - 2) + z2289) b) := by rw [mP1 (by omega), show (1000 * (z2286 - 2) + z2289) - 1000 = z2289 by omega]; exact sh_
            refine x_goto k203_182 (t := 260) rfl ?_
            refine x_bast k203_260 (q := 290) (n := 120) ⟨by decide, rfl⟩ (by decide) ⟨by omega, by omega⟩ ⟨by omega, by omega⟩ ?_
            refine x_nh (fun s2340 e_s2340 => ?_)
            have hG_s2340 : GI s2340 := by rw [e_s2340]; exact hG.up (show 0 ≤ z2338 ∧ z2338 ≤ 1 from ⟨by omega, by omega⟩)
            have f_s2340 : FL [6272] s0 s2340 := by rw [e_s2340]; exact f.up (show 6272 ∈ [6272] from by decide)
            have q2341 : s2340 286 x1.toNat = z2281 := by rw [e_s2340, x_up_q (by omega)]; exact e_z2281.symm
            have q2342 : s2340 287 z2285.toNat = z2286 := by rw [e_s2340, x_up_q (by omega)]; exact e_z2286.symm
            have q2343 : s2340 288 z2288.toNat = z2289 := by rw [e_s2340, x_up_q (by omega)]; exact e_z2289.symm
            have q2344 : s2340 290 x4.toNat = z2338 := by rw [e_s2340]; exact x_up_same
            refine x_iinc k203_261 (ls' := [(4, vi (x4 + 1)), (7, vi z2289), (6, vi z2286), (0, .ref 256), (1, vi x1), (2, vi x2), (3, vi x3), (5, vi x5)]) rfl (by decide) rfl ?_
            refine x_iinc k203_264 (ls' := [(5, vi (x5 + 1)), (4, vi (x4 + 1)), (7, vi z2289), (6, vi z2286), (0, .ref 256), (1, vi x1), (2, vi x2), (3, vi x3)]) rfl (by decide) rfl ?_
            refine x_goto k203_267 (t := 6) rfl ?_
            refine x_ls (l := [(0, .ref 256), (1, vi x1), (2, vi x2), (3, vi x3), (4, vi (x4 + 1)), (5, vi (x5 + 1))]) (show ([0, 1, 2, 3, 4, 5] : List Nat).Nodup from by decide) ⟨rfl, rfl, rfl, rfl, rfl, rfl, trivial⟩ ?_
            exact ih s2340 x1 x2 x3 (x4 + 1) (x5 + 1) hG_s2340 f_s2340 ⟨by omega, by omega⟩ ⟨by omega, by omega⟩ ⟨by omega, by omega⟩ ⟨by omega, by omega⟩ ⟨by omega, by omega⟩ (by omega) (by omega) (by omega) (by omega) (w_3.lf (by omega) c0_ (by omega) lf_ (fun j => by rw [e_s2340, x_up_at, show x4.toNat = x4.toNat by omega]))  (by omega)
        · skip
          rw [if_pos (show z2286 < 3 by omega)] at c0_
          rw [c0_] at oc_ od1_ od2_
          refine x_A k203_134 (fun _ => rfl) ?_
          refine x_getR k203_135 (f := 52) rfl (q := 256) (n := 62) (kd := 15) ⟨by decide, rfl⟩ (q2 := 290) (by decide) rfl ?_
          refine x_A k203_138 (fun _ => rfl) ?_
          refine x_A k203_140 (fun _ => rfl) ?_
          refine x_isub k203_141 ?_
          refine x_top (fun z2345 e_z2345 => ?_)
          refine x_A k203_142 (fun _ => rfl) ?_
          refine x_getR k203_143 (f := 52) rfl (q := 256) (n := 62) (kd := 15) ⟨by decide, rfl⟩ (q2 := 290) (by decide) rfl ?_
          refine x_A k203_146 (fun _ => rfl) ?_
          refine x_A k203_148 (fun _ => rfl) ?_
          refine x_isub k203_149 ?_
          refine x_top (fun z2346 e_z2346 => ?_)
          refine x_bald k203_150 (q := 290) (n := 120) ⟨by decide, rfl⟩ (by decide) ⟨by omega, by omega⟩ ?_
          refine x_top (fun z2347 e_z2347 => ?_)
          have g_z2347 : (0 : Int) ≤ s 290 z2346.toNat ∧ s 290 z2346.toNat ≤ 1 := hG 290 z2346.toNat
          have rx1_ : s 290 (x4 - 1).toNat = z2347 := by rw [show (x4 - 1).toNat = z2346.toNat by omega]; exact e_z2347.symm
          refine x_if_ne k203_151 (t := 158) rfl ⟨by omega, by omega⟩ (fun c2348 => ?_) (fun c2348 => ?_)
          · skip
            refine x_A k203_158 (fun _ => rfl) ?_
            refine x_bast k203_159 (q := 290) (n := 120) ⟨by decide, rfl⟩ (by decide) ⟨by omega, by omega⟩ ⟨by omega, by omega⟩ ?_
            refine x_nh (fun s2349 e_s2349 => ?_)
            have hG_s2349 : GI s2349 := by rw [e_s2349]; exact hG.up (show 0 ≤ 0 ∧ 0 ≤ 1 from ⟨by omega, by omega⟩)
            have f_s2349 : FL [6272] s0 s2349 := by rw [e_s2349]; exact f.up (show 6272 ∈ [6272] from by decide)
            have q2350 : s2349 286 x1.toNat = z2281 := by rw [e_s2349, x_up_q (by omega)]; exact e_z2281.symm
            have q2351 : s2349 287 z2285.toNat = z2286 := by rw [e_s2349, x_up_q (by omega)]; exact e_z2286.symm
            have q2352 : s2349 288 z2288.toNat = z2289 := by rw [e_s2349, x_up_q (by omega)]; exact e_z2289.symm
            have q2353 : s2349 290 z2345.toNat = 0 := by rw [e_s2349]; exact x_up_same
            refine x_goto k203_160 (t := 264) rfl ?_
            refine x_iinc k203_264 (ls' := [(5, vi (x5 + 1)), (7, vi z2289), (6, vi z2286), (0, .ref 256), (1, vi x1), (2, vi x2), (3, vi x3), (4, vi x4)]) rfl (by decide) rfl ?_
            refine x_goto k203_267 (t := 6) rfl ?_
            refine x_ls (l := [(0, .ref 256), (1, vi x1), (2, vi x2), (3, vi x3), (4, vi x4), (5, vi (x5 + 1))]) (show ([0, 1, 2, 3, 4, 5] : List Nat).Nodup from by decide) ⟨rfl, rfl, rfl, rfl, rfl, rfl, trivial⟩ ?_
            exact ih s2349 x1 x2 x3 x4 (x5 + 1) hG_s2349 f_s2349 ⟨by omega, by omega⟩ ⟨by omega, by omega⟩ ⟨by omega, by omega⟩ ⟨by omega, by omega⟩ ⟨by omega, by omega⟩ (by omega) (by omega) (by omega) (by omega) (w_3.no (z := 0) (by omega) c0_ (by omega) (by omega) rx1_ (by omega) (fun j => by rw [e_s2349, x_up_at, show z2345.toNat = (x4 - 1).toNat by omega]))  (by omega)
          · skip
            refine x_A k203_154 (fun _ => rfl) ?_
            refine x_goto k203_155 (t := 159) rfl ?_
            refine x_bast k203_159 (q := 290) (n := 120) ⟨by decide, rfl⟩ (by decide) ⟨by omega, by omega⟩ ⟨by omega, by omega⟩ ?_
            refine x_nh (fun s2354 e_s2354 => ?_)
            have hG_s2354 : GI s2354 := by rw [e_s2354]; exact hG.up (show 0 ≤ 1 ∧ 1 ≤ 1 from ⟨by omega, by omega⟩)
            have f_s2354 : FL [6272] s0 s2354 := by rw [e_s2354]; exact f.up (show 6272 ∈ [6272] from by decide)
            have q2355 : s2354 286 x1.toNat = z2281 := by rw [e_s2354, x_up_q (by omega)]; exact e_z2281.symm
            have q2356 : s2354 287 z2285.toNat = z2286 := by rw [e_s2354, x_up_q (by omega)]; exact e_z2286.symm
            have q2357 : s2354 288 z2288.toNat = z2289 := by rw [e_s2354, x_up_q (by omega)]; exact e_z2289.symm
            have q2358 : s2354 290 z2345.toNat = 1 := by rw [e_s2354]; exact x_up_same
            refine x_goto k203_160 (t := 264) rfl ?_
            refine x_iinc k203_264 (ls' := [(5, vi (x5 + 1)), (7, vi z2289), (6, vi z2286), (0, .ref 256), (1, vi x1), (2, vi x2), (3, vi x3), (4, vi x4)]) rfl (by decide) rfl ?_
            refine x_goto k203_267 (t := 6) rfl ?_
            refine x_ls (l := [(0, .ref 256), (1, vi x1), (2, vi x2), (3, vi x3), (4, vi x4), (5, vi (x5 + 1))]) (show ([0, 1, 2, 3, 4, 5] : List Nat).Nodup from by decide) ⟨rfl, rfl, rfl, rfl, rfl, rfl, trivial⟩ ?_
            exact ih s2354 x1 x2 x3 x4 (x5 + 1) hG_s2354 f_s2354 ⟨by omega, by omega⟩ ⟨by omega, by omega⟩ ⟨by omega, by omega⟩ ⟨by omega, by omega⟩ ⟨by omega, by omega⟩ (by omega) (by omega) (by omega) (by omega) (w_3.no (z := 1) (by omega) c0_ (by omega) (by omega) rx1_ (by omega) (fun j => by rw [e_s2354, x_up_at, show z2345.toNat = (x4 - 1).toNat by omega]))  (by omega)
      · skip
        rw [if_pos (show z2286 < 3 by omega)] at c0_
        rw [c0_] at oc_ od1_ od2_
        refine x_iinc k203_51 (ls' := [(4, vi (x4 + (-1))), (7, vi z2289), (6, vi z2286), (0, .ref 256), (1, vi x1), (2, vi x2), (3, vi x3), (5, vi x5)]) rfl (by decide) rfl ?_
        refine x_A k203_54 (fun _ => rfl) ?_
        refine x_getR k203_55 (f := 52) rfl (q := 256) (n := 62) (kd := 15) ⟨by decide, rfl⟩ (q2 := 290) (by decide) rfl ?_
        refine x_A k203_58 (fun _ => rfl) ?_
        refine x_A k203_60 (fun _ => rfl) ?_
        refine x_isub k203_61 ?_
        refine x_top (fun z2359 e_z2359 => ?_)
        refine x_A k203_62 (fun _ => rfl) ?_
        refine x_if_ne k203_64 (t := 97) rfl ⟨by omega, by omega⟩ (fun c2360 => ?_) (fun c2360 => ?_)
        · skip
          refine x_A k203_97 (fun _ => rfl) ?_
          refine x_getR k203_98 (f := 52) rfl (q := 256) (n := 62) (kd := 15) ⟨by decide, rfl⟩ (q2 := 290) (by decide) rfl ?_
          refine x_A k203_101 (fun _ => rfl) ?_
          refine x_A k203_103 (fun _ => rfl) ?_
          refine x_isub k203_104 ?_
          refine x_top (fun z2361 e_z2361 => ?_)
          refine x_bald k203_105 (q := 290) (n := 120) ⟨by decide, rfl⟩ (by decide) ⟨by omega, by omega⟩ ?_
          refine x_top (fun z2362 e_z2362 => ?_)
          have g_z2362 : (0 : Int) ≤ s 290 z2361.toNat ∧ s 290 z2361.toNat ≤ 1 := hG 290 z2361.toNat
          have rx_ : s 290 (x4 - 2).toNat = z2362 := by rw [show (x4 - 2).toNat = z2361.toNat by omega]; exact e_z2362.symm
          refine x_if_eq k203_106 (t := 123) rfl ⟨by omega, by omega⟩ (fun c2363 => ?_) (fun c2363 => ?_)
          · skip
            refine x_A k203_123 (fun _ => rfl) ?_
            refine x_bast k203_124 (q := 290) (n := 120) ⟨by decide, rfl⟩ (by decide) ⟨by omega, by omega⟩ ⟨by omega, by omega⟩ ?_
            refine x_nh (fun s2364 e_s2364 => ?_)
            have hG_s2364 : GI s2364 := by rw [e_s2364]; exact hG.up (show 0 ≤ 0 ∧ 0 ≤ 1 from ⟨by omega, by omega⟩)
            have f_s2364 : FL [6272] s0 s2364 := by rw [e_s2364]; exact f.up (show 6272 ∈ [6272] from by decide)
            have q2365 : s2364 286 x1.toNat = z2281 := by rw [e_s2364, x_up_q (by omega)]; exact e_z2281.symm
            have q2366 : s2364 287 z2285.toNat = z2286 := by rw [e_s2364, x_up_q (by omega)]; exact e_z2286.symm
            have q2367 : s2364 288 z2288.toNat = z2289 := by rw [e_s2364, x_up_q (by omega)]; exact e_z2289.symm
            have q2368 : s2364 290 z2359.toNat = 0 := by rw [e_s2364]; exact x_up_same
            refine x_goto k203_125 (t := 264) rfl ?_
            refine x_iinc k203_264 (ls' := [(5, vi (x5 + 1)), (4, vi (x4 + (-1))), (7, vi z2289), (6, vi z2286), (0, .ref 256), (1, vi x1), (2, vi x2), (3, vi x3)]) rfl (by decide) rfl ?_
            refine x_goto k203_267 (t := 6) rfl ?_
            refine x_ls (l := [(0, .ref 256), (1, vi x1), (2, vi x2), (3, vi x3), (4, vi (x4 + (-1))), (5, vi (x5 + 1))]) (show ([0, 1, 2, 3, 4, 5] : List Nat).Nodup from by decide) ⟨rfl, rfl, rfl, rfl, rfl, rfl, trivial⟩ ?_
            exact ih s2364 x1 x2 x3 (x4 + (-1)) (x5 + 1) hG_s2364 f_s2364 ⟨by omega, by omega⟩ ⟨by omega, by omega⟩ ⟨by omega, by omega⟩ ⟨by omega, by omega⟩ ⟨by omega, by omega⟩ (by omega) (by omega) (by omega) (by omega) (w_3.bi (x := s 290 (x4 - 2).toNat) (y := s 290 (x4 - 1).toNat) (z := 0) (by omega) c0_ ⟨by omega, by omega⟩ (by omega) rfl rfl (by omega) (fun j => by rw [e_s2364, x_up_at, show z2359.toNat = (x4 - 2).toNat by omega]))  (by omega)
          · skip
            refine x_A k203_109 (fun _ => rfl) ?_
            refine x_getR k203_110 (f := 52) rfl (q := 256) (n := 62) (kd := 15) ⟨by decide, rfl⟩ (q2 := 290) (by decide) rfl ?_
            refine x_A k203_113 (fun _ => rfl) ?_
            refine x_bald k203_115 (q := 290) (n := 120) ⟨by decide, rfl⟩ (by decide) ⟨by omega, by omega⟩ ?_
            refine x_top (fun z2369 e_z2369 => ?_)
            have g_z2369 : (0 : Int) ≤ s 290 ((x4 + (-1))).toNat ∧ s 290 ((x4 + (-1))).toNat ≤ 1 := hG 290 ((x4 + (-1))).toNat
            have ry_ : s 290 (x4 - 1).toNat = z2369 := by rw [show (x4 - 1).toNat = (x4 + (-1)).toNat by omega]; exact e_z2369.symm
            refine x_if_eq k203_116 (t := 123) rfl ⟨by omega, by omega⟩ (fun c2370 => ?_) (fun c2370 => ?_)
            · skip
              refine x_A k203_123 (fun _ => rfl) ?_
              refine x_bast k203_124 (q := 290) (n := 120) ⟨by decide, rfl⟩ (by decide) ⟨by omega, by omega⟩ ⟨by omega, by omega⟩ ?_
              refine x_nh (fun s2371 e_s2371 => ?_)
              have hG_s2371 : GI s2371 := by rw [e_s2371]; exact hG.up (show 0 ≤ 0 ∧ 0 ≤ 1 from ⟨by omega, by omega⟩)
              have f_s2371 : FL [6272] s0 s2371 := by rw [e_s2371]; exact f.up (show 6272 ∈ [6272] from by decide)
              have q2372 : s2371 286 x1.toNat = z2281 := by rw [e_s2371, x_up_q (by omega)]; exact e_z2281.symm
              have q2373 : s2371 287 z2285.toNat = z2286 := by rw [e_s2371, x_up_q (by omega)]; exact e_z2286.symm
              have q2374 : s2371 288 z2288.toNat = z2289 := by rw [e_s2371, x_up_q (by omega)]; exact e_z2289.symm
              have q2375 : s2371 290 z2359.toNat = 0 := by rw [e_s2371]; exact x_up_same
              refine x_goto k203_125 (t := 264) rfl ?_
              refine x_iinc k203_264 (ls' := [(5, vi (x5 + 1)), (4, vi (x4 + (-1))), (7, vi z2289), (6, vi z2286), (0, .ref 256), (1, vi x1), (2, vi x2), (3, vi x3)]) rfl (by decide) rfl ?_
              refine x_goto k203_267 (t := 6) rfl ?_
              refine x_ls (l := [(0, .ref 256), (1, vi x1), (2, vi x2), (3, vi x3), (4, vi (x4 + (-1))), (5, vi (x5 + 1))]) (show ([0, 1, 2, 3, 4, 5] : List Nat).Nodup from by decide) ⟨rfl, rfl, rfl, rfl, rfl, rfl, trivial⟩ ?_
              exact ih s2371 x1 x2 x3 (x4 + (-1)) (x5 + 1) hG_s2371 f_s2371 ⟨by omega, by omega⟩ ⟨by omega, by omega⟩ ⟨by omega, by omega⟩ ⟨by omega, by omega⟩ ⟨by omega, by omega⟩ (by omega) (by omega) (by omega) (by omega) (w_3.bi (x := s 290 (x4 - 2).toNat) (y := s 290 (x4 - 1).toNat) (z := 0) (by omega) c0_ ⟨by omega, by omega⟩ (by omega) rfl rfl (by omega) (fun j => by rw [e_s2371, x_up_at, show z2359.toNat = (x4 - 2).toNat by omega]))  (by omega)
            · skip
              refine x_A k203_119 (fun _ => rfl) ?_
              refine x_goto k203_120 (t := 124) rfl ?_
              refine x_bast k203_124 (q := 290) (n := 120) ⟨by decide, rfl⟩ (by decide) ⟨by omega, by omega⟩ ⟨by omega, by omega⟩ ?_
              refine x_nh (fun s2376 e_s2376 => ?_)
              have hG_s2376 : GI s2376 := by rw [e_s2376]; exact hG.up (show 0 ≤ 1 ∧ 1 ≤ 1 from ⟨by omega, by omega⟩)
              have f_s2376 : FL [6272] s0 s2376 := by rw [e_s2376]; exact f.up (show 6272 ∈ [6272] from by decide)
              have q2377 : s2376 286 x1.toNat = z2281 := by rw [e_s2376, x_up_q (by omega)]; exact e_z2281.symm
              have q2378 : s2376 287 z2285.toNat = z2286 := by rw [e_s2376, x_up_q (by omega)]; exact e_z2286.symm
              have q2379 : s2376 288 z2288.toNat = z2289 := by rw [e_s2376, x_up_q (by omega)]; exact e_z2289.symm
              have q2380 : s2376 290 z2359.toNat = 1 := by rw [e_s2376]; exact x_up_same
              refine x_goto k203_125 (t := 264) rfl ?_
              refine x_iinc k203_264 (ls' := [(5, vi (x5 + 1)), (4, vi (x4 + (-1))), (7, vi z2289), (6, vi z2286), (0, .ref 256), (1, vi x1), (2, vi x2), (3, vi x3)]) rfl (by decide) rfl ?_
              refine x_goto k203_267 (t := 6) rfl ?_
              refine x_ls (l := [(0, .ref 256), (1, vi x1), (2, vi x2), (3, vi x3), (4, vi (x4 + (-1))), (5, vi (x5 + 1))]) (show ([0, 1, 2, 3, 4, 5] : List Nat).Nodup from by decide) ⟨rfl, rfl, rfl, rfl, rfl, rfl, trivial⟩ ?_
              exact ih s2376 x1 x2 x3 (x4 + (-1)) (x5 + 1) hG_s2376 f_s2376 ⟨by omega, by omega⟩ ⟨by omega, by omega⟩ ⟨by omega, by omega⟩ ⟨by omega, by omega⟩ ⟨by omega, by omega⟩ (by omega) (by omega) (by omega) (by omega) (w_3.bi (x := s 290 (x4 - 2).toNat) (y := s 290 (x4 - 1).toNat) (z := 1) (by omega) c0_ ⟨by omega, by omega⟩ (by omega) rfl rfl (by omega) (fun j => by rw [e_s2376, x_up_at, show z2359.toNat = (x4 - 2).toNat by omega]))  (by omega)
        · skip
          refine x_A k203_67 (fun _ => rfl) ?_
          refine x_getR k203_68 (f := 52) rfl (q := 256) (n := 62) (kd := 15) ⟨by decide, rfl⟩ (q2 := 290) (by decide) rfl ?_
          refine x_A k203_71 (fun _ => rfl) ?_
          refine x_A k203_73 (fun _ => rfl) ?_
          refine x_isub k203_74 ?_
          refine x_top (fun z2381 e_z2381 => ?_)
          refine x_bald k203_75 (q := 290) (n := 120) ⟨by decide, rfl⟩ (by decide) ⟨by omega, by omega⟩ ?_
          refine x_top (fun z2382 e_z2382 => ?_)
          have g_z2382 : (0 : Int) ≤ s 290 z2381.toNat ∧ s 290 z2381.toNat ≤ 1 := hG 290 z2381.toNat
          have rx_ : s 290 (x4 - 2).toNat = z2382 := by rw [show (x4 - 2).toNat = z2381.toNat by omega]; exact e_z2382.symm
          refine x_if_ne k203_76 (t := 89) rfl ⟨by omega, by omega⟩ (fun c2383 => ?_) (fun c2383 => ?_)
          · skip
            refine x_A k203_89 (fun _ => rfl) ?_
            refine x_goto k203_90 (t := 124) rfl ?_
            refine x_bast k203_124 (q := 290) (n := 120) ⟨by decide, rfl⟩ (by decide) ⟨by omega, by omega⟩ ⟨by omega, by omega⟩ ?_
            refine x_nh (fun s2384 e_s2384 => ?_)
            have hG_s2384 : GI s2384 := by rw [e_s2384]; exact hG.up (show 0 ≤ 1 ∧ 1 ≤ 1 from ⟨by omega, by omega⟩)
            have f_s2384 : FL [6272] s0 s2384 := by rw [e_s2384]; exact f.up (show 6272 ∈ [6272] from by decide)
            have q2385 : s2384 286 x1.toNat = z2281 := by rw [e_s2384, x_up_q (by omega)]; exact e_z2281.symm
            have q2386 : s2384 287 z2285.toNat = z2286 := by rw [e_s2384, x_up_q (by omega)]; exact e_z2286.symm
            have q2387 : s2384 288 z2288.toNat = z2289 := by rw [e_s2384, x_up_q (by omega)]; exact e_z2289.symm
            have q2388 : s2384 290 z2359.toNat = 1 := by rw [e_s2384]; exact x_up_same
            refine x_goto k203_125 (t := 264) rfl ?_
            refine x_iinc k203_264 (ls' := [(5, vi (x5 + 1)), (4, vi (x4 + (-1))), (7, vi z2289), (6, vi z2286), (0, .ref 256), (1, vi x1), (2, vi x2), (3, vi x3)]) rfl (by decide) rfl ?_
            refine x_goto k203_267 (t := 6) rfl ?_
            refine x_ls (l := [(0, .ref 256), (1, vi x1), (2, vi x2), (3, vi x3), (4, vi (x4 + (-1))), (5, vi (x5 + 1))]) (show ([0, 1, 2, 3, 4, 5] : List Nat).Nodup from by decide) ⟨rfl, rfl, rfl, rfl, rfl, rfl, trivial⟩ ?_
            exact ih s2384 x1 x2 x3 (x4 + (-1)) (x5 + 1) hG_s2384 f_s2384 ⟨by omega, by omega⟩ ⟨by omega, by omega⟩ ⟨by omega, by omega⟩ ⟨by omega, by omega⟩ ⟨by omega, by omega⟩ (by omega) (by omega) (by omega) (by omega) (w_3.bi (x := s 290 (x4 - 2).toNat) (y := s 290 (x4 - 1).toNat) (z := 1) (by omega) c0_ ⟨by omega, by omega⟩ (by omega) rfl rfl (by omega) (fun j => by rw [e_s2384, x_up_at, show z2359.toNat = (x4 - 2).toNat by omega]))  (by omega)
          · skip
            refine x_A k203_79 (fun _ => rfl) ?_
            refine x_getR k203_80 (f := 52) rfl (q := 256) (n := 62) (kd := 15) ⟨by decide, rfl⟩ (q2 := 290) (by decide) rfl ?_
            refine x_A k203_83 (fun _ => rfl) ?_
            refine x_bald k203_85 (q := 290) (n := 120) ⟨by decide, rfl⟩ (by decide) ⟨by omega, by omega⟩ ?_
            refine x_top (fun z2389 e_z2389 => ?_)
            have g_z2389 : (0 : Int) ≤ s 290 ((x4 + (-1))).toNat ∧ s 290 ((x4 + (-1))).toNat ≤ 1 := hG 290 ((x4 + (-1))).toNat
            have ry_ : s 290 (x4 - 1).toNat = z2389 := by rw [show (x4 - 1).toNat = (x4 + (-1)).toNat by omega]; exact e_z2389.symm
            refine x_if_eq k203_86 (t := 93) rfl ⟨by omega, by omega⟩ (fun c2390 => ?_) (fun c2390 => ?_)
            · skip
              refine x_A k203_93 (fun _ => rfl) ?_
              refine x_goto k203_94 (t := 124) rfl ?_
              refine x_bast k203_124 (q := 290) (n := 120) ⟨by decide, rfl⟩ (by decide) ⟨by omega, by omega⟩ ⟨by omega, by omega⟩ ?_
              refine x_nh (fun s2391 e_s2391 => ?_)
              have hG_s2391 : GI s2391 := by rw [e_s2391]; exact hG.up (show 0 ≤ 0 ∧ 0 ≤ 1 from ⟨by omega, by omega⟩)
              have f_s2391 : FL [6272] s0 s2391 := by rw [e_s2391]; exact f.up (show 6272 ∈ [6272] from by decide)
              have q2392 : s2391 286 x1.toNat = z2281 := by rw [e_s2391, x_up_q (by omega)]; exact e_z2281.symm
              have q2393 : s2391 287 z2285.toNat = z2286 := by rw [e_s2391, x_up_q (by omega)]; exact e_z2286.symm
              have q2394 : s2391 288 z2288.toNat = z2289 := by rw [e_s2391, x_up_q (by omega)]; exact e_z2289.symm
              have q2395 : s2391 290 z2359.toNat = 0 := by rw [e_s2391]; exact x_up_same
              refine x_goto k203_125 (t := 264) rfl ?_
              refine x_iinc k203_264 (ls' := [(5, vi (x5 + 1)), (4, vi (x4 + (-1))), (7, vi z2289), (6, vi z2286), (0, .ref 256), (1, vi x1), (2, vi x2), (3, vi x3)]) rfl (by decide) rfl ?_
              refine x_goto k203_267 (t := 6) rfl ?_
              refine x_ls (l := [(0, .ref 256), (1, vi x1), (2, vi x2), (3, vi x3), (4, vi (x4 + (-1))), (5, vi (x5 + 1))]) (show ([0, 1, 2, 3, 4, 5] : List Nat).Nodup from by decide) ⟨rfl, rfl, rfl, rfl, rfl, rfl, trivial⟩ ?_
              exact ih s2391 x1 x2 x3 (x4 + (-1)) (x5 + 1) hG_s2391 f_s2391 ⟨by omega, by omega⟩ ⟨by omega, by omega⟩ ⟨by omega, by omega⟩ ⟨by omega, by omega⟩ ⟨by omega, by omega⟩ (by omega) (by omega) (by omega) (by omega) (w_3.bi (x := s 290 (x4 - 2).toNat) (y := s 290 (x4 - 1).toNat) (z := 0) (by omega) c0_ ⟨by omega, by omega⟩ (by omega) rfl rfl (by omega) (fun j => by rw [e_s2391, x_up_at, show z2359.toNat = (x4 - 2).toNat by omega]))  (by omega)
            · skip
              refine x_A k203_89 (fun _ => rfl) ?_
              refine x_goto k203_90 (t := 124) rfl ?_
              refine x_bast k203_124 (q := 290) (n := 120) ⟨by decide, rfl⟩ (by decide) ⟨by omega, by omega⟩ ⟨by omega, by omega⟩ ?_
              refine x_nh (fun s2396 e_s2396 => ?_)
              have hG_s2396 : GI s2396 := by rw [e_s2396]; exact hG.up (show 0 ≤ 1 ∧ 1 ≤ 1 from ⟨by omega, by omega⟩)
              have f_s2396 : FL [6272] s0 s2396 := by rw [e_s2396]; exact f.up (show 6272 ∈ [6272] from by decide)
              have q2397 : s2396 286 x1.toNat = z2281 := by rw [e_s2396, x_up_q (by omega)]; exact e_z2281.symm
              have q2398 : s2396 287 z2285.toNat = z2286 := by rw [e_s2396, x_up_q (by omega)]; exact e_z2286.symm
              have q2399 : s2396 288 z2288.toNat = z2289 := by rw [e_s2396, x_up_q (by omega)]; exact e_z2289.symm
              have q2400 : s2396 290 z2359.toNat = 1 := by rw [e_s2396]; exact x_up_same
              refine x_goto k203_125 (t := 264) rfl ?_
              refine x_iinc k203_264 (ls' := [(5, vi (x5 + 1)), (4, vi (x4 + (-1))), (7, vi z2289), (6, vi z2286), (0, .ref 256), (1, vi x1), (2, vi x2), (3, vi x3)]) rfl (by decide) rfl ?_
              refine x_goto k203_267 (t := 6) rfl ?_
              refine x_ls (l := [(0, .ref 256), (1, vi x1), (2, vi x2), (3, vi x3), (4, vi (x4 + (-1))), (5, vi (x5 + 1))]) (show ([0, 1, 2, 3, 4, 5] : List Nat).Nodup from by decide) ⟨rfl, rfl, rfl, rfl, rfl, rfl, trivial⟩ ?_
              exact ih s2396 x1 x2 x3 (x4 + (-1)) (x5 + 1) hG_s2396 f_s2396 ⟨by omega, by omega⟩ ⟨by omega, by omega⟩ ⟨by omega, by omega⟩ ⟨by omega, by omega⟩ ⟨by omega, by omega⟩ (by omega) (by omega) (by omega) (by omega) (w_3.bi (x := s 290 (x4 - 2).toNat) (y := s 290 (x4 - 1).toNat) (z := 1) (by omega) c0_ ⟨by omega, by omega⟩ (by omega) rfl rfl (by omega) (fun j => by rw [e_s2396, x_up_at, show z2359.toNat = (x4 - 2).toNat by omega]))  (by omega)
set_option maxHeartbeats 8000000 in
theorem W_X11_isMet_256 (s0 : xS) (hG0 : GI s0) (hJ0 : J s0) (a : Int) (b_a : 0 ≤ a ∧ a ≤ 7) (b : Int) (b_b : 0 ≤ b ∧ b ≤ 39) (d : Int) (b_d : 0 ≤ d ∧ d ≤ 9) (pa : a < s0 256 43 ∧ b < s0 256 6) (pG1 : G1 s0) (pG3 : G3 s0) (pY : Y1 s0) (pX : X1 s0) (pW : W1 s0) (pq : Q1 s0) (pz : FdZ s0 s0 d) : xe none 203 0 (lv_args 0 [.ref 256, vi a, vi b, vi d]) [] s0 0 0 (fun s' v => GI s' ∧ FL [6272] s0 s' ∧ ∃ z, v = some (vi z) ∧ (0 ≤ z ∧ z ≤ 1) ∧ ((z = 1 ∧ MetP s0 d a b) ∨ (z = 0 ∧ ¬ MetP s0 d a b))) := by
  have f0 : FL [6272] s0 s0 := FL.rf
  show xe none 203 0 [(0, .ref 256), (1, vi a), (2, vi b), (3, vi d)] [] s0 0 0 _
  refine x_A k203_0 (fun _ => rfl) ?_
  refine x_istore k203_1 (ls' := [(4, vi 0), (0, .ref 256), (1, vi a), (2, vi b), (3, vi d)]) (by decide) rfl ?_
  refine x_A k203_3 (fun _ => rfl) ?_
  refine x_istore k203_4 (ls' := [(5, vi 0), (4, vi 0), (0, .ref 256), (1, vi a), (2, vi b), (3, vi d)]) (by decide) rfl ?_
  refine x_ls (l := [(0, .ref 256), (1, vi a), (2, vi b), (3, vi d), (4, vi 0), (5, vi 0)]) (show ([0, 1, 2, 3, 4, 5] : List Nat).Nodup from by decide) ⟨rfl, rfl, rfl, rfl, rfl, rfl, trivial⟩ ?_
  exact L_W_X11_isMet_256_6 s0 hJ0 hG0 a b_a b b_b d b_d pa pG1 pG3 pY pX pW pq pz  (((119 - 0) + 1 : Int)).toNat s0 a b d 0 0 hG0 f0 ⟨by omega, by omega⟩ ⟨by omega, by omega⟩ ⟨by omega, by omega⟩ ⟨by omega, by omega⟩ ⟨by omega, by omega⟩ (by omega) (by omega) (show _ = _ from rfl) (by have q : (0 : Int) ≤ s0 286 a.toNat ∧ s0 286 a.toNat ≤ 110 := hG0 286 _; omega) EvR_0  (by omega)
