set_option maxHeartbeats 8000000 in
theorem L_E_X11_findMeant_256_132 (s0 : xS) (hJ0 : J s0) (hG0 : GI s0) (a : Int) (b_a : 0 ≤ a ∧ a ≤ 119) (b : Int) (b_b : 0 ≤ b ∧ b ≤ 9) (pT : TR s0) (pG1 : G1 s0) (pG3 : G3 s0) (pa : a < s0 256 10) (pw : WRn s0 s0 (s0 256 10)) (rk : Int → Int → Nat) (hrk : JP1 s0 rk) (jr : Int → Nat) (hjr : JE1 s0 jr)  : ∀ (n : Nat) (s : xS) (x1 : Int) (x2 : Int) (x3 : Int) (x4 : Int) (hG : GI s) (f : FL [5632, 5696] s0 s) (b_x1 : 0 ≤ x1 ∧ x1 ≤ 119) (b_x2 : 0 ≤ x2 ∧ x2 ≤ 9) (b_x3 : 0 ≤ x3 ∧ x3 ≤ 39) (b_x4 : 0 ≤ x4 ∧ x4 ≤ 6) (w_0 : x1 = a ∧ x2 = b ∧ 0 ≤ b ∧ b ≤ 9) (w_1 : ¬ nuC s0 b a) (w_2 : ∀ j : Nat, s 280 j = if j = a.toNat then -1 else s0 280 j) (w_3 : ∀ j : Nat, j ≠ a.toNat → s 281 j = s0 281 j) (w_4 : s 281 a.toNat = 1 ↔ loC s0 b a) (w_5 : raG (parC s0 b) x4.toNat (ftG (s0 1 4) (thC s0 b) (parC s0 b) 40 (fiM s0 b a)) = x3) (w_6 : tdC s0 b x3) (w_7 : x4 ≤ raC s0 a)  (hm : (6 - x4) < (n : Int)), xe none 167 132 [(0, .ref 256), (1, vi x1), (2, vi x2), (3, vi x3), (4, vi x4)] [] s 0 0 (fun s' v => GI s' ∧ FL [5632, 5696] s0 s' ∧ v = none ∧ ((∀ j : Nat, s' 280 j = if j = a.toNat then meC s0 b a else s0 280 j) ∧ (s' 281 a.toNat = 1 ↔ loC s0 b a) ∧ ∀ j : Nat, j ≠ a.toNat → s' 281 j = s0 281 j)) := by
  intro n
  induction n with
  | zero => intro s x1 x2 x3 x4 hG f b_x1 b_x2 b_x3 b_x4 w_0 w_1 w_2 w_3 w_4 w_5 w_6 w_7  hm; exfalso; omega
  | succ n ih =>
    intro s x1 x2 x3 x4 hG f b_x1 b_x2 b_x3 b_x4 w_0 w_1 w_2 w_3 w_4 w_5 w_6 w_7  hm
    refine x_A k167_132 (fun _ => rfl) ?_
    refine x_A k167_134 (fun _ => rfl) ?_
    refine x_getR k167_135 (f := 29) rfl (q := 256) (n := 62) (kd := 15) ⟨by decide, rfl⟩ (q2 := 279) (by decide) rfl ?_
    refine x_A k167_138 (fun _ => rfl) ?_
    refine x_iald k167_139 (q := 279) (n := 120) ⟨by decide, rfl⟩ (by decide) (by first | exact x_rbl b_x1 rfl rfl | exact ⟨by omega, by omega⟩) ?_
    refine x_top (fun z297 e_z297 => ?_)
    have g_z297 : (0 : Int) ≤ s 279 x1.toNat ∧ s 279 x1.toNat ≤ 6 := hG 279 x1.toNat
    have r279 : raC s0 a = z297 := by rw [← (pw a (by omega) pa).2.2, ← f 279 a.toNat (show 5568 ∉ [5632, 5696] from by decide), show a = x1 by omega]; exact e_z297.symm
    refine x_ic_ge k167_140 (t := 169) rfl (by first | exact x_rb b_x4 rfl rfl | exact ⟨by omega, by omega⟩) (by first | exact x_rbe e_z297 g_z297 rfl rfl | exact x_rb g_z297 rfl rfl | exact ⟨by omega, by omega⟩) (fun c298 => ?_) (fun c298 => ?_)
    · skip
      refine x_A k167_169 (fun _ => rfl) ?_
      refine x_getR k167_170 (f := 30) rfl (q := 256) (n := 62) (kd := 15) ⟨by decide, rfl⟩ (q2 := 280) (by decide) rfl ?_
      refine x_A k167_173 (fun _ => rfl) ?_
      refine x_A k167_174 (fun _ => rfl) ?_
      refine x_iast k167_175 (q := 280) (n := 120) ⟨by decide, rfl⟩ (by decide) (by first | exact x_rbl b_x1 rfl rfl | exact ⟨by omega, by omega⟩) ?_
      refine x_nh (fun s299 e_s299 => ?_)
      have hG_s299 : GI s299 := by rw [e_s299]; exact hG.up (show (-1) ≤ x3 ∧ x3 ≤ 39 from (by first | exact x_rb b_x3 rfl rfl | exact ⟨by omega, by omega⟩))
      have f_s299 : FL [5632, 5696] s0 s299 := by rw [e_s299]; exact f.up (show 5632 ∈ [5632, 5696] from by decide)
      have q300 : s299 279 x1.toNat = z297 := by rw [e_s299, x_up_q (by first | decide | omega)]; exact e_z297.symm
      have q301 : s299 280 x1.toNat = x3 := by rw [e_s299]; exact x_up_same
      exact x_vret k167_176 rfl ⟨hG_s299, f_s299, rfl, ⟨fun j => by rw [show meC s0 b a = x3 from (by rw [meC_y w_1, show (raC s0 a).toNat = x4.toNat by omega]; exact w_5), e_s299, x_up_at, w_2 j, show x1 = a by omega, if_dd], by rw [e_s299, x_up_q (by decide)]; exact w_4, fun j hj => by rw [e_s299, x_up_q (by decide)]; exact w_3 j hj⟩⟩
    · skip
      refine x_A k167_143 (fun _ => rfl) ?_
      refine x_if_ne k167_144 (t := 151) rfl (by first | exact x_rb b_x3 rfl rfl | exact ⟨by omega, by omega⟩) (fun c302 => ?_) (fun c302 => ?_)
      · skip
        refine x_A k167_151 (fun _ => rfl) ?_
        refine x_getR k167_152 (f := 5) rfl (q := 256) (n := 62) (kd := 15) ⟨by decide, rfl⟩ (q2 := 260) (by decide) rfl ?_
        refine x_bipush k167_155 (by decide +kernel) ?_
        refine x_A k167_157 (fun _ => rfl) ?_
        refine x_imul k167_158 ?_
        refine x_top (fun z303 e_z303 => ?_)
        refine x_A k167_159 (fun _ => rfl) ?_
        refine x_iadd k167_160 ?_
        refine x_top (fun z304 e_z304 => ?_)
        refine x_iald k167_161 (q := 260) (n := 400) ⟨by decide, rfl⟩ (by decide) (by first | exact x_rbel e_z304 g_z304 rfl rfl | exact x_rbl g_z304 rfl rfl | exact ⟨by omega, by omega⟩) ?_
        refine x_top (fun z305 e_z305 => ?_)
        have g_z305 : (-1) ≤ s 260 z304.toNat ∧ s 260 z304.toNat ≤ 39 := hG 260 z304.toNat
        have d_z305 := (hrk.fl f (by decide)).dn x3 x2 ⟨by omega, by omega⟩ ⟨by omega, by omega⟩
        rw [show 10 * x3 + x2 = z304 by omega, e_z305.symm] at d_z305
        have pa_ : parC s0 b x3 = z305 := by rw [pT.par hG0 ⟨by omega, by omega⟩ w_6, ← f 260 _ (show 4352 ∉ [5632, 5696] from by decide), show 10 * x3 + b = z304 by omega]; exact e_z305.symm
        refine x_istore_n k167_162 (ls' := [(3, vi z305), (0, .ref 256), (1, vi x1), (2, vi x2), (4, vi x4)]) (by decide) rfl ?_
        refine x_iinc k167_163 (ls' := [(4, vi (x4 + 1)), (3, vi z305), (0, .ref 256), (1, vi x1), (2, vi x2)]) rfl (by decide) rfl ?_
        refine x_goto k167_166 (t := 132) rfl ?_
        refine x_ls (l := [(0, .ref 256), (1, vi x1), (2, vi x2), (3, vi z305), (4, vi (x4 + 1))]) (show ([0, 1, 2, 3, 4] : List Nat).Nodup from by decide) ⟨rfl, rfl, rfl, rfl, rfl, trivial⟩ ?_
        exact ih s x1 x2 z305 (x4 + 1) hG f (by first | exact x_rb b_x1 rfl rfl | exact ⟨by omega, by omega⟩) (by first | exact x_rb b_x2 rfl rfl | exact ⟨by omega, by omega⟩) (by first | exact x_rbe e_z305 g_z305 rfl rfl | exact x_rb g_z305 rfl rfl | exact ⟨by omega, by omega⟩) ⟨by omega, by omega⟩ (by omega) w_1 w_2 w_3 w_4 (by rw [show (x4 + 1).toNat = x4.toNat + 1 by omega, raG_t _ _ _ w_5, if_neg (by omega)]; exact pa_) (by rw [← pa_]; exact (pT.up1 hJ0 hG0 ⟨by omega, by omega⟩ w_6 (by omega)).2) (by omega)  (by omega)
      · skip
        refine x_A k167_147 (fun _ => rfl) ?_
        refine x_goto k167_148 (t := 162) rfl ?_
        refine x_istore_n k167_162 (ls' := [(3, vi 0), (0, .ref 256), (1, vi x1), (2, vi x2), (4, vi x4)]) (by decide) rfl ?_
        refine x_iinc k167_163 (ls' := [(4, vi (x4 + 1)), (3, vi 0), (0, .ref 256), (1, vi x1), (2, vi x2)]) rfl (by decide) rfl ?_
        refine x_goto k167_166 (t := 132) rfl ?_
        refine x_ls (l := [(0, .ref 256), (1, vi x1), (2, vi x2), (3, vi 0), (4, vi (x4 + 1))]) (show ([0, 1, 2, 3, 4] : List Nat).Nodup from by decide) ⟨rfl, rfl, rfl, rfl, rfl, trivial⟩ ?_
        exact ih s x1 x2 0 (x4 + 1) hG f (by first | exact x_rb b_x1 rfl rfl | exact ⟨by omega, by omega⟩) (by first | exact x_rb b_x2 rfl rfl | exact ⟨by omega, by omega⟩) ⟨by decide, by decide⟩ ⟨by omega, by omega⟩ (by omega) w_1 w_2 w_3 w_4 (by rw [show (x4 + 1).toNat = x4.toNat + 1 by omega, raG_t _ _ _ w_5, if_pos (by omega)]; omega) (by rw [show (0 : Int) = x3 by omega]; exact w_6) (by omega)  (by omega)
set_option maxHeartbeats 8000000 in
theorem L_E_X11_findMeant_256_105 (s0 : xS) (hJ0 : J s0) (hG0 : GI s0) (a : Int) (b_a : 0 ≤ a ∧ a ≤ 119) (b : Int) (b_b : 0 ≤ b ∧ b ≤ 9) (pT : TR s0) (pG1 : G1 s0) (pG3 : G3 s0) (pa : a < s0 256 10) (pw : WRn s0 s0 (s0 256 10)) (rk : Int → Int → Nat) (hrk : JP1 s0 rk) (jr : Int → Nat) (hjr : JE1 s0 jr) (n_60 : Nat) (ih_60 : ∀ (s : xS) (x1 : Int) (x2 : Int) (x3 : Int) (hG : GI s) (f : FL [5632, 5696] s0 s) (b_x1 : 0 ≤ x1 ∧ x1 ≤ 119) (b_x2 : 0 ≤ x2 ∧ x2 ≤ 9) (b_x3 : 0 ≤ x3 ∧ x3 ≤ 39) (w_0 : x1 = a ∧ x2 = b ∧ 0 ≤ b ∧ b ≤ 9) (w_1 : ¬ nuC s0 b a) (w_2 : ∀ j : Nat, s 280 j = if j = a.toNat then -1 else s0 280 j) (w_3 : ∀ j : Nat, j ≠ a.toNat → s 281 j = s0 281 j) (w_4 : lkI s0 b a (s 281 a.toNat) x3) (w_5 : tdC s0 b x3) (hm : ((jm s0 jr x2 x3 : Nat) : Int) < (n_60 : Int)), xe none 167 60 [(0, .ref 256), (1, vi x1), (2, vi x2), (3, vi x3)] [] s 0 0 (fun s' v => GI s' ∧ FL [5632, 5696] s0 s' ∧ v = none ∧ ((∀ j : Nat, s' 280 j = if j = a.toNat then meC s0 b a else s0 280 j) ∧ (s' 281 a.toNat = 1 ↔ loC s0 b a) ∧ ∀ j : Nat, j ≠ a.toNat → s' 281 j = s0 281 j))) : ∀ (n : Nat) (s : xS) (x1 : Int) (x2 : Int) (x3 : Int) (hG : GI s) (f : FL [5632, 5696] s0 s) (b_x1 : 0 ≤ x1 ∧ x1 ≤ 119) (b_x2 : 0 ≤ x2 ∧ x2 ≤ 9) (b_x3 : 0 ≤ x3 ∧ x3 ≤ 39) (w_0 : x1 = a ∧ x2 = b ∧ 0 ≤ b ∧ b ≤ 9) (w_1 : ¬ nuC s0 b a) (w_2 : ∀ j : Nat, s 280 j = if j = a.toNat then -1 else s0 280 j) (w_3 : ∀ j : Nat, j ≠ a.toNat → s 281 j = s0 281 j) (w_4 : s 281 a.toNat = 1) (w_5 : lkJ s0 b a x3) (w_6 : tdC s0 b x3) (k_60 : (1 : Int) < (n_60 : Int) + 1) (hm : ((rkm (rk x2) x3 : Nat) : Int) < (n : Int)), xe none 167 105 [(0, .ref 256), (1, vi x1), (2, vi x2), (3, vi x3)] [] s 0 0 (fun s' v => GI s' ∧ FL [5632, 5696] s0 s' ∧ v = none ∧ ((∀ j : Nat, s' 280 j = if j = a.toNat then meC s0 b a else s0 280 j) ∧ (s' 281 a.toNat = 1 ↔ loC s0 b a) ∧ ∀ j : Nat, j ≠ a.toNat → s' 281 j = s0 281 j)) := by
  intro n
  induction n with
  | zero => intro s x1 x2 x3 hG f b_x1 b_x2 b_x3 w_0 w_1 w_2 w_3 w_4 w_5 w_6 k_60 hm; exfalso; omega
  | succ n ih =>
    intro s x1 x2 x3 hG f b_x1 b_x2 b_x3 w_0 w_1 w_2 w_3 w_4 w_5 w_6 k_60 hm
    refine x_A k167_105 (fun _ => rfl) ?_
    refine x_A k167_106 (fun _ => rfl) ?_
    refine x_A k167_107 (fun _ => rfl) ?_
    obtain ⟨z306, e_z306⟩ : ∃ z, z = s 256 1 := ⟨_, rfl⟩
    have g_z306 : (1 : Int) ≤ s 256 1 ∧ s 256 1 ≤ 40 := hG 256 1
    refine x_callV k167_108 (y := 142) (n := 2) (w0 := 0) (w1 := 2) (as := [vi x3, vi x2]) (rest := []) (by decide +kernel) (q := 256) (nq := 62) (kq := 15) ⟨by decide, rfl⟩ rfl rfl rfl rfl (xe_mono (C_X11_isThere_256 s hG x3 (by first | exact x_rb b_x3 rfl rfl | exact ⟨by omega, by omega⟩) x2 (by first | exact x_rb b_x2 rfl rfl | exact ⟨by omega, by omega⟩)) ?_)
    rintro s308 v ⟨h_s308, z307, rfl, hz_z307⟩
    rw [h_s308]
    rcases hz_z307 with ⟨c_z307, e_z307, m_z307⟩ | ⟨e_z307, m_z307⟩
    · rw [e_z307]
      show xe none 167 111 [(0, .ref 256), (1, vi x1), (2, vi x2), (3, vi x3)] [vi 1] s 0 0 _
      have jz_m_z307 : jm s0 jr x2 x3 = 0 := jm_out (by rw [← f 258 _ (show 4224 ∉ [5632, 5696] from by decide)]; exact m_z307.2)
      have sz_ := pT.1.2.1
      have tx_ := w_6
      unfold tdC at tx_
      have f57_ := f 257 x3.toNat (show 4160 ∉ [5632, 5696] from by decide)
      have f58_ := f 258 x3.toNat (show 4224 ∉ [5632, 5696] from by decide)
      have f1_ := f 256 1 (show 4098 ∉ [5632, 5696] from by decide)
      have th_ : thC s0 b x3 := (pT.1.th hG0 b x3).mpr ⟨⟨by omega, by omega⟩, by omega, by omega⟩
      refine x_if_ne k167_111 (t := 60) rfl ⟨by decide, by decide⟩ (fun c309 => ?_) (fun c309 => by exfalso; omega)
      refine x_ls (l := [(0, .ref 256), (1, vi x1), (2, vi x2), (3, vi x3)]) (show ([0, 1, 2, 3] : List Nat).Nodup from by decide) ⟨rfl, rfl, rfl, rfl, trivial⟩ ?_
      exact ih_60 s x1 x2 x3 hG f (by first | exact x_rb b_x1 rfl rfl | exact ⟨by omega, by omega⟩) (by first | exact x_rb b_x2 rfl rfl | exact ⟨by omega, by omega⟩) (by first | exact x_rb b_x3 rfl rfl | exact ⟨by omega, by omega⟩) (by omega) w_1 w_2 w_3 (by rw [w_4]; exact lkJ.out w_5 th_) w_6 (by omega)
    · rw [e_z307]
      show xe none 167 111 [(0, .ref 256), (1, vi x1), (2, vi x2), (3, vi x3)] [vi 0] s 0 0 _
      have n0_m_z307 := (hJ0.fl f (by decide)).n0 hG (by omega) m_z307
      have sz_ := pT.1.2.1
      have tx_ := w_6
      unfold tdC at tx_
      have f57_ := f 257 x3.toNat (show 4160 ∉ [5632, 5696] from by decide)
      have f58_ := f 258 x3.toNat (show 4224 ∉ [5632, 5696] from by decide)
      have f1_ := f 256 1 (show 4098 ∉ [5632, 5696] from by decide)
      have nt_ : ¬ thC s0 b x3 := fun q => by have w := (pT.1.th hG0 b x3).mp q; omega
      refine x_if_ne k167_111 (t := 60) rfl ⟨by decide, by decide⟩ (fun c310 => by exfalso; omega) (fun c310 => ?_)
      refine x_A k167_114 (fun _ => rfl) ?_
      refine x_getR k167_115 (f := 5) rfl (q := 256) (n := 62) (kd := 15) ⟨by decide, rfl⟩ (q2 := 260) (by decide) rfl ?_
      refine x_bipush k167_118 (by decide +kernel) ?_
      refine x_A k167_120 (fun _ => rfl) ?_
      refine x_imul k167_121 ?_
      refine x_top (fun z311 e_z311 => ?_)
      refine x_A k167_122 (fun _ => rfl) ?_
      refine x_iadd k167_123 ?_
      refine x_top (fun z312 e_z312 => ?_)
      refine x_iald k167_124 (q := 260) (n := 400) ⟨by decide, rfl⟩ (by decide) (by first | exact x_rbel e_z312 g_z312 rfl rfl | exact x_rbl g_z312 rfl rfl | exact ⟨by omega, by omega⟩) ?_
      refine x_top (fun z313 e_z313 => ?_)
      have g_z313 : (-1) ≤ s 260 z312.toNat ∧ s 260 z312.toNat ≤ 39 := hG 260 z312.toNat
      have d_z313 := (hrk.fl f (by decide)).dn x3 x2 ⟨by omega, by omega⟩ ⟨by omega, by omega⟩
      rw [show 10 * x3 + x2 = z312 by omega, e_z313.symm] at d_z313
      have pa_ : parC s0 b x3 = z313 := by rw [pT.par hG0 ⟨by omega, by omega⟩ w_6, ← f 260 _ (show 4352 ∉ [5632, 5696] from by decide), show 10 * x3 + b = z312 by omega]; exact e_z313.symm
      refine x_istore_n k167_125 (ls' := [(3, vi z313), (0, .ref 256), (1, vi x1), (2, vi x2)]) (by decide) rfl ?_
      refine x_goto k167_126 (t := 105) rfl ?_
      refine x_ls (l := [(0, .ref 256), (1, vi x1), (2, vi x2), (3, vi z313)]) (show ([0, 1, 2, 3] : List Nat).Nodup from by decide) ⟨rfl, rfl, rfl, rfl, trivial⟩ ?_
      exact ih s x1 x2 z313 hG f (by first | exact x_rb b_x1 rfl rfl | exact ⟨by omega, by omega⟩) (by first | exact x_rb b_x2 rfl rfl | exact ⟨by omega, by omega⟩) (by first | exact x_rbe e_z313 g_z313 rfl rfl | exact x_rb g_z313 rfl rfl | exact ⟨by omega, by omega⟩) (by omega) w_1 w_2 w_3 w_4 (by rw [← pa_]; exact lkJ.up w_5 ⟨by omega, by omega⟩ nt_) (by rw [← pa_]; exact (pT.up1 hJ0 hG0 ⟨by omega, by omega⟩ w_6 (by omega)).2) (by omega) (by omega)
set_option maxHeartbeats 8000000 in
theorem L_E_X11_findMeant_256_60 (s0 : xS) (hJ0 : J s0) (hG0 : GI s0) (a : Int) (b_a : 0 ≤ a ∧ a ≤ 119) (b : Int) (b_b : 0 ≤ b ∧ b ≤ 9) (pT : TR s0) (pG1 : G1 s0) (pG3 : G3 s0) (pa : a < s0 256 10) (pw : WRn s0 s0 (s0 256 10)) (rk : Int → Int → Nat) (hrk : JP1 s0 rk) (jr : Int → Nat) (hjr : JE1 s0 jr)  : ∀ (n : Nat) (s : xS) (x1 : Int) (x2 : Int) (x3 : Int) (hG : GI s) (f : FL [5632, 5696] s0 s) (b_x1 : 0 ≤ x1 ∧ x1 ≤ 119) (b_x2 : 0 ≤ x2 ∧ x2 ≤ 9) (b_x3 : 0 ≤ x3 ∧ x3 ≤ 39) (w_0 : x1 = a ∧ x2 = b ∧ 0 ≤ b ∧ b ≤ 9) (w_1 : ¬ nuC s0 b a) (w_2 : ∀ j : Nat, s 280 j = if j = a.toNat then -1 else s0 280 j) (w_3 : ∀ j : Nat, j ≠ a.toNat → s 281 j = s0 281 j) (w_4 : lkI s0 b a (s 281 a.toNat) x3) (w_5 : tdC s0 b x3)  (hm : ((jm s0 jr x2 x3 : Nat) : Int) < (n : Int)), xe none 167 60 [(0, .ref 256), (1, vi x1), (2, vi x2), (3, vi x3)] [] s 0 0 (fun s' v => GI s' ∧ FL [5632, 5696] s0 s' ∧ v = none ∧ ((∀ j : Nat, s' 280 j = if j = a.toNat then meC s0 b a else s0 280 j) ∧ (s' 281 a.toNat = 1 ↔ loC s0 b a) ∧ ∀ j : Nat, j ≠ a.toNat → s' 281 j = s0 281 j)) := by
  intro n
  induction n with
  | zero => intro s x1 x2 x3 hG f b_x1 b_x2 b_x3 w_0 w_1 w_2 w_3 w_4 w_5  hm; exfalso; omega
  | succ n ih =>
    intro s x1 x2 x3 hG f b_x1 b_x2 b_x3 w_0 w_1 w_2 w_3 w_4 w_5  hm
    refine x_A k167_60 (fun _ => rfl) ?_
    refine x_getR k167_61 (f := 3) rfl (q := 256) (n := 62) (kd := 15) ⟨by decide, rfl⟩ (q2 := 258) (by decide) rfl ?_
    refine x_A k167_64 (fun _ => rfl) ?_
    refine x_iald k167_65 (q := 258) (n := 40) ⟨by decide, rfl⟩ (by decide) (by first | exact x_rbl b_x3 rfl rfl | exact ⟨by omega, by omega⟩) ?_
    refine x_top (fun z314 e_z314 => ?_)
    have g_z314 : (-1) ≤ s 258 x3.toNat ∧ s 258 x3.toNat ≤ 9 := hG 258 x3.toNat
    have z58 : s0 258 x3.toNat = z314 := by rw [← f 258 x3.toNat (show 4224 ∉ [5632, 5696] from by decide)]; exact e_z314.symm
    refine x_if_lt k167_66 (t := 129) rfl (by first | exact x_rbe e_z314 g_z314 rfl rfl | exact x_rb g_z314 rfl rfl | exact ⟨by omega, by omega⟩) (fun c315 => ?_) (fun c315 => ?_)
    · skip
      have sz_ := pT.1.2.1
      have tx_ := w_5
      unfold tdC at tx_
      have ne_ : ¬ enC s0 b x3 := fun q => by have w := (pT.1.en hG0 b x3).mp q; omega
      obtain ⟨ff_, fl_⟩ := lkI.fin w_4 pT hJ0 hG0 ⟨by omega, by omega⟩ w_5 ne_ w_1
      refine x_A k167_129 (fun _ => rfl) ?_
      refine x_istore k167_130 (ls' := [(4, vi 0), (0, .ref 256), (1, vi x1), (2, vi x2), (3, vi x3)]) (by decide) rfl ?_
      refine x_ls (l := [(0, .ref 256), (1, vi x1), (2, vi x2), (3, vi x3), (4, vi 0)]) (show ([0, 1, 2, 3, 4] : List Nat).Nodup from by decide) ⟨rfl, rfl, rfl, rfl, rfl, trivial⟩ ?_
      exact L_E_X11_findMeant_256_132 s0 hJ0 hG0 a b_a b b_b pT pG1 pG3 pa pw rk hrk jr hjr  (((6 - 0) + 1 : Int)).toNat s x1 x2 x3 0 hG f (by first | exact x_rb b_x1 rfl rfl | exact ⟨by omega, by omega⟩) (by first | exact x_rb b_x2 rfl rfl | exact ⟨by omega, by omega⟩) (by first | exact x_rb b_x3 rfl rfl | exact ⟨by omega, by omega⟩) ⟨by decide, by decide⟩ (by omega) w_1 w_2 w_3 fl_ (show raG (parC s0 b) 0 _ = x3 from ff_) w_5 (raC_0 s0 a)  (by omega)
    · skip
      refine x_A k167_69 (fun _ => rfl) ?_
      refine x_getR k167_70 (f := 3) rfl (q := 256) (n := 62) (kd := 15) ⟨by decide, rfl⟩ (q2 := 258) (by decide) rfl ?_
      refine x_A k167_73 (fun _ => rfl) ?_
      refine x_iald k167_74 (q := 258) (n := 40) ⟨by decide, rfl⟩ (by decide) (by first | exact x_rbl b_x3 rfl rfl | exact ⟨by omega, by omega⟩) ?_
      refine x_rw (e_z314.symm) ?_
      refine x_A k167_75 (fun _ => rfl) ?_
      refine x_ic_gt k167_76 (t := 129) rfl (by first | exact x_rbe e_z314 g_z314 rfl rfl | exact x_rb g_z314 rfl rfl | exact ⟨by omega, by omega⟩) (by first | exact x_rb b_x2 rfl rfl | exact ⟨by omega, by omega⟩) (fun c316 => ?_) (fun c316 => ?_)
      · skip
        have sz_ := pT.1.2.1
        have tx_ := w_5
        unfold tdC at tx_
        have ne_ : ¬ enC s0 b x3 := fun q => by have w := (pT.1.en hG0 b x3).mp q; omega
        obtain ⟨ff_, fl_⟩ := lkI.fin w_4 pT hJ0 hG0 ⟨by omega, by omega⟩ w_5 ne_ w_1
        refine x_A k167_129 (fun _ => rfl) ?_
        refine x_istore k167_130 (ls' := [(4, vi 0), (0, .ref 256), (1, vi x1), (2, vi x2), (3, vi x3)]) (by decide) rfl ?_
        refine x_ls (l := [(0, .ref 256), (1, vi x1), (2, vi x2), (3, vi x3), (4, vi 0)]) (show ([0, 1, 2, 3, 4] : List Nat).Nodup from by decide) ⟨rfl, rfl, rfl, rfl, rfl, trivial⟩ ?_
        exact L_E_X11_findMeant_256_132 s0 hJ0 hG0 a b_a b b_b pT pG1 pG3 pa pw rk hrk jr hjr  (((6 - 0) + 1 : Int)).toNat s x1 x2 x3 0 hG f (by first | exact x_rb b_x1 rfl rfl | exact ⟨by omega, by omega⟩) (by first | exact x_rb b_x2 rfl rfl | exact ⟨by omega, by omega⟩) (by first | exact x_rb b_x3 rfl rfl | exact ⟨by omega, by omega⟩) ⟨by decide, by decide⟩ (by omega) w_1 w_2 w_3 fl_ (show raG (parC s0 b) 0 _ = x3 from ff_) w_5 (raC_0 s0 a)  (by omega)
      · skip
        have ji : jm s0 jr x2 x3 = jr x3 + 1 := jm_in (by rw [← f 258 _ (show 4224 ∉ [5632, 5696] from by decide), e_z314.symm]; exact ⟨by omega, by omega⟩)
        have sz_ := pT.1.2.1
        have tx_ := w_5
        unfold tdC at tx_
        have en_ : enC s0 b x3 := (pT.1.en hG0 b x3).mpr ⟨⟨by omega, by omega⟩, by omega, by omega⟩
        refine x_A k167_79 (fun _ => rfl) ?_
        refine x_getR k167_80 (f := 4) rfl (q := 256) (n := 62) (kd := 15) ⟨by decide, rfl⟩ (q2 := 259) (by decide) rfl ?_
        refine x_A k167_83 (fun _ => rfl) ?_
        refine x_iald k167_84 (q := 259) (n := 40) ⟨by decide, rfl⟩ (by decide) (by first | exact x_rbl b_x3 rfl rfl | exact ⟨by omega, by omega⟩) ?_
        refine x_top (fun z317 e_z317 => ?_)
        have g_z317 : (-1) ≤ s 259 x3.toNat ∧ s 259 x3.toNat ≤ 39 := hG 259 x3.toNat
        have z59 : s0 259 x3.toNat = z317 := by rw [← f 259 x3.toNat (show 4288 ∉ [5632, 5696] from by decide)]; exact e_z317.symm
        refine x_if_lt k167_85 (t := 98) rfl (by first | exact x_rbe e_z317 g_z317 rfl rfl | exact x_rb g_z317 rfl rfl | exact ⟨by omega, by omega⟩) (fun c318 => ?_) (fun c318 => ?_)
        · skip
          have jn_ : ¬ 0 ≤ joC s0 x3 := by rw [pT.jn hG0 ⟨by omega, by omega⟩, if_neg (by omega)]; decide
          have lj_ := lkI.split w_4 pT hJ0 hG0 en_ jn_
          refine x_A k167_98 (fun _ => rfl) ?_
          refine x_getR k167_99 (f := 31) rfl (q := 256) (n := 62) (kd := 15) ⟨by decide, rfl⟩ (q2 := 281) (by decide) rfl ?_
          refine x_A k167_102 (fun _ => rfl) ?_
          refine x_A k167_103 (fun _ => rfl) ?_
          refine x_bast k167_104 (q := 281) (n := 120) ⟨by decide, rfl⟩ (by decide) (by first | exact x_rbl b_x1 rfl rfl | exact ⟨by omega, by omega⟩) ⟨by omega, by omega⟩ ?_
          refine x_nh (fun s319 e_s319 => ?_)
          have hG_s319 : GI s319 := by rw [e_s319]; exact hG.up (show 0 ≤ 1 ∧ 1 ≤ 1 from ⟨by decide, by decide⟩)
          have f_s319 : FL [5632, 5696] s0 s319 := by rw [e_s319]; exact f.up (show 5696 ∈ [5632, 5696] from by decide)
          have q320 : s319 258 x3.toNat = z314 := by rw [e_s319, x_up_q (by first | decide | omega)]; exact e_z314.symm
          have q321 : s319 259 x3.toNat = z317 := by rw [e_s319, x_up_q (by first | decide | omega)]; exact e_z317.symm
          have q322 : s319 281 x1.toNat = 1 := by rw [e_s319]; exact x_up_same
          refine x_ls (l := [(0, .ref 256), (1, vi x1), (2, vi x2), (3, vi x3)]) (show ([0, 1, 2, 3] : List Nat).Nodup from by decide) ⟨rfl, rfl, rfl, rfl, trivial⟩ ?_
          exact L_E_X11_findMeant_256_105 s0 hJ0 hG0 a b_a b b_b pT pG1 pG3 pa pw rk hrk jr hjr n (fun s x1 x2 x3 hG f b_x1 b_x2 b_x3 w_0 w_1 w_2 w_3 w_4 w_5 hm => ih s x1 x2 x3 hG f b_x1 b_x2 b_x3 w_0 w_1 w_2 w_3 w_4 w_5  hm) ((((rkm (rk x2) x3 : Nat) : Int) + 1 : Int)).toNat s319 x1 x2 x3 hG_s319 f_s319 (by first | exact x_rb b_x1 rfl rfl | exact ⟨by omega, by omega⟩) (by first | exact x_rb b_x2 rfl rfl | exact ⟨by omega, by omega⟩) (by first | exact x_rb b_x3 rfl rfl | exact ⟨by omega, by omega⟩) (by omega) w_1 (fun j => by rw [e_s319, x_up_q (by decide)]; exact w_2 j) (fun j hj => by rw [e_s319, x_up_i (by omega)]; exact w_3 j hj) (by rw [show a = x1 by omega]; exact q322) lj_ w_5 (by omega) (by omega)
        · skip
          refine x_A k167_88 (fun _ => rfl) ?_
          refine x_getR k167_89 (f := 4) rfl (q := 256) (n := 62) (kd := 15) ⟨by decide, rfl⟩ (q2 := 259) (by decide) rfl ?_
          refine x_A k167_92 (fun _ => rfl) ?_
          refine x_iald k167_93 (q := 259) (n := 40) ⟨by decide, rfl⟩ (by decide) (by first | exact x_rbl b_x3 rfl rfl | exact ⟨by omega, by omega⟩) ?_
          refine x_rw (e_z317.symm) ?_
          have jl := (hjr.fl f (by decide)) x3 (by omega) (by omega) (by rw [e_z317.symm]; omega)
          rw [e_z317.symm] at jl
          have jk := jm_le (s := s0) (jr := jr) x2 z317
          have jo_ : joC s0 x3 = z317 := by rw [pT.jn hG0 ⟨by omega, by omega⟩, if_pos (by omega)]; exact z59
          refine x_istore_n k167_94 (ls' := [(3, vi z317), (0, .ref 256), (1, vi x1), (2, vi x2)]) (by decide) rfl ?_
          refine x_goto k167_95 (t := 60) rfl ?_
          refine x_ls (l := [(0, .ref 256), (1, vi x1), (2, vi x2), (3, vi z317)]) (show ([0, 1, 2, 3] : List Nat).Nodup from by decide) ⟨rfl, rfl, rfl, rfl, trivial⟩ ?_
          exact ih s x1 x2 z317 hG f (by first | exact x_rb b_x1 rfl rfl | exact ⟨by omega, by omega⟩) (by first | exact x_rb b_x2 rfl rfl | exact ⟨by omega, by omega⟩) (by first | exact x_rbe e_z317 g_z317 rfl rfl | exact x_rb g_z317 rfl rfl | exact ⟨by omega, by omega⟩) (by omega) w_1 w_2 w_3 (by rw [show z317 = joC s0 x3 from jo_.symm]; exact lkI.join w_4 en_ (by omega)) (by rw [← jo_]; exact (pT.jo hG0 en_ (by omega)).2)  (by omega)
set_option maxHeartbeats 8000000 in
theorem E_X11_findMeant_256 (s0 : xS) (hG0 : GI s0) (hJ0 : J s0) (a : Int) (b_a : 0 ≤ a ∧ a ≤ 119) (b : Int) (b_b : 0 ≤ b ∧ b ≤ 9) (pT : TR s0) (pG1 : G1 s0) (pG3 : G3 s0) (pa : a < s0 256 10) (pw : WRn s0 s0 (s0 256 10)) : xe none 167 0 (lv_args 0 [.ref 256, vi a, vi b]) [] s0 0 0 (fun s' v => GI s' ∧ FL [5632, 5696] s0 s' ∧ v = none ∧ ((∀ j : Nat, s' 280 j = if j = a.toNat then meC s0 b a else s0 280 j) ∧ (s' 281 a.toNat = 1 ↔ loC s0 b a) ∧ ∀ j : Nat, j ≠ a.toNat → s' 281 j = s0 281 j)) := by
  have f0 : FL [5632, 5696] s0 s0 := FL.rf
  show xe none 167 0 [(0, .ref 256), (1, vi a), (2, vi b)] [] s0 0 0 _
  obtain ⟨rk, hrk⟩ := hJ0.2.1
  obtain ⟨jr, hjr⟩ := hJ0.2.2.2.1
  obtain ⟨⟨y51, y52, y54, y55⟩, y46, ytd, ynow⟩ := pG3.2 a (by omega) (by omega) (by have q := pG1.1; omega)
  refine x_A k167_0 (fun _ => rfl) ?_
  refine x_getR k167_1 (f := 31) rfl (q := 256) (n := 62) (kd := 15) ⟨by decide, rfl⟩ (q2 := 281) (by decide) rfl ?_
  refine x_A k167_4 (fun _ => rfl) ?_
  refine x_A k167_5 (fun _ => rfl) ?_
  refine x_bast k167_6 (q := 281) (n := 120) ⟨by decide, rfl⟩ (by decide) (by first | exact x_rbl b_a rfl rfl | exact ⟨by omega, by omega⟩) ⟨by omega, by omega⟩ ?_
  refine x_nh (fun s323 e_s323 => ?_)
  have hG_s323 : GI s323 := by rw [e_s323]; exact hG0.up (show 0 ≤ 0 ∧ 0 ≤ 1 from ⟨by decide, by decide⟩)
  have f_s323 : FL [5632, 5696] s0 s323 := by rw [e_s323]; exact f0.up (show 5696 ∈ [5632, 5696] from by decide)
  have q324 : s323 281 a.toNat = 0 := by rw [e_s323]; exact x_up_same
  refine x_A k167_7 (fun _ => rfl) ?_
  refine x_getR k167_8 (f := 30) rfl (q := 256) (n := 62) (kd := 15) ⟨by decide, rfl⟩ (q2 := 280) (by decide) rfl ?_
  refine x_A k167_11 (fun _ => rfl) ?_
  refine x_A k167_12 (fun _ => rfl) ?_
  refine x_iast k167_13 (q := 280) (n := 120) ⟨by decide, rfl⟩ (by decide) (by first | exact x_rbl b_a rfl rfl | exact ⟨by omega, by omega⟩) ?_
  refine x_nh (fun s325 e_s325 => ?_)
  have hG_s325 : GI s325 := by rw [e_s325]; exact hG_s323.up (show (-1) ≤ (-1) ∧ (-1) ≤ 39 from ⟨by decide, by decide⟩)
  have f_s325 : FL [5632, 5696] s0 s325 := by rw [e_s325]; exact f_s323.up (show 5632 ∈ [5632, 5696] from by decide)
  have q326 : s325 281 a.toNat = 0 := by rw [e_s325, x_up_q (by first | decide | omega)]; exact q324
  have q327 : s325 280 a.toNat = (-1) := by rw [e_s325]; exact x_up_same
  refine x_A k167_14 (fun _ => rfl) ?_
  refine x_getR k167_15 (f := 15) rfl (q := 256) (n := 62) (kd := 15) ⟨by decide, rfl⟩ (q2 := 268) (by decide) rfl ?_
  refine x_A k167_18 (fun _ => rfl) ?_
  refine x_iald k167_19 (q := 268) (n := 120) ⟨by decide, rfl⟩ (by decide) (by first | exact x_rbl b_a rfl rfl | exact ⟨by omega, by omega⟩) ?_
  refine x_top (fun z328 e_z328 => ?_)
  have g_z328 : (0 : Int) ≤ s325 268 a.toNat ∧ s325 268 a.toNat ≤ 9 := hG_s325 268 a.toNat
  have r268 : s0 268 a.toNat = z328 := by rw [← f_s325 268 a.toNat (show 4864 ∉ [5632, 5696] from by decide)]; exact e_z328.symm
  refine x_A k167_20 (fun _ => rfl) ?_
  refine x_ic_gt k167_21 (t := 52) rfl (by first | exact x_rbe e_z328 g_z328 rfl rfl | exact x_rb g_z328 rfl rfl | exact ⟨by omega, by omega⟩) (by first | exact x_rb b_b rfl rfl | exact ⟨by omega, by omega⟩) (fun c329 => ?_) (fun c329 => ?_)
  · skip
    have hn_ : nuC s0 b a := Or.inl (by omega)
    exact x_vret k167_52 rfl ⟨hG_s325, f_s325, rfl, ⟨fun j => by rw [e_s325, x_up_at, e_s323, x_up_q (by decide), meC_n hn_], ⟨fun q => by exfalso; have q2 : s325 281 a.toNat = 0 := q326; omega, fun q => absurd q (loC_n hn_)⟩, fun j hj => by rw [e_s325, x_up_q (by decide), e_s323, x_up_i hj]⟩⟩
  · skip
    refine x_A k167_24 (fun _ => rfl) ?_
    refine x_getR k167_25 (f := 27) rfl (q := 256) (n := 62) (kd := 15) ⟨by decide, rfl⟩ (q2 := 277) (by decide) rfl ?_
    refine x_A k167_28 (fun _ => rfl) ?_
    refine x_iald k167_29 (q := 277) (n := 120) ⟨by decide, rfl⟩ (by decide) (by first | exact x_rbl b_a rfl rfl | exact ⟨by omega, by omega⟩) ?_
    refine x_top (fun z330 e_z330 => ?_)
    have g_z330 : (0 : Int) ≤ s325 277 a.toNat ∧ s325 277 a.toNat ≤ 4 := hG_s325 277 a.toNat
    have r277 : s0 277 a.toNat = z330 := by rw [← f_s325 277 a.toNat (show 5440 ∉ [5632, 5696] from by decide)]; exact e_z330.symm
    refine x_if_gt k167_30 (t := 52) rfl (by first | exact x_rbe e_z330 g_z330 rfl rfl | exact x_rb g_z330 rfl rfl | exact ⟨by omega, by omega⟩) (fun c331 => ?_) (fun c331 => ?_)
    · skip
      have hn_ : nuC s0 b a := Or.inr (Or.inl (by rw [← (pw a (by omega) pa).1]; omega))
      exact x_vret k167_52 rfl ⟨hG_s325, f_s325, rfl, ⟨fun j => by rw [e_s325, x_up_at, e_s323, x_up_q (by decide), meC_n hn_], ⟨fun q => by exfalso; have q2 : s325 281 a.toNat = 0 := q326; omega, fun q => absurd q (loC_n hn_)⟩, fun j hj => by rw [e_s325, x_up_q (by decide), e_s323, x_up_i hj]⟩⟩
    · skip
      refine x_A k167_33 (fun _ => rfl) ?_
      refine x_getR k167_34 (f := 28) rfl (q := 256) (n := 62) (kd := 15) ⟨by decide, rfl⟩ (q2 := 278) (by decide) rfl ?_
      refine x_A k167_37 (fun _ => rfl) ?_
      refine x_bald k167_38 (q := 278) (n := 120) ⟨by decide, rfl⟩ (by decide) (by first | exact x_rbl b_a rfl rfl | exact ⟨by omega, by omega⟩) ?_
      refine x_top (fun z332 e_z332 => ?_)
      have g_z332 : (0 : Int) ≤ s325 278 a.toNat ∧ s325 278 a.toNat ≤ 1 := hG_s325 278 a.toNat
      have r278 : s0 278 a.toNat = z332 := by rw [← f_s325 278 a.toNat (show 5504 ∉ [5632, 5696] from by decide)]; exact e_z332.symm
      refine x_if_ne k167_39 (t := 52) rfl (by first | exact x_rbe e_z332 g_z332 rfl rfl | exact x_rb g_z332 rfl rfl | exact ⟨by omega, by omega⟩) (fun c333 => ?_) (fun c333 => ?_)
      · skip
        have hn_ : nuC s0 b a := Or.inr (Or.inr (Or.inl ((pw a (by omega) pa).2.1.mp (by omega))))
        exact x_vret k167_52 rfl ⟨hG_s325, f_s325, rfl, ⟨fun j => by rw [e_s325, x_up_at, e_s323, x_up_q (by decide), meC_n hn_], ⟨fun q => by exfalso; have q2 : s325 281 a.toNat = 0 := q326; omega, fun q => absurd q (loC_n hn_)⟩, fun j hj => by rw [e_s325, x_up_q (by decide), e_s323, x_up_i hj]⟩⟩
      · skip
        refine x_A k167_42 (fun _ => rfl) ?_
        refine x_A k167_43 (fun _ => rfl) ?_
        refine x_A k167_44 (fun _ => rfl) ?_
        refine x_callV k167_45 (y := 156) (n := 2) (w0 := 0) (w1 := 2) (as := [vi a, vi b]) (rest := []) (by decide +kernel) (q := 256) (nq := 62) (kq := 15) ⟨by decide, rfl⟩ rfl rfl rfl rfl (xe_mono (E_X11_doubts_256 s325 hG_s325 a (by first | exact x_rb b_a rfl rfl | exact ⟨by omega, by omega⟩) b (by first | exact x_rb b_b rfl rfl | exact ⟨by omega, by omega⟩)) ?_)
        rintro s335 v ⟨-, t_s335, z334, rfl, g_z334, xp_z334⟩
        rw [t_s335.nil]
        try rw [t_s335.nil] at xp_z334
        show xe none 167 48 [(0, .ref 256), (1, vi a), (2, vi b)] [vi z334] s325 0 0 _
        obtain ⟨-, yd⟩ := pG1.2 a (by omega) (by omega) (by omega)
        have dc_ : z334 = dcC s0 a b := by rw [xp_z334]; unfold dcC; exact dcn_cg 8 (fun j hj => by rw [f_s325 269 _ (show 4928 ∉ [5632, 5696] from by decide)]; exact (yd j (by omega) (by omega)).symm)
        refine x_A k167_48 (fun _ => rfl) ?_
        refine x_ic_le k167_49 (t := 53) rfl (by first | exact x_rbe e_z334 g_z334 rfl rfl | exact x_rb g_z334 rfl rfl | exact ⟨by omega, by omega⟩) ⟨by decide, by decide⟩ (fun c336 => ?_) (fun c336 => ?_)
        · skip
          have nn_ : ¬ nuC s0 b a := by
            rintro (q | q | q | q)
            · omega
            · exact q (by rw [← (pw a (by omega) pa).1]; omega)
            · have := (pw a (by omega) pa).2.1.mpr q; omega
            · omega
          refine x_A k167_53 (fun _ => rfl) ?_
          refine x_getR k167_54 (f := 12) rfl (q := 256) (n := 62) (kd := 15) ⟨by decide, rfl⟩ (q2 := 265) (by decide) rfl ?_
          refine x_A k167_57 (fun _ => rfl) ?_
          refine x_iald k167_58 (q := 265) (n := 120) ⟨by decide, rfl⟩ (by decide) (by first | exact x_rbl b_a rfl rfl | exact ⟨by omega, by omega⟩) ?_
          refine x_top (fun z337 e_z337 => ?_)
          have g_z337 : (0 : Int) ≤ s325 265 a.toNat ∧ s325 265 a.toNat ≤ 39 := hG_s325 265 a.toNat
          have r265 : s0 265 a.toNat = z337 := by rw [← f_s325 265 a.toNat (show 4672 ∉ [5632, 5696] from by decide)]; exact e_z337.symm
          have y52r : s0 52 a.toNat = z337 := y52.trans r265
          have td_ : tdC s0 b z337 := by rw [← y52r]; exact ⟨ytd.1, by have := ytd.2; omega⟩
          refine x_istore_n k167_59 (ls' := [(3, vi z337), (0, .ref 256), (1, vi a), (2, vi b)]) (by decide) rfl ?_
          refine x_ls (l := [(0, .ref 256), (1, vi a), (2, vi b), (3, vi z337)]) (show ([0, 1, 2, 3] : List Nat).Nodup from by decide) ⟨rfl, rfl, rfl, rfl, trivial⟩ ?_
          exact L_E_X11_findMeant_256_60 s0 hJ0 hG0 a b_a b b_b pT pG1 pG3 pa pw rk hrk jr hjr  ((((jm s0 jr b z337 : Nat) : Int) + 1 : Int)).toNat s325 a b z337 hG_s325 f_s325 (by first | exact x_rb b_a rfl rfl | exact ⟨by omega, by omega⟩) (by first | exact x_rb b_b rfl rfl | exact ⟨by omega, by omega⟩) (by first | exact x_rbe e_z337 g_z337 rfl rfl | exact x_rb g_z337 rfl rfl | exact ⟨by omega, by omega⟩) (by omega) nn_ (fun j => by rw [e_s325, x_up_at, e_s323, x_up_q (by decide)]) (fun j hj => by rw [e_s325, x_up_q (by decide), e_s323, x_up_i hj]) (by rw [q326, ← y52r]; exact lkI_0) td_  (by omega)
        · skip
          have hn_ : nuC s0 b a := Or.inr (Or.inr (Or.inr (by omega)))
          exact x_vret k167_52 rfl ⟨hG_s325, f_s325, rfl, ⟨fun j => by rw [e_s325, x_up_at, e_s323, x_up_q (by decide), meC_n hn_], ⟨fun q => by exfalso; have q2 : s325 281 a.toNat = 0 := q326; omega, fun q => absurd q (loC_n hn_)⟩, fun j hj => by rw [e_s325, x_up_q (by decide), e_s323, x_up_i hj]⟩⟩
set_option maxHeartbeats 8000000 in
theorem L_E_X11_find_256_50 (s0 : xS) (hJ0 : J s0) (hG0 : GI s0) (a : Int) (b_a : 0 ≤ a ∧ a ≤ 9) (pR : R1 s0) (pT : TR s0) (pG1 : G1 s0) (pG3 : G3 s0) (rk : Int → Int → Nat) (hrk : JP1 s0 rk) (n_29 : Nat) (ih_29 : ∀ (s : xS) (x1 : Int) (x2 : Int) (x1000 : Int) (x1001 : Int) (hG : GI s) (f : FL [5312, 5376, 4123, 5440, 5504, 5568, 5632, 5696, 5760] s0 s) (b_x1 : 0 ≤ x1 ∧ x1 ≤ 9) (b_x2 : 0 ≤ x2 ∧ x2 ≤ 120) (b_x1000 : 0 ≤ x1000 ∧ x1000 ≤ 40) (b_x1001 : 0 ≤ x1001 ∧ x1001 ≤ 120) (w_0 : x1 = a ∧ 0 ≤ a ∧ a ≤ 9 ∧ x1000 = s0 256 6 ∧ x1001 = s0 256 10 ∧ x2 ≤ x1001) (w_1 : WRn s s0 (s0 256 10)) (w_2 : MRn s s0 a x2) (w_3 : SRn s s0 a x2) (e_x1000 : x1000 = s 256 6) (e_x1001 : x1001 = s 256 10) (hm : (120 - x2) < (n_29 : Int)), xe none 168 29 [(0, .ref 256), (1, vi x1), (2, vi x2)] [] s 0 0 (fun s' v => GI s' ∧ FL [5312, 5376, 4123, 5440, 5504, 5568, 5632, 5696, 5760] s0 s' ∧ v = none ∧ (FdZ s' s0 a))) : ∀ (n : Nat) (s : xS) (x1 : Int) (x2 : Int) (x3 : Int) (x1000 : Int) (x1001 : Int) (hG : GI s) (f : FL [5312, 5376, 4123, 5440, 5504, 5568, 5632, 5696, 5760] s0 s) (b_x1 : 0 ≤ x1 ∧ x1 ≤ 9) (b_x2 : 0 ≤ x2 ∧ x2 ≤ 119) (b_x3 : (-1) ≤ x3 ∧ x3 ≤ 39) (b_x1000 : 0 ≤ x1000 ∧ x1000 ≤ 40) (b_x1001 : 1 ≤ x1001 ∧ x1001 ≤ 120) (r_2_1001 : x2 ≤ x1001 + 0) (w_0 : x1 = a ∧ 0 ≤ a ∧ a ≤ 9 ∧ x1000 = s0 256 6 ∧ x1001 = s0 256 10 ∧ x2 < x1001) (w_1 : WRn s s0 (s0 256 10)) (w_2 : MRn s s0 a (x2 + 1)) (w_3 : SRw s s0 a x2 x3) (e_x1000 : x1000 = s 256 6) (e_x1001 : x1001 = s 256 10) (k_29 : (120 - x2) < (n_29 : Int) + 1) (hm : ((rkm (rk x1) x3 : Nat) : Int) < (n : Int)), xe none 168 50 [(0, .ref 256), (1, vi x1), (2, vi x2), (3, vi x3)] [] s 0 0 (fun s' v => GI s' ∧ FL [5312, 5376, 4123, 5440, 5504, 5568, 5632, 5696, 5760] s0 s' ∧ v = none ∧ (FdZ s' s0 a)) := by
  intro n
  induction n with
  | zero => intro s x1 x2 x3 x1000 x1001 hG f b_x1 b_x2 b_x3 b_x1000 b_x1001 r_2_1001 w_0 w_1 w_2 w_3 e_x1000 e_x1001 k_29 hm; exfalso; omega
  | succ n ih =>
    intro s x1 x2 x3 x1000 x1001 hG f b_x1 b_x2 b_x3 b_x1000 b_x1001 r_2_1001 w_0 w_1 w_2 w_3 e_x1000 e_x1001 k_29 hm
    obtain ⟨⟨y51, y52, y54, y55⟩, y46, ytd, ynow⟩ := pG3.2 x2 (by omega) (by omega) (by have q := pG1.1; omega)
    refine x_A k168_50 (fun _ => rfl) ?_
    refine x_if_lt k168_51 (t := 86) rfl (by first | exact x_rb b_x3 rfl rfl | exact ⟨by omega, by omega⟩) (fun c539 => ?_) (fun c539 => ?_)
    · skip
      refine x_iinc k168_86 (ls' := [(2, vi (x2 + 1)), (0, .ref 256), (1, vi x1), (3, vi x3)]) rfl (by decide) rfl ?_
      refine x_goto k168_89 (t := 29) rfl ?_
      refine x_ls (l := [(0, .ref 256), (1, vi x1), (2, vi (x2 + 1))]) (show ([0, 1, 2] : List Nat).Nodup from by decide) ⟨rfl, rfl, rfl, trivial⟩ ?_
      exact ih_29 s x1 (x2 + 1) x1000 x1001 hG f (by first | exact x_rb b_x1 rfl rfl | exact ⟨by omega, by omega⟩) ⟨by omega, by omega⟩ (by first | exact x_rb b_x1000 rfl rfl | exact ⟨by omega, by omega⟩) (by first | exact x_rb b_x1001 rfl rfl | exact ⟨by omega, by omega⟩) (by omega) w_1 w_2 (SRw.fin w_3 (by omega)) (e_x1000.symm).symm (e_x1001.symm).symm (by omega)
    · skip
      refine x_A k168_54 (fun _ => rfl) ?_
      refine x_getR k168_55 (f := 32) rfl (q := 256) (n := 62) (kd := 15) ⟨by decide, rfl⟩ (q2 := 282) (by decide) rfl ?_
      refine x_A k168_58 (fun _ => rfl) ?_
      refine x_getR k168_59 (f := 11) rfl (q := 256) (n := 62) (kd := 15) ⟨by decide, rfl⟩ (q2 := 264) (by decide) rfl ?_
      refine x_A k168_62 (fun _ => rfl) ?_
      refine x_iald k168_63 (q := 264) (n := 120) ⟨by decide, rfl⟩ (by decide) (by first | exact x_rbl b_x2 rfl rfl | exact ⟨by omega, by omega⟩) ?_
      refine x_top (fun z540 e_z540 => ?_)
      have g_z540 : (0 : Int) ≤ s 264 x2.toNat ∧ s 264 x2.toNat ≤ 39 := hG 264 x2.toNat
      refine x_A k168_64 (fun _ => rfl) ?_
      refine x_lald k168_65 (q := 282) (n := 40) ⟨by decide, rfl⟩ (by decide) (by first | exact x_rbel e_z540 g_z540 rfl rfl | exact x_rbl g_z540 rfl rfl | exact ⟨by omega, by omega⟩) ?_
      refine x_topL (fun z541 e_z541 => ?_)
      have b_z541 : in64 z541 := by rw [e_z541]; exact hG 282 z540.toNat
      refine x_lconst k168_66 (z := 1) (by decide +kernel) ?_
      refine x_A k168_67 (fun _ => rfl) ?_
      refine x_lshl1 k168_68 ⟨by omega, by omega⟩ (fun z542 b_z542 g_z542 => ?_)
      refine x_lor_b k168_69 (fun z543 b_z543 g_z543 => ?_)
      refine x_last k168_70 (q := 282) (n := 40) ⟨by decide, rfl⟩ (by decide) (by first | exact x_rbel e_z540 g_z540 rfl rfl | exact x_rbl g_z540 rfl rfl | exact ⟨by omega, by omega⟩) ?_
      refine x_nh (fun s544 e_s544 => ?_)
      have hG_s544 : GI s544 := by rw [e_s544]; exact hG.up (show in64 z543 from b_z543)
      have f_s544 : FL [5312, 5376, 4123, 5440, 5504, 5568, 5632, 5696, 5760] s0 s544 := by rw [e_s544]; exact f.up (show 5760 ∈ [5312, 5376, 4123, 5440, 5504, 5568, 5632, 5696, 5760] from by decide)
      have q545 : s544 256 6 = x1000 := by rw [e_s544, x_up_q (by decide)]; exact e_x1000.symm
      have q546 : s544 256 10 = x1001 := by rw [e_s544, x_up_q (by decide)]; exact e_x1001.symm
      have q547 : s544 264 x2.toNat = z540 := by rw [e_s544, x_up_q (by first | decide | omega)]; exact e_z540.symm
      refine x_A k168_71 (fun _ => rfl) ?_
      refine x_getR k168_72 (f := 5) rfl (q := 256) (n := 62) (kd := 15) ⟨by decide, rfl⟩ (q2 := 260) (by decide) rfl ?_
      refine x_bipush k168_75 (by decide +kernel) ?_
      refine x_A k168_77 (fun _ => rfl) ?_
      refine x_imul k168_78 ?_
      refine x_top (fun z548 e_z548 => ?_)
      refine x_A k168_79 (fun _ => rfl) ?_
      refine x_iadd k168_80 ?_
      refine x_top (fun z549 e_z549 => ?_)
      refine x_iald k168_81 (q := 260) (n := 400) ⟨by decide, rfl⟩ (by decide) (by first | exact x_rbel e_z549 g_z549 rfl rfl | exact x_rbl g_z549 rfl rfl | exact ⟨by omega, by omega⟩) ?_
      refine x_top (fun z550 e_z550 => ?_)
      have g_z550 : (-1) ≤ s544 260 z549.toNat ∧ s544 260 z549.toNat ≤ 39 := hG_s544 260 z549.toNat
      have d_z550 := (hrk.fl f_s544 (by decide)).dn x3 x1 ⟨by omega, by omega⟩ ⟨by omega, by omega⟩
      rw [show 10 * x3 + x1 = z549 by omega, e_z550.symm] at d_z550
      have ey_ : z550 = s0 260 (10 * x3 + a).toNat := by rw [← f_s544 260 _ (show 4352 ∉ [5312, 5376, 4123, 5440, 5504, 5568, 5632, 5696, 5760] from by decide), show 10 * x3 + a = z549 by omega]; exact (e_z550.symm).symm
      refine x_istore_n k168_82 (ls' := [(3, vi z550), (0, .ref 256), (1, vi x1), (2, vi x2)]) (by decide) rfl ?_
      refine x_goto k168_83 (t := 50) rfl ?_
      refine x_ls (l := [(0, .ref 256), (1, vi x1), (2, vi x2), (3, vi z550)]) (show ([0, 1, 2, 3] : List Nat).Nodup from by decide) ⟨rfl, rfl, rfl, rfl, trivial⟩ ?_
      exact ih s544 x1 x2 z550 x1000 x1001 hG_s544 f_s544 (by first | exact x_rb b_x1 rfl rfl | exact ⟨by omega, by omega⟩) (by first | exact x_rb b_x2 rfl rfl | exact ⟨by omega, by omega⟩) (by first | exact x_rbe e_z550 g_z550 rfl rfl | exact x_rb g_z550 rfl rfl | exact ⟨by omega, by omega⟩) (by first | exact x_rb b_x1000 rfl rfl | exact ⟨by omega, by omega⟩) (by first | exact x_rb b_x1001 rfl rfl | exact ⟨by omega, by omega⟩) (by omega) (by omega) (by rw [e_s544]; exact WRn.up w_1 (show 5760 ∉ _ from by decide)) (MRn.cg w_2 (funext fun i => by rw [e_s544, x_up_q (by decide)]) (funext fun i => by rw [e_s544, x_up_q (by decide)])) (SRw.step (p := z540) w_3 ⟨by omega, by omega⟩ (by omega) (by rw [y51, ← f_s544 264 x2.toNat (show 4608 ∉ [5312, 5376, 4123, 5440, 5504, 5568, 5632, 5696, 5760] from by decide)]; exact q547) (fun j => by rw [e_s544, x_up_at]) e_z541 g_z543 g_z542 ey_) (q545).symm (q546).symm (by omega) (by omega)
set_option maxHeartbeats 8000000 in
theorem L_E_X11_find_256_29 (s0 : xS) (hJ0 : J s0) (hG0 : GI s0) (a : Int) (b_a : 0 ≤ a ∧ a ≤ 9) (pR : R1 s0) (pT : TR s0) (pG1 : G1 s0) (pG3 : G3 s0) (rk : Int → Int → Nat) (hrk : JP1 s0 rk)  : ∀ (n : Nat) (s : xS) (x1 : Int) (x2 : Int) (x1000 : Int) (x1001 : Int) (hG : GI s) (f : FL [5312, 5376, 4123, 5440, 5504, 5568, 5632, 5696, 5760] s0 s) (b_x1 : 0 ≤ x1 ∧ x1 ≤ 9) (b_x2 : 0 ≤ x2 ∧ x2 ≤ 120) (b_x1000 : 0 ≤ x1000 ∧ x1000 ≤ 40) (b_x1001 : 0 ≤ x1001 ∧ x1001 ≤ 120) (w_0 : x1 = a ∧ 0 ≤ a ∧ a ≤ 9 ∧ x1000 = s0 256 6 ∧ x1001 = s0 256 10 ∧ x2 ≤ x1001) (w_1 : WRn s s0 (s0 256 10)) (w_2 : MRn s s0 a x2) (w_3 : SRn s s0 a x2) (e_x1000 : x1000 = s 256 6) (e_x1001 : x1001 = s 256 10)  (hm : (120 - x2) < (n : Int)), xe none 168 29 [(0, .ref 256), (1, vi x1), (2, vi x2)] [] s 0 0 (fun s' v => GI s' ∧ FL [5312, 5376, 4123, 5440, 5504, 5568, 5632, 5696, 5760] s0 s' ∧ v = none ∧ (FdZ s' s0 a)) := by
  intro n
  induction n with
  | zero => intro s x1 x2 x1000 x1001 hG f b_x1 b_x2 b_x1000 b_x1001 w_0 w_1 w_2 w_3 e_x1000 e_x1001  hm; exfalso; omega
  | succ n ih =>
    intro s x1 x2 x1000 x1001 hG f b_x1 b_x2 b_x1000 b_x1001 w_0 w_1 w_2 w_3 e_x1000 e_x1001  hm
    refine x_A k168_29 (fun _ => rfl) ?_
    refine x_A k168_30 (fun _ => rfl) ?_
    refine x_getI k168_31 (f := 10) rfl (q := 256) (n := 62) (kd := 15) ⟨by decide, rfl⟩ (by decide) rfl ?_
    refine x_rw (e_x1001.symm) ?_
    refine x_ic_ge k168_34 (t := 92) rfl (by first | exact x_rb b_x2 rfl rfl | exact ⟨by omega, by omega⟩) (by first | exact x_rb b_x1001 rfl rfl | exact ⟨by omega, by omega⟩) (fun c551 => ?_) (fun c551 => ?_)
    · skip
      exact x_vret k168_92 rfl ⟨hG, f, rfl, ⟨w_1, by rw [← show x2 = s0 256 10 by omega]; exact w_2, fun p p0 p1 k hk => (w_3 p p0 p1 k hk).trans (exists_congr fun g => by rw [show x2 = s0 50 6 by have q := pG1.1; omega])⟩⟩
    · skip
      have ve_ : VE s s0 := FL.ve f hG0 (by decide)
      refine x_A k168_37 (fun _ => rfl) ?_
      refine x_A k168_38 (fun _ => rfl) ?_
      refine x_A k168_39 (fun _ => rfl) ?_
      refine x_callV k168_40 (y := 167) (n := 2) (w0 := 0) (w1 := 2) (as := [vi x2, vi x1]) (rest := []) (by decide +kernel) (q := 256) (nq := 62) (kq := 15) ⟨by decide, rfl⟩ rfl rfl rfl rfl (xe_mono (E_X11_findMeant_256 s hG (hJ0.fl f (by decide)) x2 (by first | exact x_rb b_x2 rfl rfl | exact ⟨by omega, by omega⟩) x1 (by first | exact x_rb b_x1 rfl rfl | exact ⟨by omega, by omega⟩) (pT.fl (hG0 256 1).2 f (by decide)) (pG1.fl f (by decide)) (pG3.fl f (by decide)) (by omega) (by rw [show s 256 10 = s0 256 10 by omega]; exact WRn.cg w_1 ve_.sy)) ?_)
      rintro s553 v ⟨hG_s553, t_s553, rfl, xp_z552⟩
      have f_s553 : FL [5312, 5376, 4123, 5440, 5504, 5568, 5632, 5696, 5760] s0 s553 := f.tr t_s553 (by decide)
      have q554 : s553 256 6 = x1000 := (t_s553 256 6 (show 4103 ∉ [5632, 5696] from by decide)).trans e_x1000.symm
      have q555 : s553 256 10 = x1001 := (t_s553 256 10 (show 4107 ∉ [5632, 5696] from by decide)).trans e_x1001.symm
      show xe none 168 43 [(0, .ref 256), (1, vi x1), (2, vi x2)] [] s553 0 0 _
      have fm_ := xp_z552
      have pg_ := pG1.1
      rw [ve_.me ⟨by omega, by omega⟩, ve_.lo ⟨by omega, by omega⟩, show x1 = a by omega] at fm_
      refine x_A k168_43 (fun _ => rfl) ?_
      refine x_getR k168_44 (f := 30) rfl (q := 256) (n := 62) (kd := 15) ⟨by decide, rfl⟩ (q2 := 280) (by decide) rfl ?_
      refine x_A k168_47 (fun _ => rfl) ?_
      refine x_iald k168_48 (q := 280) (n := 120) ⟨by decide, rfl⟩ (by decide) (by first | exact x_rbl b_x2 rfl rfl | exact ⟨by omega, by omega⟩) ?_
      refine x_top (fun z556 e_z556 => ?_)
      have g_z556 : (-1) ≤ s553 280 x2.toNat ∧ s553 280 x2.toNat ≤ 39 := hG_s553 280 x2.toNat
      have ez_ : z556 = meC s0 a x2 := (e_z556.symm).symm.trans ((fm_.1 x2.toNat).trans (if_pos rfl))
      refine x_istore_n k168_49 (ls' := [(3, vi z556), (0, .ref 256), (1, vi x1), (2, vi x2)]) (by decide) rfl ?_
      refine x_ls (l := [(0, .ref 256), (1, vi x1), (2, vi x2), (3, vi z556)]) (show ([0, 1, 2, 3] : List Nat).Nodup from by decide) ⟨rfl, rfl, rfl, rfl, trivial⟩ ?_
      exact L_E_X11_find_256_50 s0 hJ0 hG0 a b_a pR pT pG1 pG3 rk hrk n (fun s x1 x2 x1000 x1001 hG f b_x1 b_x2 b_x1000 b_x1001 w_0 w_1 w_2 w_3 e_x1000 e_x1001 hm => ih s x1 x2 x1000 x1001 hG f b_x1 b_x2 b_x1000 b_x1001 w_0 w_1 w_2 w_3 e_x1000 e_x1001  hm) ((((rkm (rk x1) z556 : Nat) : Int) + 1 : Int)).toNat s553 x1 x2 z556 x1000 x1001 hG_s553 f_s553 (by first | exact x_rb b_x1 rfl rfl | exact ⟨by omega, by omega⟩) (by first | exact x_rb b_x2 rfl rfl | exact ⟨by omega, by omega⟩) (by first | exact x_rbe e_z556 g_z556 rfl rfl | exact x_rb g_z556 rfl rfl | exact ⟨by omega, by omega⟩) (by first | exact x_rb b_x1000 rfl rfl | exact ⟨by omega, by omega⟩) (by first | exact x_rb b_x1001 rfl rfl | exact ⟨by omega, by omega⟩) (by omega) (by omega) (WRn.fl w_1 t_s553 (by decide)) (MRn.add w_2 (by omega) fm_.1 rfl fm_.2.1 fm_.2.2) (SRn.go (by have q := w_3; unfold SRn at q ⊢; rw [show s553 282 = s 282 from funext fun i => t_s553 282 i (show 5760 ∉ _ from by decide)]; exact q) pT pG3 hJ0 hG0 ⟨by omega, by omega⟩ ⟨by omega, by omega⟩ ez_) (q554).symm (q555).symm (by omega) (by omega)
set_option maxHeartbeats 8000000 in
theorem L_E_X11_find_256_6 (s0 : xS) (hJ0 : J s0) (hG0 : GI s0) (a : Int) (b_a : 0 ≤ a ∧ a ≤ 9) (pR : R1 s0) (pT : TR s0) (pG1 : G1 s0) (pG3 : G3 s0) (rk : Int → Int → Nat) (hrk : JP1 s0 rk)  : ∀ (n : Nat) (s : xS) (x1 : Int) (x2 : Int) (x1000 : Int) (x1001 : Int) (hG : GI s) (f : FL [5312, 5376, 4123, 5440, 5504, 5568, 5632, 5696, 5760] s0 s) (b_x1 : 0 ≤ x1 ∧ x1 ≤ 9) (b_x2 : 0 ≤ x2 ∧ x2 ≤ 40) (b_x1000 : 0 ≤ x1000 ∧ x1000 ≤ 40) (b_x1001 : 0 ≤ x1001 ∧ x1001 ≤ 120) (r_2_1000 : x2 ≤ x1000 + 0) (w_0 : x1 = a ∧ 0 ≤ a ∧ a ≤ 9 ∧ x1000 = s0 256 6 ∧ x1001 = s0 256 10 ∧ x2 ≤ x1000) (w_1 : WRn s s0 (s0 256 10)) (w_2 : ∀ p : Int, 0 ≤ p → p < x2 → s 282 p.toNat = 0) (e_x1000 : x1000 = s 256 6) (e_x1001 : x1001 = s 256 10)  (hm : (40 - x2) < (n : Int)), xe none 168 6 [(0, .ref 256), (1, vi x1), (2, vi x2)] [] s 0 0 (fun s' v => GI s' ∧ FL [5312, 5376, 4123, 5440, 5504, 5568, 5632, 5696, 5760] s0 s' ∧ v = none ∧ (FdZ s' s0 a)) := by
  intro n
  induction n with
  | zero => intro s x1 x2 x1000 x1001 hG f b_x1 b_x2 b_x1000 b_x1001 r_2_1000 w_0 w_1 w_2 e_x1000 e_x1001  hm; exfalso; omega
  | succ n ih =>
    intro s x1 x2 x1000 x1001 hG f b_x1 b_x2 b_x1000 b_x1001 r_2_1000 w_0 w_1 w_2 e_x1000 e_x1001  hm
    refine x_A k168_6 (fun _ => rfl) ?_
    refine x_A k168_7 (fun _ => rfl) ?_
    refine x_getI k168_8 (f := 6) rfl (q := 256) (n := 62) (kd := 15) ⟨by decide, rfl⟩ (by decide) rfl ?_
    refine x_rw (e_x1000.symm) ?_
    refine x_ic_ge k168_11 (t := 27) rfl (by first | exact x_rb b_x2 rfl rfl | exact ⟨by omega, by omega⟩) (by first | exact x_rb b_x1000 rfl rfl | exact ⟨by omega, by omega⟩) (fun c557 => ?_) (fun c557 => ?_)
    · skip
      refine x_A k168_27 (fun _ => rfl) ?_
      refine x_istore_n k168_28 (ls' := [(2, vi 0), (0, .ref 256), (1, vi x1)]) (by decide) rfl ?_
      refine x_ls (l := [(0, .ref 256), (1, vi x1), (2, vi 0)]) (show ([0, 1, 2] : List Nat).Nodup from by decide) ⟨rfl, rfl, rfl, trivial⟩ ?_
      exact L_E_X11_find_256_29 s0 hJ0 hG0 a b_a pR pT pG1 pG3 rk hrk  (((120 - 0) + 1 : Int)).toNat s x1 0 x1000 x1001 hG f (by first | exact x_rb b_x1 rfl rfl | exact ⟨by omega, by omega⟩) ⟨by decide, by decide⟩ (by first | exact x_rb b_x1000 rfl rfl | exact ⟨by omega, by omega⟩) (by first | exact x_rb b_x1001 rfl rfl | exact ⟨by omega, by omega⟩) (by omega) w_1 MRn_0 (SRn_0 (fun p p0 p1 => w_2 p p0 (by omega))) (e_x1000.symm).symm (e_x1001.symm).symm  (by omega)
    · skip
      refine x_A k168_14 (fun _ => rfl) ?_
      refine x_getR k168_15 (f := 32) rfl (q := 256) (n := 62) (kd := 15) ⟨by decide, rfl⟩ (q2 := 282) (by decide) rfl ?_
      refine x_A k168_18 (fun _ => rfl) ?_
      refine x_lconst k168_19 (z := 0) (by decide +kernel) ?_
      refine x_last k168_20 (q := 282) (n := 40) ⟨by decide, rfl⟩ (by decide) (by first | exact x_rbl b_x2 rfl rfl | exact ⟨by omega, by omega⟩) ?_
      refine x_nh (fun s558 e_s558 => ?_)
      have hG_s558 : GI s558 := by rw [e_s558]; exact hG.up (show in64 0 from ⟨by omega, by omega⟩)
      have f_s558 : FL [5312, 5376, 4123, 5440, 5504, 5568, 5632, 5696, 5760] s0 s558 := by rw [e_s558]; exact f.up (show 5760 ∈ [5312, 5376, 4123, 5440, 5504, 5568, 5632, 5696, 5760] from by decide)
      have q559 : s558 256 6 = x1000 := by rw [e_s558, x_up_q (by decide)]; exact e_x1000.symm
      have q560 : s558 256 10 = x1001 := by rw [e_s558, x_up_q (by decide)]; exact e_x1001.symm
      refine x_iinc k168_21 (ls' := [(2, vi (x2 + 1)), (0, .ref 256), (1, vi x1)]) rfl (by decide) rfl ?_
      refine x_goto k168_24 (t := 6) rfl ?_
      refine x_ls (l := [(0, .ref 256), (1, vi x1), (2, vi (x2 + 1))]) (show ([0, 1, 2] : List Nat).Nodup from by decide) ⟨rfl, rfl, rfl, trivial⟩ ?_
      exact ih s558 x1 (x2 + 1) x1000 x1001 hG_s558 f_s558 (by first | exact x_rb b_x1 rfl rfl | exact ⟨by omega, by omega⟩) ⟨by omega, by omega⟩ (by first | exact x_rb b_x1000 rfl rfl | exact ⟨by omega, by omega⟩) (by first | exact x_rb b_x1001 rfl rfl | exact ⟨by omega, by omega⟩) (by omega) (by omega) (by rw [e_s558]; exact WRn.up w_1 (show 5760 ∉ _ from by decide)) (fun p p0 p1 => by rw [e_s558, x_up_at]; by_cases q : p.toNat = x2.toNat; rw [if_pos q]; rw [if_neg q]; exact w_2 p p0 (by omega)) (q559).symm (q560).symm  (by omega)
set_option maxHeartbeats 8000000 in
theorem E_X11_find_256 (s0 : xS) (hG0 : GI s0) (hJ0 : J s0) (a : Int) (b_a : 0 ≤ a ∧ a ≤ 9) (pR : R1 s0) (pT : TR s0) (pG1 : G1 s0) (pG3 : G3 s0) : xe none 168 0 (lv_args 0 [.ref 256, vi a]) [] s0 0 0 (fun s' v => GI s' ∧ FL [5312, 5376, 4123, 5440, 5504, 5568, 5632, 5696, 5760] s0 s' ∧ v = none ∧ (FdZ s' s0 a)) := by
  have f0 : FL [5312, 5376, 4123, 5440, 5504, 5568, 5632, 5696, 5760] s0 s0 := FL.rf
  show xe none 168 0 [(0, .ref 256), (1, vi a)] [] s0 0 0 _
  obtain ⟨rk, hrk⟩ := hJ0.2.1
  refine x_A k168_0 (fun _ => rfl) ?_
  refine x_callV k168_1 (y := 166) (n := 0) (w0 := 0) (w1 := 0) (as := []) (rest := []) (by decide +kernel) (q := 256) (nq := 62) (kq := 15) ⟨by decide, rfl⟩ rfl rfl rfl rfl (xe_mono (E_X11_findWrong_256 s0 hG0 (hJ0.fl f0 (by decide)) (pR.fl f0 (by decide)) (pT.fl (hG0 256 1).2 f0 (by decide)) (pG1.fl f0 (by decide)) (pG3.fl f0 (by decide))) ?_)
  rintro s562 v ⟨hG_s562, t_s562, rfl, xp_z561⟩
  have f_s562 : FL [5312, 5376, 4123, 5440, 5504, 5568, 5632, 5696, 5760] s0 s562 := f0.tr t_s562 (by decide)
  show xe none 168 4 [(0, .ref 256), (1, vi a)] [] s562 0 0 _
  have e6_ : s562 256 6 = s0 256 6 := f_s562 256 6 (show 4103 ∉ [5312, 5376, 4123, 5440, 5504, 5568, 5632, 5696, 5760] from by decide)
  have e10_ : s562 256 10 = s0 256 10 := f_s562 256 10 (show 4107 ∉ [5312, 5376, 4123, 5440, 5504, 5568, 5632, 5696, 5760] from by decide)
  refine x_A k168_4 (fun _ => rfl) ?_
  refine x_istore_n k168_5 (ls' := [(2, vi 0), (0, .ref 256), (1, vi a)]) (by decide) rfl ?_
  obtain ⟨z563, e_z563⟩ : ∃ z, z = s562 256 6 := ⟨_, rfl⟩
  have g_z563 : (0 : Int) ≤ s562 256 6 ∧ s562 256 6 ≤ 40 := hG_s562 256 6
  obtain ⟨z564, e_z564⟩ : ∃ z, z = s562 256 10 := ⟨_, rfl⟩
  have g_z564 : (0 : Int) ≤ s562 256 10 ∧ s562 256 10 ≤ 120 := hG_s562 256 10
  refine x_ls (l := [(0, .ref 256), (1, vi a), (2, vi 0)]) (show ([0, 1, 2] : List Nat).Nodup from by decide) ⟨rfl, rfl, rfl, trivial⟩ ?_
  exact L_E_X11_find_256_6 s0 hJ0 hG0 a b_a pR pT pG1 pG3 rk hrk  (((40 - 0) + 1 : Int)).toNat s562 a 0 z563 z564 hG_s562 f_s562 (by first | exact x_rb b_a rfl rfl | exact ⟨by omega, by omega⟩) ⟨by decide, by decide⟩ (by first | exact x_rbe e_z563 g_z563 rfl rfl | exact x_rb g_z563 rfl rfl | exact ⟨by omega, by omega⟩) (by first | exact x_rbe e_z564 g_z564 rfl rfl | exact x_rb g_z564 rfl rfl | exact ⟨by omega, by omega⟩) (by omega) (by omega) xp_z561 (fun p p0 p1 => by omega) (e_z563.symm).symm (e_z564.symm).symm  (by omega)
