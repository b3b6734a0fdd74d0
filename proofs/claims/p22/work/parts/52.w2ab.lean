set_option maxHeartbeats 8000000 in
theorem L_W_X10_metBy_0_14 (s0 : xS) (hG0 : GI s0) (a : Int) (b_a : 0 ≤ a ∧ a ≤ 7) (b : Int) (b_b : (-2147483648) ≤ b ∧ b ≤ 2147483647) (pV : VL s0 s0 b) (pn : PN s0) (pa : okA s0 a ∧ (0 ≤ s0 219 a.toNat ∧ s0 219 a.toNat ≤ 100))  : ∀ (n : Nat) (s : xS) (x1 : Int) (x2 : Int) (x4 : Int) (x5 : Int) (hG : GI s) (f : FL [2752] s0 s) (b_x1 : 0 ≤ x1 ∧ x1 ≤ 7) (b_x2 : (-2147483648) ≤ x2 ∧ x2 ≤ 2147483647) (b_x4 : 0 ≤ x4 ∧ x4 ≤ 100) (b_x5 : 0 ≤ x5 ∧ x5 ≤ 100) (r_4_5 : x4 ≤ x5 + 0) (w_0 : x1 = a ∧ x2 = b ∧ x5 ≤ s0 219 a.toNat) (w_1 : EvC (mP s0 b) (s0 (220 + 1 + a.toNat)) (s0 46 3) (s 229) x4 x5)  (hm : (100 - x5) < (n : Int)), xe none 133 14 [(0, .ref 0), (1, vi x1), (2, vi x2), (3, .ref 229), (4, vi x4), (5, vi x5)] [] s 0 0 (fun s' v => GI s' ∧ FL [2752] s0 s' ∧ ∃ z, v = some (vj z) ∧ in64 z ∧ (∀ k : Nat, k < 64 → (bt z k = true ↔ (k : Int) < s0 46 3 ∧ MetP s0 b a (k : Int)))) := by
  intro n
  induction n with
  | zero => intro s x1 x2 x4 x5 hG f b_x1 b_x2 b_x4 b_x5 r_4_5 w_0 w_1  hm; exfalso; omega
  | succ n ih =>
    intro s x1 x2 x4 x5 hG f b_x1 b_x2 b_x4 b_x5 r_4_5 w_0 w_1  hm
    refine x_A k133_14 (fun _ => rfl) ?_
    refine x_A k133_16 (fun _ => rfl) ?_
    refine x_getR k133_17 (f := 7) rfl (q := 0) (n := 12) (kd := 3) ⟨by decide, rfl⟩ (q2 := 218) (by decide) rfl ?_
    refine x_getR k133_20 (f := 0) rfl (q := 218) (n := 7) (kd := 11) ⟨by decide, rfl⟩ (q2 := 219) (by decide) rfl ?_
    refine x_A k133_23 (fun _ => rfl) ?_
    refine x_iald k133_24 (q := 219) (n := 8) ⟨by decide, rfl⟩ (by decide) ⟨by omega, by omega⟩ ?_
    refine x_top (fun z754 e_z754 => ?_)
    have g_z754 : (0 : Int) ≤ s 219 x1.toNat ∧ s 219 x1.toNat ≤ 100 := hG 219 x1.toNat
    have m219_ : s0 219 a.toNat = z754 := by rw [← f 219 a.toNat (show 2560 ∉ [2752] from by decide), ← show x1 = a by omega]; exact e_z754.symm
    refine x_ic_ge k133_25 (t := 188) rfl ⟨by omega, by omega⟩ ⟨by omega, by omega⟩ (fun c755 => ?_) (fun c755 => ?_)
    · skip
      refine x_A k133_188 (fun _ => rfl) ?_
      refine x_A k133_190 (fun _ => rfl) ?_
      refine x_ic_ne k133_191 (t := 200) rfl ⟨by omega, by omega⟩ ⟨by omega, by omega⟩ (fun c756 => ?_) (fun c756 => ?_)
      · skip
        refine x_lconst k133_200 (z := 0) (by decide +kernel) ?_
        exact x_lret k133_201 rfl ⟨hG, f, 0, rfl, ⟨by omega, by omega⟩, (fun k hk => by exfalso; first | omega | (have ln2_ := (ev_len (P := mP s0 b) pa.1.1) (s0 219 a.toNat).toNat (Nat.le_refl _); have lt2_ := w_1.1; rw [show x5.toNat = (s0 219 a.toNat).toNat by omega] at lt2_; have q := pa.1.2; omega))⟩
      · skip
        refine x_A k133_194 (fun _ => rfl) ?_
        refine x_A k133_195 (fun _ => rfl) ?_
        refine x_lald k133_196 (q := 229) (n := 100) ⟨by decide, rfl⟩ (by decide) ⟨by omega, by omega⟩ ?_
        refine x_topL (fun z757 e_z757 => ?_)
        have b_z757 : in64 z757 := by rw [e_z757]; exact hG 229 0
        refine x_goto k133_197 (t := 201) rfl ?_
        exact x_lret k133_201 rfl ⟨hG, f, z757, rfl, b_z757, (fun k hk => by rw [show z757 = s 229 0 from e_z757]; exact w_1.fin (by omega) (by omega) k hk)⟩
    · skip
      refine x_A k133_28 (fun _ => rfl) ?_
      refine x_A k133_30 (fun _ => rfl) ?_
      refine x_alen k133_31 (q := 229) (t := 21) (n := 100) (kd := 1) ⟨by decide, rfl⟩ (by decide) ?_
      refine x_top (fun z758 e_z758 => ?_)
      refine x_ic_ge k133_32 (t := 188) rfl ⟨by omega, by omega⟩ ⟨by omega, by omega⟩ (fun c759 => ?_) (fun c759 => ?_)
      · skip
        refine x_A k133_188 (fun _ => rfl) ?_
        refine x_A k133_190 (fun _ => rfl) ?_
        refine x_ic_ne k133_191 (t := 200) rfl ⟨by omega, by omega⟩ ⟨by omega, by omega⟩ (fun c760 => ?_) (fun c760 => by exfalso; omega)
        refine x_lconst k133_200 (z := 0) (by decide +kernel) ?_
        exact x_lret k133_201 rfl ⟨hG, f, 0, rfl, ⟨by omega, by omega⟩, (fun k hk => by exfalso; first | omega | (have ln2_ := (ev_len (P := mP s0 b) pa.1.1) (s0 219 a.toNat).toNat (Nat.le_refl _); have lt2_ := w_1.1; rw [show x5.toNat = (s0 219 a.toNat).toNat by omega] at lt2_; have q := pa.1.2; omega))⟩
      · skip
        refine x_A k133_35 (fun _ => rfl) ?_
        refine x_getR k133_36 (f := 7) rfl (q := 0) (n := 12) (kd := 3) ⟨by decide, rfl⟩ (q2 := 218) (by decide) rfl ?_
        refine x_getR k133_39 (f := 1) rfl (q := 218) (n := 7) (kd := 11) ⟨by decide, rfl⟩ (q2 := 220) (by decide) rfl ?_
        refine x_A k133_42 (fun _ => rfl) ?_
        refine x_aald k133_43 (q := 220) (t := 23) (n := 8) ⟨by decide, rfl⟩ (by decide) (by decide) ⟨by omega, by omega⟩ ?_
        refine x_A k133_44 (fun _ => rfl) ?_
        refine x_iald k133_46 (q := (220 + 1 + x1.toNat)) (n := 100) (xg_221 (by omega) (by omega)) (by decide) ⟨by omega, by omega⟩ ?_
        refine x_top (fun z761 e_z761 => ?_)
        have r_z761 := hG (220 + 1 + x1.toNat) x5.toNat
        rw [(gr_221 x5.toNat (show 221 ≤ (220 + 1 + x1.toNat) by omega) (by omega)).1, (gr_221 x5.toNat (show 221 ≤ (220 + 1 + x1.toNat) by omega) (by omega)).2.1, ← e_z761] at r_z761
        have c_ : s0 (220 + 1 + a.toNat) x5.toNat = z761 := by rw [← rowsA f (by decide) a.toNat x5.toNat (by omega), ← show x1 = a by omega]; exact e_z761.symm
        obtain ⟨oc_, od1_, od2_⟩ := pa.1.1 x5.toNat (by omega)
        rw [c_] at oc_ od1_ od2_
        unfold okc at oc_
        have ln_ := (ev_len (P := mP s0 b) pa.1.1) x5.toNat (by omega)
        have lt_ := w_1.1
        refine x_sipush k133_47 (by decide +kernel) ?_
        refine x_idiv_n k133_50 ⟨by omega, by omega⟩ ⟨by omega, by omega⟩ ?_
        refine x_top (fun z762 e_z762 => ?_)
        refine x_istore k133_51 (ls' := [(6, vi z762), (0, .ref 0), (1, vi x1), (2, vi x2), (3, .ref 229), (4, vi x4), (5, vi x5)]) (by decide) rfl ?_
        refine x_A k133_53 (fun _ => rfl) ?_
        refine x_bipush k133_55 (by decide +kernel) ?_
        refine x_ic_ge k133_57 (t := 93) rfl ⟨by omega, by omega⟩ ⟨by omega, by omega⟩ (fun c763 => ?_) (fun c763 => ?_)
        · skip
          refine x_A k133_93 (fun _ => rfl) ?_
          refine x_bipush k133_95 (by decide +kernel) ?_
          refine x_ic_ne k133_97 (t := 133) rfl ⟨by omega, by omega⟩ ⟨by omega, by omega⟩ (fun c764 => ?_) (fun c764 => ?_)
          · skip
            refine x_A k133_133 (fun _ => rfl) ?_
            refine x_A k133_135 (fun _ => rfl) ?_
            refine x_ic_lt k133_136 (t := 182) rfl ⟨by omega, by omega⟩ ⟨by omega, by omega⟩ (fun c765 => ?_) (fun c765 => ?_)
            · skip
              refine x_iinc k133_182 (ls' := [(5, vi (x5 + 1)), (6, vi z762), (0, .ref 0), (1, vi x1), (2, vi x2), (3, .ref 229), (4, vi x4)]) rfl (by decide) rfl ?_
              refine x_goto k133_185 (t := 14) rfl ?_
              refine x_ls (l := [(0, .ref 0), (1, vi x1), (2, vi x2), (3, .ref 229), (4, vi x4), (5, vi (x5 + 1))]) (show ([0, 1, 2, 3, 4, 5] : List Nat).Nodup from by decide) ⟨rfl, rfl, rfl, rfl, rfl, rfl, trivial⟩ ?_
              exact ih s x1 x2 x4 (x5 + 1) hG f ⟨by omega, by omega⟩ ⟨by omega, by omega⟩ ⟨by omega, by omega⟩ ⟨by omega, by omega⟩ (by omega) (by omega) (by exfalso; omega)  (by omega)
            · skip
              refine x_iinc k133_139 (ls' := [(4, vi (x4 + (-1))), (6, vi z762), (0, .ref 0), (1, vi x1), (2, vi x2), (3, .ref 229), (5, vi x5)]) rfl (by decide) rfl ?_
              refine x_A k133_142 (fun _ => rfl) ?_
              refine x_A k133_143 (fun _ => rfl) ?_
              refine x_lald k133_145 (q := 229) (n := 100) ⟨by decide, rfl⟩ (by decide) ⟨by omega, by omega⟩ ?_
              refine x_topL (fun z766 e_z766 => ?_)
              have b_z766 : in64 z766 := by rw [e_z766]; exact hG 229 ((x4 + (-1))).toNat
              refine x_lstore k133_146 (ls' := [(7, vj z766), (4, vi (x4 + (-1))), (6, vi z762), (0, .ref 0), (1, vi x1), (2, vi x2), (3, .ref 229), (5, vi x5)]) (by decide) rfl ?_
              refine x_A k133_148 (fun _ => rfl) ?_
              refine x_A k133_149 (fun _ => rfl) ?_
              refine x_A k133_151 (fun _ => rfl) ?_
              refine x_isub k133_152 ?_
              refine x_top (fun z767 e_z767 => ?_)
              refine x_A k133_153 (fun _ => rfl) ?_
              refine x_bipush k133_155 (by decide +kernel) ?_
              refine x_ic_ne k133_157 (t := 172) rfl ⟨by omega, by omega⟩ ⟨by omega, by omega⟩ (fun c768 => ?_) (fun c768 => ?_)
              · skip
                refine x_A k133_172 (fun _ => rfl) ?_
                refine x_A k133_173 (fun _ => rfl) ?_
                refine x_A k133_175 (fun _ => rfl) ?_
                refine x_isub k133_176 ?_
                refine x_top (fun z769 e_z769 => ?_)
                refine x_lald k133_177 (q := 229) (n := 100) ⟨by decide, rfl⟩ (by decide) ⟨by omega, by omega⟩ ?_
                refine x_topL (fun z770 e_z770 => ?_)
                have b_z770 : in64 z770 := by rw [e_z770]; exact hG 229 z769.toNat
                refine x_A k133_178 (fun _ => rfl) ?_
                refine x_lor_b k133_180 (fun z771 b_z771 g_z771 => ?_)
                refine x_last k133_181 (q := 229) (n := 100) ⟨by decide, rfl⟩ (by decide) ⟨by omega, by omega⟩ ?_
                refine x_nh (fun s772 e_s772 => ?_)
                have hG_s772 : GI s772 := by rw [e_s772]; exact hG.up (show in64 z771 from b_z771)
                have f_s772 : FL [2752] s0 s772 := by rw [e_s772]; exact f.up (show 2752 ∈ [2752] from by decide)
                have q773 : s772 219 x1.toNat = z754 := by rw [e_s772, x_up_q (by omega)]; exact e_z754.symm
                have q774 : s772 (220 + 1 + x1.toNat) x5.toNat = z761 := by rw [e_s772, x_up_q (by omega)]; exact e_z761.symm
                refine x_iinc k133_182 (ls' := [(5, vi (x5 + 1)), (7, vj z766), (4, vi (x4 + (-1))), (6, vi z762), (0, .ref 0), (1, vi x1), (2, vi x2), (3, .ref 229)]) rfl (by decide) rfl ?_
                refine x_goto k133_185 (t := 14) rfl ?_
                refine x_ls (l := [(0, .ref 0), (1, vi x1), (2, vi x2), (3, .ref 229), (4, vi (x4 + (-1))), (5, vi (x5 + 1))]) (show ([0, 1, 2, 3, 4, 5] : List Nat).Nodup from by decide) ⟨rfl, rfl, rfl, rfl, rfl, rfl, trivial⟩ ?_
                exact ih s772 x1 x2 (x4 + (-1)) (x5 + 1) hG_s772 f_s772 ⟨by omega, by omega⟩ ⟨by omega, by omega⟩ ⟨by omega, by omega⟩ ⟨by omega, by omega⟩ (by omega) (by omega) (w_1.bi (by omega) c_ ⟨by omega, by omega⟩ (by omega) (by rw [show (x4 - 1).toNat = (x4 + (-1)).toNat by omega]; exact e_z766.symm) (by rw [show (x4 - 2).toNat = z769.toNat by omega]; exact e_z770.symm) (Or.inr ⟨by omega, g_z771⟩) (fun j => by rw [e_s772, x_up_at, show z767.toNat = (x4 - 2).toNat by omega]))  (by omega)
              · skip
                refine x_A k133_160 (fun _ => rfl) ?_
                refine x_A k133_161 (fun _ => rfl) ?_
                refine x_A k133_163 (fun _ => rfl) ?_
                refine x_isub k133_164 ?_
                refine x_top (fun z775 e_z775 => ?_)
                refine x_lald k133_165 (q := 229) (n := 100) ⟨by decide, rfl⟩ (by decide) ⟨by omega, by omega⟩ ?_
                refine x_topL (fun z776 e_z776 => ?_)
                have b_z776 : in64 z776 := by rw [e_z776]; exact hG 229 z775.toNat
                refine x_A k133_166 (fun _ => rfl) ?_
                refine x_land_b k133_168 (fun z777 b_z777 g_z777 => ?_)
                refine x_goto k133_169 (t := 181) rfl ?_
                refine x_last k133_181 (q := 229) (n := 100) ⟨by decide, rfl⟩ (by decide) ⟨by omega, by omega⟩ ?_
                refine x_nh (fun s778 e_s778 => ?_)
                have hG_s778 : GI s778 := by rw [e_s778]; exact hG.up (show in64 z777 from b_z777)
                have f_s778 : FL [2752] s0 s778 := by rw [e_s778]; exact f.up (show 2752 ∈ [2752] from by decide)
                have q779 : s778 219 x1.toNat = z754 := by rw [e_s778, x_up_q (by omega)]; exact e_z754.symm
                have q780 : s778 (220 + 1 + x1.toNat) x5.toNat = z761 := by rw [e_s778, x_up_q (by omega)]; exact e_z761.symm
                refine x_iinc k133_182 (ls' := [(5, vi (x5 + 1)), (7, vj z766), (4, vi (x4 + (-1))), (6, vi z762), (0, .ref 0), (1, vi x1), (2, vi x2), (3, .ref 229)]) rfl (by decide) rfl ?_
                refine x_goto k133_185 (t := 14) rfl ?_
                refine x_ls (l := [(0, .ref 0), (1, vi x1), (2, vi x2), (3, .ref 229), (4, vi (x4 + (-1))), (5, vi (x5 + 1))]) (show ([0, 1, 2, 3, 4, 5] : List Nat).Nodup from by decide) ⟨rfl, rfl, rfl, rfl, rfl, rfl, trivial⟩ ?_
                exact ih s778 x1 x2 (x4 + (-1)) (x5 + 1) hG_s778 f_s778 ⟨by omega, by omega⟩ ⟨by omega, by omega⟩ ⟨by omega, by omega⟩ ⟨by omega, by omega⟩ (by omega) (by omega) (w_1.bi (by omega) c_ ⟨by omega, by omega⟩ (by omega) (by rw [show (x4 - 1).toNat = (x4 + (-1)).toNat by omega]; exact e_z766.symm) (by rw [show (x4 - 2).toNat = z775.toNat by omega]; exact e_z776.symm) (Or.inl ⟨by omega, g_z777⟩) (fun j => by rw [e_s778, x_up_at, show z767.toNat = (x4 - 2).toNat by omega]))  (by omega)
          · skip
            refine x_A k133_100 (fun _ => rfl) ?_
            refine x_A k133_102 (fun _ => rfl) ?_
            refine x_ic_lt k133_103 (t := 133) rfl ⟨by omega, by omega⟩ ⟨by omega, by omega⟩ (fun c781 => ?_) (fun c781 => ?_)
            · skip
              refine x_A k133_133 (fun _ => rfl) ?_
              refine x_A k133_135 (fun _ => rfl) ?_
              refine x_ic_lt k133_136 (t := 182) rfl ⟨by omega, by omega⟩ ⟨by omega, by omega⟩ (fun c782 => ?_) (fun c782 => by exfalso; omega)
              refine x_iinc k133_182 (ls' := [(5, vi (x5 + 1)), (6, vi z762), (0, .ref 0), (1, vi x1), (2, vi x2), (3, .ref 229), (4, vi x4)]) rfl (by decide) rfl ?_
              refine x_goto k133_185 (t := 14) rfl ?_
              refine x_ls (l := [(0, .ref 0), (1, vi x1), (2, vi x2), (3, .ref 229), (4, vi x4), (5, vi (x5 + 1))]) (show ([0, 1, 2, 3, 4, 5] : List Nat).Nodup from by decide) ⟨rfl, rfl, rfl, rfl, rfl, rfl, trivial⟩ ?_
              exact ih s x1 x2 x4 (x5 + 1) hG f ⟨by omega, by omega⟩ ⟨by omega, by omega⟩ ⟨by omega, by omega⟩ ⟨by omega, by omega⟩ (by omega) (by omega) (by exfalso; omega)  (by omega)
            · skip
              refine x_A k133_106 (fun _ => rfl) ?_
              refine x_A k133_107 (fun _ => rfl) ?_
              refine x_A k133_109 (fun _ => rfl) ?_
              refine x_isub k133_110 ?_
              refine x_top (fun z783 e_z783 => ?_)
              refine x_A k133_111 (fun _ => rfl) ?_
              refine x_getR k133_112 (f := 1) rfl (q := 0) (n := 12) (kd := 3) ⟨by decide, rfl⟩ (q2 := 46) (by decide) rfl ?_
              refine x_callV k133_115 (y := 31) (n := 0) (w0 := 2) (w1 := 0) (as := []) (rest := [vi z783, .ref 229]) (by decide +kernel) (q := 46) (nq := 4) (kq := 5) ⟨by decide, rfl⟩ rfl rfl rfl rfl (xe_mono (E_X3_all_46 s hG) ?_)
              rintro s785 v ⟨-, t_s785, z784, rfl, b_z784, xp_z784⟩
              rw [t_s785.nil]
              try rw [t_s785.nil] at xp_z784
              show xe none 133 118 [(6, vi z762), (0, .ref 0), (1, vi x1), (2, vi x2), (3, .ref 229), (4, vi x4), (5, vi x5)] [vj z784, vi z783, .ref 229] s 0 0 _
              refine x_A k133_118 (fun _ => rfl) ?_
              refine x_A k133_119 (fun _ => rfl) ?_
              refine x_A k133_121 (fun _ => rfl) ?_
              refine x_isub k133_122 ?_
              refine x_top (fun z786 e_z786 => ?_)
              refine x_lald k133_123 (q := 229) (n := 100) ⟨by decide, rfl⟩ (by decide) ⟨by omega, by omega⟩ ?_
              refine x_topL (fun z787 e_z787 => ?_)
              have b_z787 : in64 z787 := by rw [e_z787]; exact hG 229 z786.toNat
              refine x_ldc2 k133_124 (z := (-1)) rfl (by decide +kernel) ?_
              refine x_lxor_m1 k133_127 (fun z788 b_z788 g_z788 => ?_)
              refine x_land_b k133_128 (fun z789 b_z789 g_z789 => ?_)
              refine x_last k133_129 (q := 229) (n := 100) ⟨by decide, rfl⟩ (by decide) ⟨by omega, by omega⟩ ?_
              refine x_nh (fun s790 e_s790 => ?_)
              have hG_s790 : GI s790 := by rw [e_s790]; exact hG.up (show in64 z789 from b_z789)
              have f_s790 : FL [2752] s0 s790 := by rw [e_s790]; exact f.up (show 2752 ∈ [2752] from by decide)
              have q791 : s790 219 x1.toNat = z754 := by rw [e_s790, x_up_q (by omega)]; exact e_z754.symm
              have q792 : s790 (220 + 1 + x1.toNat) x5.toNat = z761 := by rw [e_s790, x_up_q (by omega)]; exact e_z761.symm
              refine x_goto k133_130 (t := 182) rfl ?_
              refine x_iinc k133_182 (ls' := [(5, vi (x5 + 1)), (6, vi z762), (0, .ref 0), (1, vi x1), (2, vi x2), (3, .ref 229), (4, vi x4)]) rfl (by decide) rfl ?_
              refine x_goto k133_185 (t := 14) rfl ?_
              refine x_ls (l := [(0, .ref 0), (1, vi x1), (2, vi x2), (3, .ref 229), (4, vi x4), (5, vi (x5 + 1))]) (show ([0, 1, 2, 3, 4, 5] : List Nat).Nodup from by decide) ⟨rfl, rfl, rfl, rfl, rfl, rfl, trivial⟩ ?_
              exact ih s790 x1 x2 x4 (x5 + 1) hG_s790 f_s790 ⟨by omega, by omega⟩ ⟨by omega, by omega⟩ ⟨by omega, by omega⟩ ⟨by omega, by omega⟩ (by omega) (by omega) (w_1.no (al := z784) (w := z788) (by omega) c_ (by omega) (by omega) (by rw [show (x4 - 1).toNat = z786.toNat by omega]; exact e_z787.symm) (fun k hk => by rw [xp_z784 k hk, f 46 3 (show 452 ∉ [2752] from by decide)]) g_z788 g_z789 (fun j => by rw [e_s790, x_up_at, show z783.toNat = (x4 - 1).toNat by omega]))  (by omega)
        · skip
          refine x_A k133_60 (fun _ => rfl) ?_
          refine x_A k133_61 (fun _ => rfl) ?_
          refine x_iinc k133_63 (ls' := [(4, vi (x4 + 1)), (6, vi z762), (0, .ref 0), (1, vi x1), (2, vi x2), (3, .ref 229), (5, vi x5)]) rfl (by decide) rfl ?_
          refine x_A k133_66 (fun _ => rfl) ?_
          refine x_A k133_67 (fun _ => rfl) ?_
          refine x_A k133_69 (fun _ => rfl) ?_
          refine x_getR k133_70 (f := 7) rfl (q := 0) (n := 12) (kd := 3) ⟨by decide, rfl⟩ (q2 := 218) (by decide) rfl ?_
          refine x_getR k133_73 (f := 1) rfl (q := 218) (n := 7) (kd := 11) ⟨by decide, rfl⟩ (q2 := 220) (by decide) rfl ?_
          refine x_A k133_76 (fun _ => rfl) ?_
          refine x_aald k133_77 (q := 220) (t := 23) (n := 8) ⟨by decide, rfl⟩ (by decide) (by decide) ⟨by omega, by omega⟩ ?_
          refine x_A k133_78 (fun _ => rfl) ?_
          refine x_iald k133_80 (q := (220 + 1 + x1.toNat)) (n := 100) (xg_221 (by omega) (by omega)) (by decide) ⟨by omega, by omega⟩ ?_
          refine x_rw (e_z761.symm) ?_
          refine x_sipush k133_81 (by decide +kernel) ?_
          refine x_irem_n k133_84 ⟨by omega, by omega⟩ ⟨by omega, by omega⟩ ?_
          refine x_top (fun z793 e_z793 => ?_)
          refine x_A k133_85 (fun _ => rfl) ?_
          have x2b_ : x2 = b := by omega
          refine x_callV k133_86 (y := 134) (n := 3) (w0 := 2) (w1 := 3) (as := [vi z762, vi z793, vi x2]) (rest := [vi x4, .ref 229]) (by decide +kernel) (q := 0) (nq := 12) (kq := 3) ⟨by decide, rfl⟩ rfl rfl rfl rfl (xe_mono (W_X10_metByOne_0 s hG z762 ⟨by omega, by omega⟩ z793 ⟨by omega, by omega⟩ x2 ⟨by omega, by omega⟩ (by rw [x2b_]; exact pV.bo hG0 f (by decide) (by decide)) (pn.fl f (by decide)) (by omega)) ?_)
          rintro s795 v ⟨-, t_s795, z794, rfl, b_z794, xp_z794⟩
          rw [t_s795.nil]
          try rw [t_s795.nil] at xp_z794
          show xe none 133 89 [(4, vi (x4 + 1)), (6, vi z762), (0, .ref 0), (1, vi x1), (2, vi x2), (3, .ref 229), (5, vi x5)] [vj z794, vi x4, .ref 229] s 0 0 _
          refine x_last k133_89 (q := 229) (n := 100) ⟨by decide, rfl⟩ (by decide) ⟨by omega, by omega⟩ ?_
          refine x_nh (fun s796 e_s796 => ?_)
          have hG_s796 : GI s796 := by rw [e_s796]; exact hG.up (show in64 z794 from b_z794)
          have f_s796 : FL [2752] s0 s796 := by rw [e_s796]; exact f.up (show 2752 ∈ [2752] from by decide)
          have q797 : s796 219 x1.toNat = z754 := by rw [e_s796, x_up_q (by omega)]; exact e_z754.symm
          have q798 : s796 (220 + 1 + x1.toNat) x5.toNat = z761 := by rw [e_s796, x_up_q (by omega)]; exact e_z761.symm
          refine x_goto k133_90 (t := 182) rfl ?_
          refine x_iinc k133_182 (ls' := [(5, vi (x5 + 1)), (4, vi (x4 + 1)), (6, vi z762), (0, .ref 0), (1, vi x1), (2, vi x2), (3, .ref 229)]) rfl (by decide) rfl ?_
          refine x_goto k133_185 (t := 14) rfl ?_
          refine x_ls (l := [(0, .ref 0), (1, vi x1), (2, vi x2), (3, .ref 229), (4, vi (x4 + 1)), (5, vi (x5 + 1))]) (show ([0, 1, 2, 3, 4, 5] : List Nat).Nodup from by decide) ⟨rfl, rfl, rfl, rfl, rfl, rfl, trivial⟩ ?_
          exact ih s796 x1 x2 (x4 + 1) (x5 + 1) hG_s796 f_s796 ⟨by omega, by omega⟩ ⟨by omega, by omega⟩ ⟨by omega, by omega⟩ ⟨by omega, by omega⟩ (by omega) (by omega) (w_1.lf (by omega) c_ (by omega) (fun k hk => by rw [xp_z794 k hk, f 46 3 (show 452 ∉ [2752] from by decide), mP_fl f hG0 (by decide), show x2 = b by omega, show 1000 * z762 + z793 = z761 by omega]) (fun j => by rw [e_s796, x_up_at, show x4.toNat = x4.toNat by omega]))  (by omega)
set_option maxHeartbeats 8000000 in
theorem W_X10_metBy_0 (s0 : xS) (hG0 : GI s0) (a : Int) (b_a : 0 ≤ a ∧ a ≤ 7) (b : Int) (b_b : (-2147483648) ≤ b ∧ b ≤ 2147483647) (pV : VL s0 s0 b) (pn : PN s0) (pa : okA s0 a ∧ (0 ≤ s0 219 a.toNat ∧ s0 219 a.toNat ≤ 100)) : xe none 133 0 (lv_args 0 [.ref 0, vi a, vi b]) [] s0 0 0 (fun s' v => GI s' ∧ FL [2752] s0 s' ∧ ∃ z, v = some (vj z) ∧ in64 z ∧ (∀ k : Nat, k < 64 → (bt z k = true ↔ (k : Int) < s0 46 3 ∧ MetP s0 b a (k : Int)))) := by
  have f0 : FL [2752] s0 s0 := FL.rf
  show xe none 133 0 [(0, .ref 0), (1, vi a), (2, vi b)] [] s0 0 0 _
  refine x_A k133_0 (fun _ => rfl) ?_
  refine x_getR k133_1 (f := 7) rfl (q := 0) (n := 12) (kd := 3) ⟨by decide, rfl⟩ (q2 := 218) (by decide) rfl ?_
  refine x_getR k133_4 (f := 2) rfl (q := 218) (n := 7) (kd := 11) ⟨by decide, rfl⟩ (q2 := 229) (by decide) rfl ?_
  refine x_astore_n k133_7 (ls' := [(3, .ref 229), (0, .ref 0), (1, vi a), (2, vi b)]) (by decide) rfl ?_
  refine x_A k133_8 (fun _ => rfl) ?_
  refine x_istore k133_9 (ls' := [(4, vi 0), (3, .ref 229), (0, .ref 0), (1, vi a), (2, vi b)]) (by decide) rfl ?_
  refine x_A k133_11 (fun _ => rfl) ?_
  refine x_istore k133_12 (ls' := [(5, vi 0), (4, vi 0), (3, .ref 229), (0, .ref 0), (1, vi a), (2, vi b)]) (by decide) rfl ?_
  refine x_ls (l := [(0, .ref 0), (1, vi a), (2, vi b), (3, .ref 229), (4, vi 0), (5, vi 0)]) (show ([0, 1, 2, 3, 4, 5] : List Nat).Nodup from by decide) ⟨rfl, rfl, rfl, rfl, rfl, rfl, trivial⟩ ?_
  exact L_W_X10_metBy_0_14 s0 hG0 a b_a b b_b pV pn pa  (((100 - 0) + 1 : Int)).toNat s0 a b 0 0 hG0 f0 ⟨by omega, by omega⟩ ⟨by omega, by omega⟩ ⟨by omega, by omega⟩ ⟨by omega, by omega⟩ (by omega) (by omega) EvC_0  (by omega)
set_option maxHeartbeats 8000000 in
theorem W_X10_met_0 (s0 : xS) (hG0 : GI s0) (hJ0 : J s0) (a : Int) (b_a : (-2147483648) ≤ a ∧ a ≤ 2147483647) (b : Int) (b_b : (-2147483648) ≤ b ∧ b ≤ 2147483647) (d : Int) (b_d : (-2147483648) ≤ d ∧ d ≤ 2147483647) (p_218_6 : 0 ≤ s0 218 6 ∧ s0 218 6 ≤ 8) (p_46_3 : 0 ≤ s0 46 3 ∧ s0 46 3 ≤ 40) (p_0_10 : 0 ≤ s0 0 10 ∧ s0 0 10 ≤ 9) (pR : R1 s0) (pn : PN s0) (pq : Q1 s0) (i0_VCj : VCj s0) (i0_VCl : VCl s0) : xe none 111 0 (lv_args 0 [.ref 0, vi a, vi b, vi d]) [] s0 0 0 (fun s' v => GI s' ∧ FL [3329, 3334, 3335, 3336, 3392, 3456, 3520, 3584, 3276, 3648, 3712, 3776, 3840, 3904, 3968, 3277, 4032, 2752] s0 s' ∧ ∃ z, v = some (vi z) ∧ ((-1004) ≤ z ∧ z ≤ 127) ∧ (MtS s0 a b d z) ∧ VCj s' ∧ VCl s') := by
  have f0 : FL [3329, 3334, 3335, 3336, 3392, 3456, 3520, 3584, 3276, 3648, 3712, 3776, 3840, 3904, 3968, 3277, 4032, 2752] s0 s0 := FL.rf
  show xe none 111 0 [(0, .ref 0), (1, vi a), (2, vi b), (3, vi d)] [] s0 0 0 _
  obtain ⟨z1, e_z1⟩ : ∃ z, z = s0 218 6 := ⟨_, rfl⟩
  have g_z1 : (0 : Int) ≤ s0 218 6 ∧ s0 218 6 ≤ 8 := hG0 218 6
  obtain ⟨z2, e_z2⟩ : ∃ z, z = s0 46 3 := ⟨_, rfl⟩
  have g_z2 : (0 : Int) ≤ s0 46 3 ∧ s0 46 3 ≤ 40 := hG0 46 3
  obtain ⟨z3, e_z3⟩ : ∃ z, z = s0 0 10 := ⟨_, rfl⟩
  have g_z3 : (0 : Int) ≤ s0 0 10 ∧ s0 0 10 ≤ 9 := hG0 0 10
  refine x_A k111_0 (fun _ => rfl) ?_
  refine x_getR k111_1 (f := 7) rfl (q := 0) (n := 12) (kd := 3) ⟨by decide, rfl⟩ (q2 := 218) (by decide) rfl ?_
  refine x_A k111_4 (fun _ => rfl) ?_
  refine x_callV k111_5 (y := 1) (n := 1) (w0 := 0) (w1 := 1) (as := [vi a]) (rest := []) (by decide +kernel) (q := 218) (nq := 7) (kq := 11) ⟨by decide, rfl⟩ rfl rfl rfl rfl (xe_mono (C_X0_has_218 s0 hG0 a ⟨by omega, by omega⟩) ?_)
  rintro s5 v ⟨h_s5, z4, rfl, hz_z4⟩
  rw [h_s5]
  rcases hz_z4 with ⟨c_z4, e_z4⟩ | ⟨c_z4, e_z4⟩
  · rw [e_z4]
    show xe none 111 8 [(0, .ref 0), (1, vi a), (2, vi b), (3, vi d)] [vi 1] s0 0 0 _
    refine x_if_ne k111_8 (t := 15) rfl ⟨by omega, by omega⟩ (fun c6 => ?_) (fun c6 => by exfalso; omega)
    refine x_A k111_15 (fun _ => rfl) ?_
    refine x_A k111_16 (fun _ => rfl) ?_
    refine x_callV k111_17 (y := 125) (n := 1) (w0 := 0) (w1 := 1) (as := [vi b]) (rest := []) (by decide +kernel) (q := 0) (nq := 12) (kq := 3) ⟨by decide, rfl⟩ rfl rfl rfl rfl (xe_mono (C_X10_isKnownEdition_0 s0 hG0 b ⟨by omega, by omega⟩) ?_)
    rintro s8 v ⟨h_s8, z7, rfl, hz_z7⟩
    rw [h_s8]
    rcases hz_z7 with ⟨c_z7, e_z7⟩ | ⟨c_z7, e_z7⟩
    · rw [e_z7]
      show xe none 111 20 [(0, .ref 0), (1, vi a), (2, vi b), (3, vi d)] [vi 1] s0 0 0 _
      refine x_if_ne k111_20 (t := 27) rfl ⟨by omega, by omega⟩ (fun c9 => ?_) (fun c9 => by exfalso; omega)
      refine x_A k111_27 (fun _ => rfl) ?_
      refine x_getR k111_28 (f := 9) rfl (q := 0) (n := 12) (kd := 3) ⟨by decide, rfl⟩ (q2 := 243) (by decide) rfl ?_
      refine x_A k111_31 (fun _ => rfl) ?_
      refine x_callV k111_32 (y := 76) (n := 1) (w0 := 0) (w1 := 1) (as := [vi b]) (rest := []) (by decide +kernel) (q := 243) (nq := 13) (kq := 13) ⟨by decide, rfl⟩ rfl rfl rfl rfl (xe_mono (E_X8_lookIn_243 s0 hG0 (hJ0.fl f0 (by decide)) b ⟨by omega, by omega⟩ (pR.fl f0 (by decide)) i0_VCj i0_VCl) ?_)
      rintro s11 v ⟨hG_s11, t_s11, rfl, xp_z10⟩
      have f_s11 : FL [3329, 3334, 3335, 3336, 3392, 3456, 3520, 3584, 3276, 3648, 3712, 3776, 3840, 3904, 3968, 3277, 4032, 2752] s0 s11 := f0.tr t_s11 (by decide)
      have q12 : s11 218 6 = z1 := (t_s11 218 6 (show 2503 ∉ [3329, 3334, 3335, 3336, 3392, 3456, 3520, 3584, 3276, 3648, 3712, 3776, 3840, 3904, 3968, 3277, 4032] from by decide)).trans e_z1.symm
      have q13 : s11 46 3 = z2 := (t_s11 46 3 (show 452 ∉ [3329, 3334, 3335, 3336, 3392, 3456, 3520, 3584, 3276, 3648, 3712, 3776, 3840, 3904, 3968, 3277, 4032] from by decide)).trans e_z2.symm
      have q14 : s11 0 10 = z3 := (t_s11 0 10 (show 11 ∉ [3329, 3334, 3335, 3336, 3392, 3456, 3520, 3584, 3276, 3648, 3712, 3776, 3840, 3904, 3968, 3277, 4032] from by decide)).trans e_z3.symm
      obtain ⟨z15, e_z15⟩ : ∃ z, z = s11 243 11 := ⟨_, rfl⟩
      have g_z15 : (0 : Int) ≤ s11 243 11 ∧ s11 243 11 ≤ 1 := hG_s11 243 11
      obtain ⟨z16, e_z16⟩ : ∃ z, z = s11 243 12 := ⟨_, rfl⟩
      have g_z16 : (-1) ≤ s11 243 12 ∧ s11 243 12 ≤ 9 := hG_s11 243 12
      show xe none 111 35 [(0, .ref 0), (1, vi a), (2, vi b), (3, vi d)] [] s11 0 0 _
      have VCj_k : VCj s11 := VCj.judge hG0 t_s11 (by decide) xp_z10.1
      have VCl_k : VCl s11 := VCl.look hG0 t_s11 (by decide) xp_z10.2.1 xp_z10.2.2.1 xp_z10.2.2.2
      refine x_A k111_35 (fun _ => rfl) ?_
      refine x_A k111_36 (fun _ => rfl) ?_
      refine x_A k111_37 (fun _ => rfl) ?_
      have ab_ : (0 ≤ a ∧ a < s0 218 6) ∧ 0 ≤ b ∧ b ≤ s0 0 10 := ⟨by omega, by omega⟩
      have e6_ := f_s11 218 6 (show 2503 ∉ [3329, 3334, 3335, 3336, 3392, 3456, 3520, 3584, 3276, 3648, 3712, 3776, 3840, 3904, 3968, 3277, 4032, 2752] from by decide)
      have ra_ := (pq.fl f_s11 (by decide)).row (a := a) ⟨by omega, by omega⟩
      refine x_callV k111_38 (y := 133) (n := 2) (w0 := 0) (w1 := 2) (as := [vi a, vi b]) (rest := []) (by decide +kernel) (q := 0) (nq := 12) (kq := 3) ⟨by decide, rfl⟩ rfl rfl rfl rfl (xe_mono (W_X10_metBy_0 s11 hG_s11 a ⟨by omega, by omega⟩ b ⟨by omega, by omega⟩ (VL.cg xp_z10.2.1 (FL.ve f_s11 hG0 (by decide)).sy) (pn.fl f_s11 (by decide)) ⟨ra_.1, ra_.2.1⟩) ?_)
      rintro s18 v ⟨hG_s18, t_s18, z17, rfl, b_z17, xp_z17⟩
      have f_s18 : FL [3329, 3334, 3335, 3336, 3392, 3456, 3520, 3584, 3276, 3648, 3712, 3776, 3840, 3904, 3968, 3277, 4032, 2752] s0 s18 := f_s11.tr t_s18 (by decide)
      have q19 : s18 218 6 = z1 := (t_s18 218 6 (show 2503 ∉ [2752] from by decide)).trans q12
      have q20 : s18 46 3 = z2 := (t_s18 46 3 (show 452 ∉ [2752] from by decide)).trans q13
      have q21 : s18 0 10 = z3 := (t_s18 0 10 (show 11 ∉ [2752] from by decide)).trans q14
      have q22 : s18 243 11 = z15 := (t_s18 243 11 (show 3276 ∉ [2752] from by decide)).trans e_z15.symm
      have q23 : s18 243 12 = z16 := (t_s18 243 12 (show 3277 ∉ [2752] from by decide)).trans e_z16.symm
      have VCj_s18 : VCj s18 := VCj.fl VCj_k hG_s11 t_s18 (by decide)
      have VCl_s18 : VCl s18 := VCl.fl VCl_k hG_s11 t_s18 (by decide)
      show xe none 111 41 [(0, .ref 0), (1, vi a), (2, vi b), (3, vi d)] [vj z17] s18 0 0 _
      refine x_A k111_41 (fun _ => rfl) ?_
      refine x_callS k111_42 (y := 127) (n := 2) (w0 := 0) (w1 := 3) (as := [vj z17, vi d]) (rest := []) (by decide +kernel) rfl rfl rfl rfl (xe_mono (E_X10_pick s18 hG_s18 z17 b_z17 d ⟨by omega, by omega⟩) ?_)
      rintro s25 v ⟨-, t_s25, z24, rfl, g_z24, xp_z24⟩
      rw [t_s25.nil]
      try rw [t_s25.nil] at xp_z24
      show xe none 111 45 [(0, .ref 0), (1, vi a), (2, vi b), (3, vi d)] [vi z24] s18 0 0 _
      exact x_iret k111_45 rfl ⟨hG_s18, f_s18, z24, rfl, ⟨by omega, by omega⟩, (by unfold MtS; exact Or.inr (Or.inr ⟨by omega, by omega, pkT.s xp_z24 (by omega) (fun k hk => by rw [xp_z17 k hk, show s11 46 3 = s0 46 3 from f_s11 46 3 (show 452 ∉ [3329, 3334, 3335, 3336, 3392, 3456, 3520, 3584, 3276, 3648, 3712, 3776, 3840, 3904, 3968, 3277, 4032, 2752] from by decide), show MetP s11 b a = MetP s0 b a from (by unfold MetP; rw [mP_fl f_s11 hG0 (by decide), show s11 219 = s0 219 from funext fun i => f_s11 219 i (show 2560 ∉ [3329, 3334, 3335, 3336, 3392, 3456, 3520, 3584, 3276, 3648, 3712, 3776, 3840, 3904, 3968, 3277, 4032, 2752] from by decide), show s11 (220 + 1 + a.toNat) = s0 (220 + 1 + a.toNat) from funext fun i => rowsA f_s11 (by decide) a.toNat i (by omega)])]; exact and_congr (by omega) Iff.rfl)⟩)), VCj_s18, VCl_s18⟩
    · rw [e_z7]
      show xe none 111 20 [(0, .ref 0), (1, vi a), (2, vi b), (3, vi d)] [vi 0] s0 0 0 _
      refine x_if_ne k111_20 (t := 27) rfl ⟨by omega, by omega⟩ (fun c26 => by exfalso; omega) (fun c26 => ?_)
      refine x_sipush k111_23 (by decide +kernel) ?_
      exact x_iret k111_26 rfl ⟨hG0, f0, (-1002), rfl, ⟨by omega, by omega⟩, (by unfold MtS; exact Or.inr (Or.inl ⟨by omega, by omega, rfl⟩)), i0_VCj, i0_VCl⟩
  · rw [e_z4]
    show xe none 111 8 [(0, .ref 0), (1, vi a), (2, vi b), (3, vi d)] [vi 0] s0 0 0 _
    refine x_if_ne k111_8 (t := 15) rfl ⟨by omega, by omega⟩ (fun c27 => by exfalso; omega) (fun c27 => ?_)
    refine x_sipush k111_11 (by decide +kernel) ?_
    exact x_iret k111_14 rfl ⟨hG0, f0, (-1001), rfl, ⟨by omega, by omega⟩, (by unfold MtS; exact Or.inl ⟨by omega, rfl⟩), i0_VCj, i0_VCl⟩
set_option maxHeartbeats 8000000 in
theorem L_E_X11_showsWord_256_5 (s0 : xS) (a : Int) (b_a : 0 ≤ a ∧ a ≤ 39) (b : Int) (b_b : (-2147483648) ≤ b ∧ b ≤ 2147483647)  : ∀ (n : Nat) (s : xS) (x1 : Int) (x2 : Int) (x3 : Int) (x4 : Int) (x1000 : Int) (hG : GI s) (f : FL [] s0 s) (b_x1 : 0 ≤ x1 ∧ x1 ≤ 39) (b_x2 : (-2147483648) ≤ x2 ∧ x2 ≤ 2147483647) (b_x3 : 0 ≤ x3 ∧ x3 ≤ 1) (b_x4 : 0 ≤ x4 ∧ x4 ≤ 60) (b_x1000 : 0 ≤ x1000 ∧ x1000 ≤ 60) (r_3_4 : x3 ≤ x4 + 0) (r_4_1000 : x4 ≤ x1000 + 0) (r_3_1000 : x3 ≤ x1000 + 0) (w_0 : x1 = a ∧ x2 = b ∧ x1000 = s0 256 40 ∧ x4 ≤ x1000) (w_1 : exI (fun i : Int => s0 284 i.toNat = b ∧ shR s0 a (s0 285 i.toNat)) x3 x4) (e_x1000 : x1000 = s 256 40)  (hm : (60 - x4) < (n : Int)), xe none 202 5 [(0, .ref 256), (1, vi x1), (2, vi x2), (3, vi x3), (4, vi x4)] [] s 0 0 (fun s' v => GI s' ∧ FL [] s0 s' ∧ ∃ z, v = some (vi z) ∧ (0 ≤ z ∧ z ≤ 1) ∧ ((z = 1 ∧ swR s0 a b) ∨ (z = 0 ∧ ¬ swR s0 a b))) := by
  intro n
  induction n with
  | zero => intro s x1 x2 x3 x4 x1000 hG f b_x1 b_x2 b_x3 b_x4 b_x1000 r_3_4 r_4_1000 r_3_1000 w_0 w_1 e_x1000  hm; exfalso; omega
  | succ n ih =>
    intro s x1 x2 x3 x4 x1000 hG f b_x1 b_x2 b_x3 b_x4 b_x1000 r_3_4 r_4_1000 r_3_1000 w_0 w_1 e_x1000  hm
    refine x_A k202_5 (fun _ => rfl) ?_
    refine x_A k202_7 (fun _ => rfl) ?_
    refine x_getI k202_8 (f := 40) rfl (q := 256) (n := 62) (kd := 15) ⟨by decide, rfl⟩ (by decide) rfl ?_
    refine x_rw (e_x1000.symm) ?_
    refine x_ic_ge k202_11 (t := 56) rfl ⟨by omega, by omega⟩ ⟨by omega, by omega⟩ (fun c135 => ?_) (fun c135 => ?_)
    · skip
      refine x_A k202_56 (fun _ => rfl) ?_
      exact x_zret k202_57 rfl ⟨by omega, by omega⟩ ⟨hG, f, x3, rfl, ⟨by omega, by omega⟩, (by unfold swR; rw [show s0 256 40 = x4 by omega]; exact w_1)⟩
    · skip
      refine x_A k202_14 (fun _ => rfl) ?_
      refine x_if_ne k202_15 (t := 44) rfl ⟨by omega, by omega⟩ (fun c136 => ?_) (fun c136 => ?_)
      · skip
        refine x_A k202_44 (fun _ => rfl) ?_
        refine x_goto k202_45 (t := 49) rfl ?_
        refine x_istore_n k202_49 (ls' := [(3, vi 1), (0, .ref 256), (1, vi x1), (2, vi x2), (4, vi x4)]) (by decide) rfl ?_
        refine x_iinc k202_50 (ls' := [(4, vi (x4 + 1)), (3, vi 1), (0, .ref 256), (1, vi x1), (2, vi x2)]) rfl (by decide) rfl ?_
        refine x_goto k202_53 (t := 5) rfl ?_
        refine x_ls (l := [(0, .ref 256), (1, vi x1), (2, vi x2), (3, vi 1), (4, vi (x4 + 1))]) (show ([0, 1, 2, 3, 4] : List Nat).Nodup from by decide) ⟨rfl, rfl, rfl, rfl, rfl, trivial⟩ ?_
        exact ih s x1 x2 1 (x4 + 1) x1000 hG f ⟨by omega, by omega⟩ ⟨by omega, by omega⟩ ⟨by omega, by omega⟩ ⟨by omega, by omega⟩ ⟨by omega, by omega⟩ (by omega) (by omega) (by omega) (by omega) (w_1.on (by omega)) (e_x1000.symm).symm  (by omega)
      · skip
        refine x_A k202_18 (fun _ => rfl) ?_
        refine x_getR k202_19 (f := 41) rfl (q := 256) (n := 62) (kd := 15) ⟨by decide, rfl⟩ (q2 := 284) (by decide) rfl ?_
        refine x_A k202_22 (fun _ => rfl) ?_
        refine x_iald k202_24 (q := 284) (n := 60) ⟨by decide, rfl⟩ (by decide) ⟨by omega, by omega⟩ ?_
        refine x_top (fun z137 e_z137 => ?_)
        have g_z137 : (0 : Int) ≤ s 284 x4.toNat ∧ s 284 x4.toNat ≤ 399 := hG 284 x4.toNat
        refine x_A k202_25 (fun _ => rfl) ?_
        refine x_ic_ne k202_26 (t := 48) rfl ⟨by omega, by omega⟩ ⟨by omega, by omega⟩ (fun c138 => ?_) (fun c138 => ?_)
        · skip
          refine x_A k202_48 (fun _ => rfl) ?_
          refine x_istore_n k202_49 (ls' := [(3, vi 0), (0, .ref 256), (1, vi x1), (2, vi x2), (4, vi x4)]) (by decide) rfl ?_
          refine x_iinc k202_50 (ls' := [(4, vi (x4 + 1)), (3, vi 0), (0, .ref 256), (1, vi x1), (2, vi x2)]) rfl (by decide) rfl ?_
          refine x_goto k202_53 (t := 5) rfl ?_
          refine x_ls (l := [(0, .ref 256), (1, vi x1), (2, vi x2), (3, vi 0), (4, vi (x4 + 1))]) (show ([0, 1, 2, 3, 4] : List Nat).Nodup from by decide) ⟨rfl, rfl, rfl, rfl, rfl, trivial⟩ ?_
          exact ih s x1 x2 0 (x4 + 1) x1000 hG f ⟨by omega, by omega⟩ ⟨by omega, by omega⟩ ⟨by omega, by omega⟩ ⟨by omega, by omega⟩ ⟨by omega, by omega⟩ (by omega) (by omega) (by omega) (by omega) (w_1.no (by omega) (fun q => by have q1 : s0 284 x4.toNat = b := q.1; rw [← f.nil] at q1; omega)) (e_x1000.symm).symm  (by omega)
        · skip
          refine x_A k202_29 (fun _ => rfl) ?_
          refine x_A k202_30 (fun _ => rfl) ?_
          refine x_A k202_31 (fun _ => rfl) ?_
          refine x_getR k202_32 (f := 42) rfl (q := 256) (n := 62) (kd := 15) ⟨by decide, rfl⟩ (q2 := 285) (by decide) rfl ?_
          refine x_A k202_35 (fun _ => rfl) ?_
          refine x_iald k202_37 (q := 285) (n := 60) ⟨by decide, rfl⟩ (by decide) ⟨by omega, by omega⟩ ?_
          refine x_top (fun z139 e_z139 => ?_)
          have g_z139 : (0 : Int) ≤ s 285 x4.toNat ∧ s 285 x4.toNat ≤ 39 := hG 285 x4.toNat
          refine x_callV k202_38 (y := 169) (n := 2) (w0 := 0) (w1 := 2) (as := [vi x1, vi z139]) (rest := []) (by decide +kernel) (q := 256) (nq := 62) (kq := 15) ⟨by decide, rfl⟩ rfl rfl rfl rfl (xe_mono (E_X11_shows_256 s hG x1 ⟨by omega, by omega⟩ z139 ⟨by omega, by omega⟩) ?_)
          rintro s141 v ⟨-, t_s141, z140, rfl, g_z140, xp_z140⟩
          rw [t_s141.nil]
          try rw [t_s141.nil] at xp_z140
          show xe none 202 41 [(0, .ref 256), (1, vi x1), (2, vi x2), (3, vi x3), (4, vi x4)] [vi z140] s 0 0 _
          have sw_ := xp_z140
          rw [f.nil, show x1 = a by omega, show z139 = s0 285 x4.toNat from (by rw [← f.nil]; exact (e_z139.symm).symm)] at sw_
          refine x_if_eq k202_41 (t := 48) rfl ⟨by omega, by omega⟩ (fun c142 => ?_) (fun c142 => ?_)
          · skip
            refine x_A k202_48 (fun _ => rfl) ?_
            refine x_istore_n k202_49 (ls' := [(3, vi 0), (0, .ref 256), (1, vi x1), (2, vi x2), (4, vi x4)]) (by decide) rfl ?_
            refine x_iinc k202_50 (ls' := [(4, vi (x4 + 1)), (3, vi 0), (0, .ref 256), (1, vi x1), (2, vi x2)]) rfl (by decide) rfl ?_
            refine x_goto k202_53 (t := 5) rfl ?_
            refine x_ls (l := [(0, .ref 256), (1, vi x1), (2, vi x2), (3, vi 0), (4, vi (x4 + 1))]) (show ([0, 1, 2, 3, 4] : List Nat).Nodup from by decide) ⟨rfl, rfl, rfl, rfl, rfl, trivial⟩ ?_
            exact ih s x1 x2 0 (x4 + 1) x1000 hG f ⟨by omega, by omega⟩ ⟨by omega, by omega⟩ ⟨by omega, by omega⟩ ⟨by omega, by omega⟩ ⟨by omega, by omega⟩ (by omega) (by omega) (by omega) (by omega) (w_1.no (by omega) (fun q => (sw_.resolve_left (fun q => by omega)).2 q.2)) (e_x1000.symm).symm  (by omega)
          · skip
            refine x_A k202_44 (fun _ => rfl) ?_
            refine x_goto k202_45 (t := 49) rfl ?_
            refine x_istore_n k202_49 (ls' := [(3, vi 1), (0, .ref 256), (1, vi x1), (2, vi x2), (4, vi x4)]) (by decide) rfl ?_
            refine x_iinc k202_50 (ls' := [(4, vi (x4 + 1)), (3, vi 1), (0, .ref 256), (1, vi x1), (2, vi x2)]) rfl (by decide) rfl ?_
            refine x_goto k202_53 (t := 5) rfl ?_
            refine x_ls (l := [(0, .ref 256), (1, vi x1), (2, vi x2), (3, vi 1), (4, vi (x4 + 1))]) (show ([0, 1, 2, 3, 4] : List Nat).Nodup from by decide) ⟨rfl, rfl, rfl, rfl, rfl, trivial⟩ ?_
            exact ih s x1 x2 1 (x4 + 1) x1000 hG f ⟨by omega, by omega⟩ ⟨by omega, by omega⟩ ⟨by omega, by omega⟩ ⟨by omega, by omega⟩ ⟨by omega, by omega⟩ (by omega) (by omega) (by omega) (by omega) (exI_yes (by omega) (by show s0 284 x4.toNat = b ∧ shR s0 a (s0 285 x4.toNat); rw [← f.nil]; rw [f.nil]; exact ⟨by rw [← f.nil]; omega, (sw_.resolve_right (fun q => by omega)).2⟩)) (e_x1000.symm).symm  (by omega)
set_option maxHeartbeats 8000000 in
theorem E_X11_showsWord_256 (s0 : xS) (hG0 : GI s0) (a : Int) (b_a : 0 ≤ a ∧ a ≤ 39) (b : Int) (b_b : (-2147483648) ≤ b ∧ b ≤ 2147483647) : xe none 202 0 (lv_args 0 [.ref 256, vi a, vi b]) [] s0 0 0 (fun s' v => GI s' ∧ FL [] s0 s' ∧ ∃ z, v = some (vi z) ∧ (0 ≤ z ∧ z ≤ 1) ∧ ((z = 1 ∧ swR s0 a b) ∨ (z = 0 ∧ ¬ swR s0 a b))) := by
  have f0 : FL [] s0 s0 := FL.rf
  show xe none 202 0 [(0, .ref 256), (1, vi a), (2, vi b)] [] s0 0 0 _
  refine x_A k202_0 (fun _ => rfl) ?_
  refine x_istore_n k202_1 (ls' := [(3, vi 0), (0, .ref 256), (1, vi a), (2, vi b)]) (by decide) rfl ?_
  refine x_A k202_2 (fun _ => rfl) ?_
  refine x_istore k202_3 (ls' := [(4, vi 0), (3, vi 0), (0, .ref 256), (1, vi a), (2, vi b)]) (by decide) rfl ?_
  obtain ⟨z143, e_z143⟩ : ∃ z, z = s0 256 40 := ⟨_, rfl⟩
  have g_z143 : (0 : Int) ≤ s0 256 40 ∧ s0 256 40 ≤ 60 := hG0 256 40
  refine x_ls (l := [(0, .ref 256), (1, vi a), (2, vi b), (3, vi 0), (4, vi 0)]) (show ([0, 1, 2, 3, 4] : List Nat).Nodup from by decide) ⟨rfl, rfl, rfl, rfl, rfl, trivial⟩ ?_
  exact L_E_X11_showsWord_256_5 s0 a b_a b b_b  (((60 - 0) + 1 : Int)).toNat s0 a b 0 0 z143 hG0 f0 ⟨by omega, by omega⟩ ⟨by omega, by omega⟩ ⟨by omega, by omega⟩ ⟨by omega, by omega⟩ ⟨by omega, by omega⟩ (by omega) (by omega) (by omega) (by omega) exI_0 (e_z143.symm).symm  (by omega)
