/-! the bounds of all places; the number of a place (an array and its rows: one) -/
def glo (q i : Nat) : Int := if q < 243 then (if q < 183 then (if q < 51 then (if q < 6 then (if q < 3 then (if q < 1 then (([0, 0, 0, 0, 0, 0, 0, 0, 0, 0, 0, -2147483648] : List Int).getD i 0) else (if q < 2 then (([0, 0, 0, 0, 1] : List Int).getD i 0) else (0))) else (if q < 4 then ((-1)) else (if q < 5 then ((-1)) else (0)))) else (if q < 48 then (if q < 46 then ((-1)) else (if q < 47 then (([0, 0, 0, 0] : List Int).getD i 0) else (0))) else (if q < 49 then (0) else (if q < 50 then (0) else (([0, 0, 0, 0, 0, 0, 0] : List Int).getD i 0))))) else (if q < 57 then (if q < 54 then (if q < 52 then (0) else (if q < 53 then (0) else (0))) else (if q < 55 then (0) else (if q < 56 then (0) else (0)))) else (if q < 179 then (if q < 177 then ((-1)) else (if q < 178 then (([0, 0, 0, 0, 0, 0, -2147483648] : List Int).getD i 0) else (0))) else (if q < 181 then (if q < 180 then (([0, 0, 0, 0, 0, 0] : List Int).getD i 0) else (0)) else (if q < 182 then (0) else (0)))))) else (if q < 217 then (if q < 210 then (if q < 200 then (if q < 191 then ((-1)) else (if q < 192 then (0) else ((-1)))) else (if q < 201 then (0) else (if q < 209 then ((-1)) else (([-2147483648, 0, 0, 0, 0, -2147483648, -2147483648, -2147483648] : List Int).getD i 0)))) else (if q < 213 then (if q < 211 then ((-2147483648)) else (if q < 212 then ((-9223372036854775808)) else ((-2147483648)))) else (if q < 215 then (if q < 214 then ((-9223372036854775808)) else (([0, 0, 0, 0] : List Int).getD i 0)) else (if q < 216 then (0) else (0))))) else (if q < 230 then (if q < 220 then (if q < 218 then (0) else (if q < 219 then (([0, 0, 0, 0, 0, -2147483648, 0] : List Int).getD i 0) else (0))) else (if q < 221 then (0) else (if q < 229 then ((-2147483648)) else ((-9223372036854775808))))) else (if q < 233 then (if q < 231 then (0) else (if q < 232 then (([0, 0, 0, 0] : List Int).getD i 0) else (0))) else (if q < 238 then (if q < 234 then (0) else (0)) else (if q < 239 then (0) else ((-9223372036854775808)))))))) else (if q < 269 then (if q < 256 then (if q < 249 then (if q < 246 then (if q < 244 then (([0, 0, 0, 0, 0, 0, 0, 0, 0, 0, 0, 0, -1] : List Int).getD i 0) else (if q < 245 then (([-2147483648, 0, 0, 0, 0, -2147483648, -2147483648, -2147483648] : List Int).getD i 0) else ((-2147483648)))) else (if q < 247 then ((-9223372036854775808)) else (if q < 248 then ((-2147483648)) else ((-9223372036854775808))))) else (if q < 252 then (if q < 250 then ((-2147483648)) else (if q < 251 then (0) else (0))) else (if q < 254 then (if q < 253 then (0) else ((-1))) else (if q < 255 then (0) else ((-9223372036854775808)))))) else (if q < 262 then (if q < 259 then (if q < 257 then (([0, 1, 0, 0, 0, 0, 0, 0, 0, 0, 0, 0, 0, 0, 0, 0, 0, 0, 0, 0, 0, 0, 0, 0, 0, 0, -2147483648, 0, 0, 0, 0, 0, 0, 0, 0, -2147483648, 0, -9223372036854775808, 0, 0, 0, 0, 0, 0, 0, 0, 0, 0, 0, 0, 0, 0, 0, 0, 0, 0, 0, 0, 0, 0, 0, 0] : List Int).getD i 0) else (if q < 258 then (0) else ((-1)))) else (if q < 260 then ((-1)) else (if q < 261 then ((-1)) else (0)))) else (if q < 265 then (if q < 263 then (0) else (if q < 264 then ((-1)) else (0))) else (if q < 267 then (if q < 266 then (0) else (0)) else (if q < 268 then (0) else (0)))))) else (if q < 282 then (if q < 275 then (if q < 272 then (if q < 270 then ((-1)) else (if q < 271 then (0) else (0))) else (if q < 273 then (0) else (if q < 274 then ((-2147483648)) else ((-2147483648))))) else (if q < 278 then (if q < 276 then (0) else (if q < 277 then ((-2147483648)) else (0))) else (if q < 280 then (if q < 279 then (0) else (0)) else (if q < 281 then ((-1)) else (0))))) else (if q < 288 then (if q < 285 then (if q < 283 then ((-9223372036854775808)) else (if q < 284 then (0) else (0))) else (if q < 286 then (0) else (if q < 287 then (0) else (0)))) else (if q < 291 then (if q < 289 then (0) else (if q < 290 then (0) else (0))) else (if q < 293 then (if q < 292 then ((-2147483648)) else (0)) else (if q < 294 then (0) else (0)))))))
def ghi (q i : Nat) : Int := if q < 243 then (if q < 183 then (if q < 51 then (if q < 6 then (if q < 3 then (if q < 1 then (([0, 0, 0, 0, 0, 0, 0, 0, 0, 0, 9, 2147483647] : List Int).getD i 0) else (if q < 2 then (([0, 0, 0, 0, 40] : List Int).getD i 0) else (9))) else (if q < 4 then (9) else (if q < 5 then (39) else (0)))) else (if q < 48 then (if q < 46 then (39) else (if q < 47 then (([0, 0, 0, 40] : List Int).getD i 0) else (999))) else (if q < 49 then (9) else (if q < 50 then (39) else (([0, 0, 0, 0, 0, 0, 120] : List Int).getD i 0))))) else (if q < 57 then (if q < 54 then (if q < 52 then (39) else (if q < 53 then (39) else (7))) else (if q < 55 then (63) else (if q < 56 then (9) else (0)))) else (if q < 179 then (if q < 177 then (9) else (if q < 178 then (([0, 160, 3, 160, 160, 5, 2147483647] : List Int).getD i 0) else (255))) else (if q < 181 then (if q < 180 then (([0, 0, 0, 0, 0, 8] : List Int).getD i 0) else (9)) else (if q < 182 then (9) else (0)))))) else (if q < 217 then (if q < 210 then (if q < 200 then (if q < 191 then (6) else (if q < 192 then (0) else (99))) else (if q < 201 then (0) else (if q < 209 then (99) else (([2147483647, 0, 0, 0, 0, 2147483647, 2147483647, 2147483647] : List Int).getD i 0)))) else (if q < 213 then (if q < 211 then (2147483647) else (if q < 212 then (9223372036854775807) else (2147483647))) else (if q < 215 then (if q < 214 then (9223372036854775807) else (([0, 0, 0, 60] : List Int).getD i 0)) else (if q < 216 then (3) else (99))))) else (if q < 230 then (if q < 220 then (if q < 218 then (39) else (if q < 219 then (([0, 0, 0, 0, 100, 2147483647, 8] : List Int).getD i 0) else (100))) else (if q < 221 then (0) else (if q < 229 then (2147483647) else (9223372036854775807)))) else (if q < 233 then (if q < 231 then (9) else (if q < 232 then (([0, 0, 0, 4] : List Int).getD i 0) else (5))) else (if q < 238 then (if q < 234 then (0) else (3)) else (if q < 239 then (0) else (9223372036854775807))))))) else (if q < 269 then (if q < 256 then (if q < 249 then (if q < 246 then (if q < 244 then (([0, 0, 0, 0, 0, 0, 0, 0, 0, 0, 0, 1, 9] : List Int).getD i 0) else (if q < 245 then (([2147483647, 0, 0, 0, 0, 2147483647, 2147483647, 2147483647] : List Int).getD i 0) else (2147483647))) else (if q < 247 then (9223372036854775807) else (if q < 248 then (2147483647) else (9223372036854775807)))) else (if q < 252 then (if q < 250 then (2147483647) else (if q < 251 then (1) else (6))) else (if q < 254 then (if q < 253 then (4) else (39)) else (if q < 255 then (1) else (9223372036854775807))))) else (if q < 262 then (if q < 259 then (if q < 257 then (([9, 40, 0, 0, 0, 0, 40, 0, 0, 0, 120, 0, 0, 0, 0, 0, 0, 8, 0, 0, 64, 0, 0, 0, 0, 0, 2147483647, 0, 0, 0, 0, 0, 0, 0, 160, 2147483647, 160, 9223372036854775807, 160, 1100000, 60, 0, 0, 8, 0, 0, 0, 110, 120, 0, 5, 1, 0, 40, 40, 40, 40, 0, 4, 0, 0, 0] : List Int).getD i 0) else (if q < 258 then (9) else (9))) else (if q < 260 then (39) else (if q < 261 then (39) else (999)))) else (if q < 265 then (if q < 263 then (9) else (if q < 264 then (39) else (39))) else (if q < 267 then (if q < 266 then (39) else (7)) else (if q < 268 then (63) else (9)))))) else (if q < 282 then (if q < 275 then (if q < 272 then (if q < 270 then (9) else (if q < 271 then (9) else (64))) else (if q < 273 then (5) else (if q < 274 then (2147483647) else (2147483647)))) else (if q < 278 then (if q < 276 then (1) else (if q < 277 then (2147483647) else (4))) else (if q < 280 then (if q < 279 then (1) else (6)) else (if q < 281 then (39) else (1))))) else (if q < 288 then (if q < 285 then (if q < 283 then (9223372036854775807) else (if q < 284 then (255) else (399))) else (if q < 286 then (39) else (if q < 287 then (110) else (7)))) else (if q < 291 then (if q < 289 then (999) else (if q < 290 then (3) else (1))) else (if q < 293 then (if q < 292 then (2147483647) else (5)) else (if q < 294 then (3) else (39)))))))
def x_pl (q i : Nat) : Nat := if q < 243 then (if q < 183 then (if q < 51 then (if q < 6 then (if q < 3 then (if q < 1 then (1 + i) else (if q < 2 then (65 + i) else (128))) else (if q < 4 then (192) else (if q < 5 then (256) else (320)))) else (if q < 48 then (if q < 46 then (384) else (if q < 47 then (449 + i) else (512))) else (if q < 49 then (576) else (if q < 50 then (640) else (705 + i))))) else (if q < 57 then (if q < 54 then (if q < 52 then (768) else (if q < 53 then (832) else (896))) else (if q < 55 then (960) else (if q < 56 then (1024) else (1088)))) else (if q < 179 then (if q < 177 then (1152) else (if q < 178 then (1217 + i) else (1280))) else (if q < 181 then (if q < 180 then (1345 + i) else (1408)) else (if q < 182 then (1472) else (1536)))))) else (if q < 217 then (if q < 210 then (if q < 200 then (if q < 191 then (1600) else (if q < 192 then (1664) else (1728))) else (if q < 201 then (1792) else (if q < 209 then (1856) else (1921 + i)))) else (if q < 213 then (if q < 211 then (1984) else (if q < 212 then (2048) else (2112))) else (if q < 215 then (if q < 214 then (2176) else (2241 + i)) else (if q < 216 then (2304) else (2368))))) else (if q < 230 then (if q < 220 then (if q < 218 then (2432) else (if q < 219 then (2497 + i) else (2560))) else (if q < 221 then (2624) else (if q < 229 then (2688) else (2752)))) else (if q < 233 then (if q < 231 then (2816) else (if q < 232 then (2881 + i) else (2944))) else (if q < 238 then (if q < 234 then (3008) else (3072)) else (if q < 239 then (3136) else (3200))))))) else (if q < 269 then (if q < 256 then (if q < 249 then (if q < 246 then (if q < 244 then (3265 + i) else (if q < 245 then (3329 + i) else (3392))) else (if q < 247 then (3456) else (if q < 248 then (3520) else (3584)))) else (if q < 252 then (if q < 250 then (3648) else (if q < 251 then (3712) else (3776))) else (if q < 254 then (if q < 253 then (3840) else (3904)) else (if q < 255 then (3968) else (4032))))) else (if q < 262 then (if q < 259 then (if q < 257 then (4097 + i) else (if q < 258 then (4160) else (4224))) else (if q < 260 then (4288) else (if q < 261 then (4352) else (4416)))) else (if q < 265 then (if q < 263 then (4480) else (if q < 264 then (4544) else (4608))) else (if q < 267 then (if q < 266 then (4672) else (4736)) else (if q < 268 then (4800) else (4864)))))) else (if q < 282 then (if q < 275 then (if q < 272 then (if q < 270 then (4928) else (if q < 271 then (4992) else (5056))) else (if q < 273 then (5120) else (if q < 274 then (5184) else (5248)))) else (if q < 278 then (if q < 276 then (5312) else (if q < 277 then (5376) else (5440))) else (if q < 280 then (if q < 279 then (5504) else (5568)) else (if q < 281 then (5632) else (5696))))) else (if q < 288 then (if q < 285 then (if q < 283 then (5760) else (if q < 284 then (5824) else (5888))) else (if q < 286 then (5952) else (if q < 287 then (6016) else (6080)))) else (if q < 291 then (if q < 289 then (6144) else (if q < 290 then (6208) else (6272))) else (if q < 293 then (if q < 292 then (6336) else (6400)) else (if q < 294 then (6464) else (6528)))))))
def GI (s : xS) : Prop := ∀ q i, glo q i ≤ s q i ∧ s q i ≤ ghi q i
theorem GI.up {s : xS} {q i : Nat} {v : Int} (h : GI s) (hv : glo q i ≤ v ∧ v ≤ ghi q i) : GI (x_up s q i v) := fun a b => by
  by_cases e : a = q ∧ b = i
  · rw [e.1, e.2, x_up_same]; exact hv
  · show glo a b ≤ (if a = q ∧ b = i then v else s a b) ∧ (if a = q ∧ b = i then v else s a b) ≤ ghi a b
    rw [if_neg e]
    exact h a b
/-- nothing has changed but what lies at places of L -/
def FL (L : List Nat) (s s' : xS) : Prop := ∀ q i, x_pl q i ∉ L → s' q i = s q i
theorem FL.rf {L : List Nat} {s : xS} : FL L s s := fun _ _ _ => rfl
theorem FL.up {L : List Nat} {s s' : xS} {q i : Nat} {v : Int} (h : FL L s s') (hw : x_pl q i ∈ L) : FL L s (x_up s' q i v) := fun a b hab => by
  by_cases e : a = q ∧ b = i
  · rw [e.1, e.2] at hab; exact absurd hw hab
  · show (if a = q ∧ b = i then v else s' a b) = _
    rw [if_neg e]
    exact h a b hab
theorem FL.tr {L L' : List Nat} {s s1 s2 : xS} (h : FL L s s1) (h' : FL L' s1 s2) (hw : ∀ x ∈ L', x ∈ L) : FL L s s2 := fun a b hab => (h' a b (fun z => hab (hw _ z))).trans (h a b hab)
section XN
variable {X : pmX} {m pc : Nat} {ls : pmL} {r st : List Value} {s : xS} {c k : Nat} {P : xS → Option Value → Prop} {a : Int}
theorem x_top (kk : ∀ z, z = a → xe X m pc ls (vi z :: r) s c k P) : xe X m pc ls (vi a :: r) s c k P := kk a rfl
theorem x_topL (kk : ∀ z, z = a → xe X m pc ls (vj z :: r) s c k P) : xe X m pc ls (vj a :: r) s c k P := kk a rfl
/-- any int is one in range -/
theorem x_topW (kk : ∀ z, in32 z → xe X m pc ls (vi z :: r) s c k P) : xe X m pc ls (vi a :: r) s c k P := by
  obtain ⟨z, h1, h2⟩ := in32_any (Int32.ofInt a)
  have := kk z h1
  unfold vi at this ⊢
  rw [h2]
  exact this
theorem x_nh (kk : ∀ s', s' = s → xe X m pc ls st s' c k P) : xe X m pc ls st s c k P := kk s rfl
end XN
theorem gr_6 {q : Nat} (i : Nat) (h1 : 6 ≤ q) (h2 : q ≤ 45) : glo q i = (-1) ∧ ghi q i = 39 ∧ x_pl q i = 384 := ⟨by unfold glo; rw [if_pos (show q < 243 by omega), if_pos (show q < 183 by omega), if_pos (show q < 51 by omega), if_neg (show ¬ q < 6 by omega), if_pos (show q < 48 by omega), if_pos (show q < 46 by omega)], by unfold ghi; rw [if_pos (show q < 243 by omega), if_pos (show q < 183 by omega), if_pos (show q < 51 by omega), if_neg (show ¬ q < 6 by omega), if_pos (show q < 48 by omega), if_pos (show q < 46 by omega)], by unfold x_pl; rw [if_pos (show q < 243 by omega), if_pos (show q < 183 by omega), if_pos (show q < 51 by omega), if_neg (show ¬ q < 6 by omega), if_pos (show q < 48 by omega), if_pos (show q < 46 by omega)]⟩
theorem gr_57 {q : Nat} (i : Nat) (h1 : 57 ≤ q) (h2 : q ≤ 176) : glo q i = (-1) ∧ ghi q i = 9 ∧ x_pl q i = 1152 := ⟨by unfold glo; rw [if_pos (show q < 243 by omega), if_pos (show q < 183 by omega), if_neg (show ¬ q < 51 by omega), if_neg (show ¬ q < 57 by omega), if_pos (show q < 179 by omega), if_pos (show q < 177 by omega)], by unfold ghi; rw [if_pos (show q < 243 by omega), if_pos (show q < 183 by omega), if_neg (show ¬ q < 51 by omega), if_neg (show ¬ q < 57 by omega), if_pos (show q < 179 by omega), if_pos (show q < 177 by omega)], by unfold x_pl; rw [if_pos (show q < 243 by omega), if_pos (show q < 183 by omega), if_neg (show ¬ q < 51 by omega), if_neg (show ¬ q < 57 by omega), if_pos (show q < 179 by omega), if_pos (show q < 177 by omega)]⟩
theorem gr_183 {q : Nat} (i : Nat) (h1 : 183 ≤ q) (h2 : q ≤ 190) : glo q i = (-1) ∧ ghi q i = 6 ∧ x_pl q i = 1600 := ⟨by unfold glo; rw [if_pos (show q < 243 by omega), if_neg (show ¬ q < 183 by omega), if_pos (show q < 217 by omega), if_pos (show q < 210 by omega), if_pos (show q < 200 by omega), if_pos (show q < 191 by omega)], by unfold ghi; rw [if_pos (show q < 243 by omega), if_neg (show ¬ q < 183 by omega), if_pos (show q < 217 by omega), if_pos (show q < 210 by omega), if_pos (show q < 200 by omega), if_pos (show q < 191 by omega)], by unfold x_pl; rw [if_pos (show q < 243 by omega), if_neg (show ¬ q < 183 by omega), if_pos (show q < 217 by omega), if_pos (show q < 210 by omega), if_pos (show q < 200 by omega), if_pos (show q < 191 by omega)]⟩
theorem gr_192 {q : Nat} (i : Nat) (h1 : 192 ≤ q) (h2 : q ≤ 199) : glo q i = (-1) ∧ ghi q i = 99 ∧ x_pl q i = 1728 := ⟨by unfold glo; rw [if_pos (show q < 243 by omega), if_neg (show ¬ q < 183 by omega), if_pos (show q < 217 by omega), if_pos (show q < 210 by omega), if_pos (show q < 200 by omega), if_neg (show ¬ q < 191 by omega), if_neg (show ¬ q < 192 by omega)], by unfold ghi; rw [if_pos (show q < 243 by omega), if_neg (show ¬ q < 183 by omega), if_pos (show q < 217 by omega), if_pos (show q < 210 by omega), if_pos (show q < 200 by omega), if_neg (show ¬ q < 191 by omega), if_neg (show ¬ q < 192 by omega)], by unfold x_pl; rw [if_pos (show q < 243 by omega), if_neg (show ¬ q < 183 by omega), if_pos (show q < 217 by omega), if_pos (show q < 210 by omega), if_pos (show q < 200 by omega), if_neg (show ¬ q < 191 by omega), if_neg (show ¬ q < 192 by omega)]⟩
theorem gr_201 {q : Nat} (i : Nat) (h1 : 201 ≤ q) (h2 : q ≤ 208) : glo q i = (-1) ∧ ghi q i = 99 ∧ x_pl q i = 1856 := ⟨by unfold glo; rw [if_pos (show q < 243 by omega), if_neg (show ¬ q < 183 by omega), if_pos (show q < 217 by omega), if_pos (show q < 210 by omega), if_neg (show ¬ q < 200 by omega), if_neg (show ¬ q < 201 by omega), if_pos (show q < 209 by omega)], by unfold ghi; rw [if_pos (show q < 243 by omega), if_neg (show ¬ q < 183 by omega), if_pos (show q < 217 by omega), if_pos (show q < 210 by omega), if_neg (show ¬ q < 200 by omega), if_neg (show ¬ q < 201 by omega), if_pos (show q < 209 by omega)], by unfold x_pl; rw [if_pos (show q < 243 by omega), if_neg (show ¬ q < 183 by omega), if_pos (show q < 217 by omega), if_pos (show q < 210 by omega), if_neg (show ¬ q < 200 by omega), if_neg (show ¬ q < 201 by omega), if_pos (show q < 209 by omega)]⟩
theorem gr_221 {q : Nat} (i : Nat) (h1 : 221 ≤ q) (h2 : q ≤ 228) : glo q i = (-2147483648) ∧ ghi q i = 2147483647 ∧ x_pl q i = 2688 := ⟨by unfold glo; rw [if_pos (show q < 243 by omega), if_neg (show ¬ q < 183 by omega), if_neg (show ¬ q < 217 by omega), if_pos (show q < 230 by omega), if_neg (show ¬ q < 220 by omega), if_neg (show ¬ q < 221 by omega), if_pos (show q < 229 by omega)], by unfold ghi; rw [if_pos (show q < 243 by omega), if_neg (show ¬ q < 183 by omega), if_neg (show ¬ q < 217 by omega), if_pos (show q < 230 by omega), if_neg (show ¬ q < 220 by omega), if_neg (show ¬ q < 221 by omega), if_pos (show q < 229 by omega)], by unfold x_pl; rw [if_pos (show q < 243 by omega), if_neg (show ¬ q < 183 by omega), if_neg (show ¬ q < 217 by omega), if_pos (show q < 230 by omega), if_neg (show ¬ q < 220 by omega), if_neg (show ¬ q < 221 by omega), if_pos (show q < 229 by omega)]⟩
theorem gr_234 {q : Nat} (i : Nat) (h1 : 234 ≤ q) (h2 : q ≤ 237) : glo q i = 0 ∧ ghi q i = 3 ∧ x_pl q i = 3072 := ⟨by unfold glo; rw [if_pos (show q < 243 by omega), if_neg (show ¬ q < 183 by omega), if_neg (show ¬ q < 217 by omega), if_neg (show ¬ q < 230 by omega), if_neg (show ¬ q < 233 by omega), if_pos (show q < 238 by omega), if_neg (show ¬ q < 234 by omega)], by unfold ghi; rw [if_pos (show q < 243 by omega), if_neg (show ¬ q < 183 by omega), if_neg (show ¬ q < 217 by omega), if_neg (show ¬ q < 230 by omega), if_neg (show ¬ q < 233 by omega), if_pos (show q < 238 by omega), if_neg (show ¬ q < 234 by omega)], by unfold x_pl; rw [if_pos (show q < 243 by omega), if_neg (show ¬ q < 183 by omega), if_neg (show ¬ q < 217 by omega), if_neg (show ¬ q < 230 by omega), if_neg (show ¬ q < 233 by omega), if_pos (show q < 238 by omega), if_neg (show ¬ q < 234 by omega)]⟩
theorem gr_239 {q : Nat} (i : Nat) (h1 : 239 ≤ q) (h2 : q ≤ 242) : glo q i = (-9223372036854775808) ∧ ghi q i = 9223372036854775807 ∧ x_pl q i = 3200 := ⟨by unfold glo; rw [if_pos (show q < 243 by omega), if_neg (show ¬ q < 183 by omega), if_neg (show ¬ q < 217 by omega), if_neg (show ¬ q < 230 by omega), if_neg (show ¬ q < 233 by omega), if_neg (show ¬ q < 238 by omega), if_neg (show ¬ q < 239 by omega)], by unfold ghi; rw [if_pos (show q < 243 by omega), if_neg (show ¬ q < 183 by omega), if_neg (show ¬ q < 217 by omega), if_neg (show ¬ q < 230 by omega), if_neg (show ¬ q < 233 by omega), if_neg (show ¬ q < 238 by omega), if_neg (show ¬ q < 239 by omega)], by unfold x_pl; rw [if_pos (show q < 243 by omega), if_neg (show ¬ q < 183 by omega), if_neg (show ¬ q < 217 by omega), if_neg (show ¬ q < 230 by omega), if_neg (show ¬ q < 233 by omega), if_neg (show ¬ q < 238 by omega), if_neg (show ¬ q < 239 by omega)]⟩
section XO
variable {X : pmX} {m pc : Nat} {ls : pmL} {r : List Value} {s : xS} {c k : Nat} {P : xS → Option Value → Prop} {len : Nat} {a : Int}
theorem x_tabD {d lo hi : Int} {offs : Array Int} {t0 : Nat} (hk : pm_look (pm_kl m) pc = some (.tableswitch d lo hi offs, len)) (ha : in32 a) (ho : ¬ (lo ≤ a ∧ a ≤ hi)) (h0 : pm_tgt pc d = some t0) (kk : xe X m t0 ls r s c k P) : xe X m pc ls (vi a :: r) s c k P := by
  refine x_B hk rfl (fun _ => rfl) (fun _ => rfl) (fun h _ => ?_) kk
  simp only [pm_stepB, in32_toInt ha]
  rw [if_pos (by omega)]
  simp only [h0]
end XO
theorem FL.nil {s s' : xS} (h : FL [] s s') : s' = s := by
  funext q i
  exact h q i List.not_mem_nil
section XQ
variable {X : pmX} {m pc : Nat} {ls : pmL} {r : List Value} {s : xS} {c k : Nat} {P : xS → Option Value → Prop} {len : Nat} {a b : Int}
theorem x_ne0 (hb : in32 b) (h0 : b ≠ 0) : ¬ Int32.ofInt b = 0 := fun z => h0 ((in32_eq hb ⟨by decide, by decide⟩).mp (z.trans (show (0 : Int32) = Int32.ofInt 0 from rfl)))
theorem x_idiv_any (hk : pm_look (pm_kl m) pc = some (.idiv, len)) (hb : in32 b) (h0 : b ≠ 0) (kk : ∀ t, in32 t → xe X m (pc + 1) ls (vi t :: r) s c k P) : xe X m pc ls (vi b :: vi a :: r) s c k P := fun h hr => by
  obtain ⟨t, ht, e⟩ := in32_any (Int32.ofInt a / Int32.ofInt b)
  exact x_A hk (fun h => by simp only [pm_stepA, if_neg (x_ne0 hb h0)]; rw [e]) (kk t ht) h hr
theorem x_irem_any (hk : pm_look (pm_kl m) pc = some (.irem, len)) (hb : in32 b) (h0 : b ≠ 0) (kk : ∀ t, in32 t → xe X m (pc + 1) ls (vi t :: r) s c k P) : xe X m pc ls (vi b :: vi a :: r) s c k P := fun h hr => by
  obtain ⟨t, ht, e⟩ := in32_any (Int32.ofInt a - Int32.ofInt a / Int32.ofInt b * Int32.ofInt b)
  exact x_A hk (fun h => by simp only [pm_stepA, if_neg (x_ne0 hb h0)]; rw [e]) (kk t ht) h hr
end XQ
theorem am_and_le64 {x y : Int64} (h : 0 ≤ y.toInt) : 0 ≤ (x &&& y).toInt ∧ (x &&& y).toInt ≤ y.toInt := by
  have e : ∀ z : Int64, z.toInt = z.toBitVec.toInt := fun z => rfl
  rw [e y] at h
  rw [e y, e (x &&& y), Int64.toBitVec_and]
  have hy : y.toBitVec.toInt = y.toBitVec.toNat := by
    rw [BitVec.toInt_eq_toNat_cond] at h ⊢
    have := y.toBitVec.isLt
    split
    · rfl
    · next hn => rw [if_neg hn] at h; omega
  have hle : (x.toBitVec &&& y.toBitVec).toNat ≤ y.toBitVec.toNat := by rw [BitVec.toNat_and]; exact Nat.and_le_right
  have hz : (x.toBitVec &&& y.toBitVec).toInt = (x.toBitVec &&& y.toBitVec).toNat := by
    rw [BitVec.toInt_eq_toNat_cond, if_pos]
    rw [BitVec.toInt_eq_toNat_cond] at hy
    have := y.toBitVec.isLt
    split at hy
    · omega
    · omega
  rw [hy, hz]
  omega
section XP
variable {X : pmX} {m pc : Nat} {ls : pmL} {r : List Value} {s : xS} {c k : Nat} {P : xS → Option Value → Prop} {len : Nat} {a n : Int}
theorem x_land_mask (hk : pm_look (pm_kl m) pc = some (.land, len)) (hn : 0 ≤ n ∧ n ≤ 9223372036854775807) (kk : ∀ t, 0 ≤ t ∧ t ≤ n → xe X m (pc + 1) ls (vj t :: r) s c k P) : xe X m pc ls (vj n :: vj a :: r) s c k P := fun h hr => by
  have hm := am_and_le64 (x := Int64.ofInt a) (y := Int64.ofInt n) (by rw [in64_toInt ⟨by omega, by omega⟩]; exact hn.1)
  rw [in64_toInt ⟨by omega, by omega⟩] at hm
  exact x_A hk (fun h => by simp only [pm_stepA, vj, Int64.ofInt_toInt]) (kk _ hm) h hr
theorem x_l2i (hk : pm_look (pm_kl m) pc = some (.l2i, len)) (ha : in32 a) (kk : xe X m (pc + 1) ls (vi a :: r) s c k P) : xe X m pc ls (vj a :: r) s c k P := x_A hk (fun h => by
  simp only [pm_stepA]
  rw [show (Int64.ofInt a).toInt32 = Int32.ofInt a from by rw [← Int32.ofInt_int64ToInt, in64_toInt ⟨by have := ha.1; omega, by have := ha.2; omega⟩]]) kk
end XP
/-! fewer locals, in another order -/
def x_sub (l ls : pmL) : Prop := match l with
  | [] => True
  | p :: r => pm_get ls p.1 = some p.2 ∧ x_sub r ls
theorem x_sub.mem {ls : pmL} : ∀ {l : pmL}, x_sub l ls → ∀ p ∈ l, pm_get ls p.1 = some p.2
  | [], _, p, h => by cases h
  | a :: r, h, p, hp => by
    rcases List.mem_cons.mp hp with rfl | hp
    · exact h.1
    · exact x_sub.mem h.2 p hp
def x_R (l ls : pmL) : Prop := (l.map fun p => p.1).Nodup ∧ ∀ p ∈ l, pm_get ls p.1 = some p.2
theorem x_R.get {l ls : pmL} {j : Nat} {v : Value} (h : x_R l ls) (hg : pm_get l j = some v) : pm_get ls j = some v := h.2 (j, v) (pm_look_mem hg)
theorem x_fil {j : Nat} {v : Value} {f : Nat × Value → Bool} : ∀ {ls : pmL}, pm_look ls j = some v → f (j, v) = true → pm_look (ls.filter f) j = some v
  | [], h, _ => by simp [pm_look] at h
  | (i, w) :: r, h, hf => by
    have h : (if i = j then some w else pm_look r j) = some v := h
    split at h
    · next e =>
      cases h
      subst e
      rw [List.filter_cons_of_pos hf]
      show (if i = i then some v else _) = some v
      rw [if_pos rfl]
    · next e =>
      rw [List.filter_cons]
      split
      · show (if i = j then some w else _) = some v
        rw [if_neg e]
        exact x_fil h hf
      · exact x_fil h hf
theorem x_R.put {l ls : pmL} {j : Nat} {v : Value} {f : Nat × Value → Bool} (h : x_R l ls) (hf : ∀ q, f q = true → q.1 ≠ j) : x_R ((j, v) :: l.filter f) ((j, v) :: ls.filter f) := by
  refine ⟨?_, fun p hp => ?_⟩
  · rw [List.map_cons]
    refine List.nodup_cons.mpr ⟨fun hm => ?_, ?_⟩
    · obtain ⟨q, hq, e⟩ := List.mem_map.mp hm
      exact hf q (List.mem_filter.mp hq).2 e
    · exact h.1.sublist ((List.filter_sublist).map _)
  · rcases List.mem_cons.mp hp with rfl | hp
    · show (if j = j then some v else _) = some v
      rw [if_pos rfl]
    · obtain ⟨h1, h2⟩ := List.mem_filter.mp hp
      have hne := hf p h2
      show (if j = p.1 then some v else pm_look (ls.filter f) p.1) = some p.2
      rw [if_neg (fun z => hne z.symm)]
      exact x_fil (h.2 p h1) h2
theorem x_R.st1 {l ls : pmL} {j : Nat} {v : Value} (h : x_R l ls) : x_R (pm_st1 l j v) (pm_st1 ls j v) := h.put (fun q hq => by
  simp only [Bool.and_eq_true, Bool.not_eq_true', beq_eq_false_iff_ne] at hq
  exact hq.1)
theorem x_R.st2 {l ls : pmL} {j : Nat} {v : Value} (h : x_R l ls) : x_R (pm_st2 l j v) (pm_st2 ls j v) := h.put (fun q hq => by
  simp only [Bool.and_eq_true, Bool.not_eq_true', beq_eq_false_iff_ne] at hq
  exact hq.1)
set_option maxHeartbeats 4000000 in
theorem x_RA {m : Nat} {i : Instr} {pc pc' : Nat} {l l' ls : pmL} {st st' : List Value} {h h' : pmH} {c k c' k' : Nat} (hR : x_R l ls) (hs : pm_stepA m i pc l st h c k = some (pc', l', st', h', c', k')) : ∃ ls', pm_stepA m i pc ls st h c k = some (pc', ls', st', h', c', k') ∧ x_R l' ls' := by
  cases i
  case iload_n j =>
    simp only [pm_stepA] at hs ⊢
    split at hs
    · next x hg => cases hs; simp only [hR.get hg]; exact ⟨_, rfl, hR⟩
    · cases hs
  case iload j =>
    simp only [pm_stepA] at hs ⊢
    split at hs
    · next x hg => cases hs; simp only [hR.get hg]; exact ⟨_, rfl, hR⟩
    · cases hs
  case lload_n j =>
    simp only [pm_stepA] at hs ⊢
    split at hs
    · next x hg => cases hs; simp only [hR.get hg]; exact ⟨_, rfl, hR⟩
    · cases hs
  case lload j =>
    simp only [pm_stepA] at hs ⊢
    split at hs
    · next x hg => cases hs; simp only [hR.get hg]; exact ⟨_, rfl, hR⟩
    · cases hs
  case aload_n j =>
    simp only [pm_stepA] at hs ⊢
    split at hs
    · next x hg => cases hs; simp only [hR.get hg]; exact ⟨_, rfl, hR⟩
    · cases hs
  case aload j =>
    simp only [pm_stepA] at hs ⊢
    split at hs
    · next x hg => cases hs; simp only [hR.get hg]; exact ⟨_, rfl, hR⟩
    · cases hs
  case istore_n j =>
    simp only [pm_stepA] at hs ⊢
    split at hs
    · split at hs
      · next hn => cases hs; simp only [if_pos hn]; exact ⟨_, rfl, hR.st1⟩
      · cases hs
    · cases hs
  case istore j =>
    simp only [pm_stepA] at hs ⊢
    split at hs
    · split at hs
      · next hn => cases hs; simp only [if_pos hn]; exact ⟨_, rfl, hR.st1⟩
      · cases hs
    · cases hs
  case lstore_n j =>
    simp only [pm_stepA] at hs ⊢
    split at hs
    · split at hs
      · next hn => cases hs; simp only [if_pos hn]; exact ⟨_, rfl, hR.st2⟩
      · cases hs
    · cases hs
  case lstore j =>
    simp only [pm_stepA] at hs ⊢
    split at hs
    · split at hs
      · next hn => cases hs; simp only [if_pos hn]; exact ⟨_, rfl, hR.st2⟩
      · cases hs
    · cases hs
  case astore_n j =>
    simp only [pm_stepA] at hs ⊢
    split at hs
    · split at hs
      · next hn => cases hs; simp only [if_pos hn]; exact ⟨_, rfl, hR.st1⟩
      · cases hs
    · cases hs
  case astore j =>
    simp only [pm_stepA] at hs ⊢
    split at hs
    · split at hs
      · next hn => cases hs; simp only [if_pos hn]; exact ⟨_, rfl, hR.st1⟩
      · cases hs
    · cases hs
  case iinc j n =>
    simp only [pm_stepA] at hs ⊢
    split at hs
    · next x hg =>
      split at hs
      · next hn => cases hs; simp only [hR.get hg, if_pos hn]; exact ⟨_, rfl, hR.st1⟩
      · cases hs
    · cases hs
  case if_icmp cd off =>
    simp only [pm_stepA] at hs ⊢
    split at hs
    · cases cd <;> (simp only at hs ⊢; unfold pm_br at hs ⊢; split at hs <;> first | (cases hs; exact ⟨_, rfl, hR⟩) | cases hs)
    · cases hs
  case ifCond cd off =>
    simp only [pm_stepA] at hs ⊢
    split at hs
    · cases cd <;> (simp only at hs ⊢; unfold pm_br at hs ⊢; split at hs <;> first | (cases hs; exact ⟨_, rfl, hR⟩) | cases hs)
    · cases hs
  case goto off =>
    simp only [pm_stepA] at hs ⊢
    split at hs
    · cases hs; exact ⟨_, rfl, hR⟩
    · cases hs
  case idiv =>
    simp only [pm_stepA] at hs ⊢
    split at hs
    · split at hs
      · cases hs
      · next hz => cases hs; simp only [if_neg hz]; exact ⟨_, rfl, hR⟩
    · cases hs
  case irem =>
    simp only [pm_stepA] at hs ⊢
    split at hs
    · split at hs
      · cases hs
      · next hz => cases hs; simp only [if_neg hz]; exact ⟨_, rfl, hR⟩
    · cases hs
  case iconst n => simp only [pm_stepA] at hs ⊢; cases hs; exact ⟨_, rfl, hR⟩
  case bipush n => simp only [pm_stepA] at hs ⊢; cases hs; exact ⟨_, rfl, hR⟩
  case sipush n => simp only [pm_stepA] at hs ⊢; cases hs; exact ⟨_, rfl, hR⟩
  case lconst n => simp only [pm_stepA] at hs ⊢; cases hs; exact ⟨_, rfl, hR⟩
  case dup =>
    simp only [pm_stepA] at hs ⊢
    split at hs
    · cases hs; exact ⟨_, rfl, hR⟩
    · cases hs; exact ⟨_, rfl, hR⟩
    · cases hs
  case dup2 =>
    simp only [pm_stepA] at hs ⊢
    split at hs
    · cases hs; exact ⟨_, rfl, hR⟩
    · cases hs
  case pop =>
    simp only [pm_stepA] at hs ⊢
    split at hs
    · cases hs; exact ⟨_, rfl, hR⟩
    · cases hs; exact ⟨_, rfl, hR⟩
    · cases hs
  case pop2 =>
    simp only [pm_stepA] at hs ⊢
    split at hs
    · cases hs; exact ⟨_, rfl, hR⟩
    · cases hs
  case i2c =>
    simp only [pm_stepA] at hs ⊢
    split at hs
    · cases hs; exact ⟨_, rfl, hR⟩
    · cases hs
  case iadd =>
    simp only [pm_stepA] at hs ⊢
    split at hs
    · cases hs; exact ⟨_, rfl, hR⟩
    · cases hs
  case isub =>
    simp only [pm_stepA] at hs ⊢
    split at hs
    · cases hs; exact ⟨_, rfl, hR⟩
    · cases hs
  case imul =>
    simp only [pm_stepA] at hs ⊢
    split at hs
    · cases hs; exact ⟨_, rfl, hR⟩
    · cases hs
  case iand =>
    simp only [pm_stepA] at hs ⊢
    split at hs
    · cases hs; exact ⟨_, rfl, hR⟩
    · cases hs
  case ior =>
    simp only [pm_stepA] at hs ⊢
    split at hs
    · cases hs; exact ⟨_, rfl, hR⟩
    · cases hs
  case ishl =>
    simp only [pm_stepA] at hs ⊢
    split at hs
    · cases hs; exact ⟨_, rfl, hR⟩
    · cases hs
  case ishr =>
    simp only [pm_stepA] at hs ⊢
    split at hs
    · cases hs; exact ⟨_, rfl, hR⟩
    · cases hs
  case iushr =>
    simp only [pm_stepA] at hs ⊢
    split at hs
    · cases hs; exact ⟨_, rfl, hR⟩
    · cases hs
  case ladd =>
    simp only [pm_stepA] at hs ⊢
    split at hs
    · cases hs; exact ⟨_, rfl, hR⟩
    · cases hs
  case lsub =>
    simp only [pm_stepA] at hs ⊢
    split at hs
    · cases hs; exact ⟨_, rfl, hR⟩
    · cases hs
  case lmul =>
    simp only [pm_stepA] at hs ⊢
    split at hs
    · cases hs; exact ⟨_, rfl, hR⟩
    · cases hs
  case land =>
    simp only [pm_stepA] at hs ⊢
    split at hs
    · cases hs; exact ⟨_, rfl, hR⟩
    · cases hs
  case lor =>
    simp only [pm_stepA] at hs ⊢
    split at hs
    · cases hs; exact ⟨_, rfl, hR⟩
    · cases hs
  case lxor =>
    simp only [pm_stepA] at hs ⊢
    split at hs
    · cases hs; exact ⟨_, rfl, hR⟩
    · cases hs
  case lshl =>
    simp only [pm_stepA] at hs ⊢
    split at hs
    · cases hs; exact ⟨_, rfl, hR⟩
    · cases hs
  case lshr =>
    simp only [pm_stepA] at hs ⊢
    split at hs
    · cases hs; exact ⟨_, rfl, hR⟩
    · cases hs
  case lushr =>
    simp only [pm_stepA] at hs ⊢
    split at hs
    · cases hs; exact ⟨_, rfl, hR⟩
    · cases hs
  case i2l =>
    simp only [pm_stepA] at hs ⊢
    split at hs
    · cases hs; exact ⟨_, rfl, hR⟩
    · cases hs
  case l2i =>
    simp only [pm_stepA] at hs ⊢
    split at hs
    · cases hs; exact ⟨_, rfl, hR⟩
    · cases hs
  case lcmp =>
    simp only [pm_stepA] at hs ⊢
    split at hs
    · cases hs; exact ⟨_, rfl, hR⟩
    · cases hs
  all_goals exact absurd hs (by simp [pm_stepA])
/-- steps with the heap don't look at the locals -/
theorem x_RB {X : pmX} {m : Nat} {i : Instr} {pc pc' : Nat} {l l' ls : pmL} {st st' : List Value} {h h' : pmH} {c k c' k' : Nat} (hs : pm_stepB X m i pc l st h c k = some (pc', l', st', h', c', k')) : l' = l ∧ pm_stepB X m i pc ls st h c k = some (pc', ls, st', h', c', k') := by
  have key : ∀ ls : pmL, pm_stepB X m i pc ls st h c k = (pm_stepB X m i pc [] st h c k).map (fun q => (q.1, ls, q.2.2)) := by
    intro ls
    cases i <;> simp only [pm_stepB] <;> (repeat' split) <;> rfl
  rw [key l] at hs
  rw [key ls]
  cases hB : pm_stepB X m i pc [] st h c k with
  | none => rw [hB] at hs; cases hs
  | some q =>
    obtain ⟨a1, a2, a3, a4, a5, a6⟩ := q
    rw [hB] at hs
    cases hs
    exact ⟨rfl, rfl⟩
theorem x_An {X : pmX} {m : Nat} {i : Instr} {pc : Nat} {l ls : pmL} {st : List Value} {h : pmH} {c k : Nat} {r : pmS} (hB : pm_stepB X m i pc l st h c k = some r) : pm_stepA m i pc ls st h c k = none := by
  cases i <;> first | rfl | exact absurd hB (by simp [pm_stepB])
theorem pm_weak : ∀ (n : Nat) {X : pmX} {m pc : Nat} {l ls : pmL} {st : List Value} {h : pmH} {c k : Nat} {r : pmH × Option Value}, x_R l ls → pm_exec X n m pc l st h c k = some r → pm_exec X n m pc ls st h c k = some r := by
  intro n
  induction n with
  | zero =>
    intro X m pc l ls st h c k r hR hs
    cases hs
  | succ n ih =>
    intro X m pc l ls st h c k r hR hs
    rw [pm_exec] at hs ⊢
    cases h1 : pm_look (pm_kl m) pc with
    | none => rw [h1] at hs; cases hs
    | some il =>
      obtain ⟨i, len⟩ := il
      simp only [h1] at hs ⊢
      cases h2 : pm_end m i st with
      | some v => simp only [h2] at hs ⊢; exact hs
      | none =>
        simp only [h2] at hs ⊢
        cases h3 : pm_inv m i st h c k with
        | none =>
          simp only [h3] at hs ⊢
          unfold pm_step at hs ⊢
          cases hA : pm_stepA m i pc l st h c k with
          | some q =>
            obtain ⟨pc', l', st', h', c', k'⟩ := q
            obtain ⟨ls', g1, g2⟩ := x_RA hR hA
            simp only [hA] at hs
            simp only [g1]
            exact ih g2 hs
          | none =>
            simp only [hA] at hs
            cases hB : pm_stepB X m i pc l st h c k with
            | none => rw [hB] at hs; cases hs
            | some q =>
              obtain ⟨pc', l', st', h', c', k'⟩ := q
              obtain ⟨rfl, g1⟩ := x_RB (ls := ls) hB
              simp only [hB] at hs
              have hAn : pm_stepA m i pc ls st h c k = none := x_An hB
              simp only [hAn, g1]
              exact ih hR hs
        | some q =>
          obtain ⟨o, as, rest⟩ := q
          cases o with
          | none => simp only [h3] at hs ⊢; exact ih hR hs
          | some y =>
            simp only [h3] at hs ⊢
            cases h5 : pm_exec none n y 0 (lv_args 0 as) [] h 0 0 with
            | none => rw [h5] at hs; cases hs
            | some w =>
              obtain ⟨h', r'⟩ := w
              rw [h5] at hs
              exact ih hR hs
theorem x_ls {X : pmX} {m pc : Nat} {l ls : pmL} {st : List Value} {s : xS} {c k : Nat} {P : xS → Option Value → Prop} (hn : (l.map fun p => p.1).Nodup) (hs : x_sub l ls) (kk : xe X m pc l st s c k P) : xe X m pc ls st s c k P := fun h hr => by
  obtain ⟨n, h', r, g1, g2⟩ := kk h hr
  exact ⟨n, h', r, pm_weak n ⟨hn, hs.mem⟩ g1, g2⟩
/-! longs: exact sums -/
section XZ
variable {X : pmX} {m pc : Nat} {ls : pmL} {r : List Value} {s : xS} {c k : Nat} {P : xS → Option Value → Prop} {len : Nat} {a b : Int}
theorem x_ladd (hk : pm_look (pm_kl m) pc = some (.ladd, len)) (kk : xe X m (pc + 1) ls (vj (a + b) :: r) s c k P) : xe X m pc ls (vj b :: vj a :: r) s c k P := x_A hk (fun h => by simp only [pm_stepA]; rw [← Int64.ofInt_add]) kk
theorem x_lsub (hk : pm_look (pm_kl m) pc = some (.lsub, len)) (kk : xe X m (pc + 1) ls (vj (a - b) :: r) s c k P) : xe X m pc ls (vj b :: vj a :: r) s c k P := x_A hk (fun h => by simp only [pm_stepA]; rw [← Int64.ofInt_sub]) kk
theorem x_lmul (hk : pm_look (pm_kl m) pc = some (.lmul, len)) (kk : xe X m (pc + 1) ls (vj (a * b) :: r) s c k P) : xe X m pc ls (vj b :: vj a :: r) s c k P := x_A hk (fun h => by simp only [pm_stepA]; rw [← Int64.ofInt_mul]) kk
end XZ
/-- bounds by other bounds -/
theorem x_rb {x lo hi a b : Int} (h : lo ≤ x ∧ x ≤ hi) (h1 : decide (a ≤ lo) = true) (h2 : decide (hi ≤ b) = true) : a ≤ x ∧ x ≤ b := ⟨Int.le_trans (of_decide_eq_true h1) h.1, Int.le_trans h.2 (of_decide_eq_true h2)⟩
theorem x_rbe {x t lo hi a b : Int} (e : x = t) (h : lo ≤ t ∧ t ≤ hi) (h1 : decide (a ≤ lo) = true) (h2 : decide (hi ≤ b) = true) : a ≤ x ∧ x ≤ b := by
  rw [e]
  exact x_rb h h1 h2
theorem x_rbl {x lo hi a b : Int} (h : lo ≤ x ∧ x ≤ hi) (h1 : decide (a ≤ lo) = true) (h2 : decide (hi < b) = true) : a ≤ x ∧ x < b := ⟨Int.le_trans (of_decide_eq_true h1) h.1, Int.lt_of_le_of_lt h.2 (of_decide_eq_true h2)⟩
theorem x_rbel {x t lo hi a b : Int} (e : x = t) (h : lo ≤ t ∧ t ≤ hi) (h1 : decide (a ≤ lo) = true) (h2 : decide (hi < b) = true) : a ≤ x ∧ x < b := by
  rw [e]
  exact x_rbl h h1 h2
