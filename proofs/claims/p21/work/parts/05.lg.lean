def pm_chk (k : Nat) (e : Nat × Value) : Bool := match e.2 with
  | .int _ => true
  | .long _ => true
  | .ref j => decide (2001 ≤ j) && (match pm_strs[j - 2001]? with
    | some q => decide (q.1 = k ∧ q.2.1 = e.1)
    | none => false)
  | _ => false
theorem pm_k0 : ∀ w ∈ (pm_cons 0).flatMap (pm_wk 0), w ∈ pm_ws := pm_subg [] (by decide +kernel) (by decide +kernel)
theorem pm_kc0 : ∀ e ∈ pm_cons 0, pm_chk 0 e = true := by decide +kernel
theorem pm_k1 : ∀ w ∈ (pm_cons 1).flatMap (pm_wk 1), w ∈ pm_ws := pm_subg [] (by decide +kernel) (by decide +kernel)
theorem pm_kc1 : ∀ e ∈ pm_cons 1, pm_chk 1 e = true := by decide +kernel
theorem pm_k2 : ∀ w ∈ (pm_cons 2).flatMap (pm_wk 2), w ∈ pm_ws := pm_subg [] (by decide +kernel) (by decide +kernel)
theorem pm_kc2 : ∀ e ∈ pm_cons 2, pm_chk 2 e = true := by decide +kernel
theorem pm_k3 : ∀ w ∈ (pm_cons 3).flatMap (pm_wk 3), w ∈ pm_ws := pm_subg [] (by decide +kernel) (by decide +kernel)
theorem pm_kc3 : ∀ e ∈ pm_cons 3, pm_chk 3 e = true := by decide +kernel
theorem pm_k4 : ∀ w ∈ (pm_cons 4).flatMap (pm_wk 4), w ∈ pm_ws := pm_subg [] (by decide +kernel) (by decide +kernel)
theorem pm_kc4 : ∀ e ∈ pm_cons 4, pm_chk 4 e = true := by decide +kernel
theorem pm_k5 : ∀ w ∈ (pm_cons 5).flatMap (pm_wk 5), w ∈ pm_ws := pm_subg [] (by decide +kernel) (by decide +kernel)
theorem pm_kc5 : ∀ e ∈ pm_cons 5, pm_chk 5 e = true := by decide +kernel
theorem pm_k6 : ∀ w ∈ (pm_cons 6).flatMap (pm_wk 6), w ∈ pm_ws := pm_subg [] (by decide +kernel) (by decide +kernel)
theorem pm_kc6 : ∀ e ∈ pm_cons 6, pm_chk 6 e = true := by decide +kernel
theorem pm_k7 : ∀ w ∈ (pm_cons 7).flatMap (pm_wk 7), w ∈ pm_ws := pm_subg [] (by decide +kernel) (by decide +kernel)
theorem pm_kc7 : ∀ e ∈ pm_cons 7, pm_chk 7 e = true := by decide +kernel
theorem pm_k8 : ∀ w ∈ (pm_cons 8).flatMap (pm_wk 8), w ∈ pm_ws := pm_subg [696] (by decide +kernel) (by decide +kernel)
theorem pm_kc8 : ∀ e ∈ pm_cons 8, pm_chk 8 e = true := by decide +kernel
theorem pm_k9 : ∀ w ∈ (pm_cons 9).flatMap (pm_wk 9), w ∈ pm_ws := pm_subg [] (by decide +kernel) (by decide +kernel)
theorem pm_kc9 : ∀ e ∈ pm_cons 9, pm_chk 9 e = true := by decide +kernel
theorem pm_k10 : ∀ w ∈ (pm_cons 10).flatMap (pm_wk 10), w ∈ pm_ws := pm_subg [1043, 1044, 996] (by decide +kernel) (by decide +kernel)
theorem pm_kc10 : ∀ e ∈ pm_cons 10, pm_chk 10 e = true := by decide +kernel
theorem pm_k11 : ∀ w ∈ (pm_cons 11).flatMap (pm_wk 11), w ∈ pm_ws := pm_subg [1322, 1396, 1387, 1388, 1397, 1414, 1431, 1432, 1449, 1450, 1451, 1452, 1453, 1454, 1474, 1475, 1476, 1504, 1505, 1562, 1595, 1596] (by decide +kernel) (by decide +kernel)
theorem pm_kc11 : ∀ e ∈ pm_cons 11, pm_chk 11 e = true := by decide +kernel
theorem pm_k12 : ∀ w ∈ (pm_cons 12).flatMap (pm_wk 12), w ∈ pm_ws := pm_subg [] (by decide +kernel) (by decide +kernel)
theorem pm_kc12 : ∀ e ∈ pm_cons 12, pm_chk 12 e = true := by decide +kernel
theorem pm_k13 : ∀ w ∈ (pm_cons 13).flatMap (pm_wk 13), w ∈ pm_ws := pm_subg [] (by decide +kernel) (by decide +kernel)
theorem pm_kc13 : ∀ e ∈ pm_cons 13, pm_chk 13 e = true := by decide +kernel
theorem pm_k14 : ∀ w ∈ (pm_cons 14).flatMap (pm_wk 14), w ∈ pm_ws := pm_subg [641, 642, 643] (by decide +kernel) (by decide +kernel)
