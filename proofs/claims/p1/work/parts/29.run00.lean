theorem am_preT : am_prec 20021 20011 = true := by decide +kernel
theorem am_t0 : am_try 0 (am_sp 0) [] am_b0 = true := by decide +kernel
theorem am_t1 : am_try 1 (am_sp 1) [] am_b0 = true := by decide +kernel
