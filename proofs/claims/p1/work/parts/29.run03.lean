theorem am_t12 : am_try 12 (am_sp 12) [] am_b0 = true := by decide +kernel
