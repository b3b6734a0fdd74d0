theorem am_t23 : am_try 23 (am_sp 23) [] am_b0 = true := by decide +kernel
theorem am_t24 : am_try 24 (am_sp 24) [] am_b0 = true := by decide +kernel
