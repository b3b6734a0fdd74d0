theorem am_t0 : am_try 0 (am_sp 0) [] am_b0 = true := by decide +kernel
theorem am_t1 : am_try 1 (am_sp 1) [] am_b0 = true := by decide +kernel
theorem am_t2 : am_try 2 (am_sp 2) [] am_b0 = true := by decide +kernel
theorem am_t3 : am_try 3 (am_sp 3) [] am_b0 = true := by decide +kernel
