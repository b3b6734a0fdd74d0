theorem am_t4 : am_try 4 (am_sp 4) [] am_b0 = true := by decide +kernel
theorem am_t5 : am_try 5 (am_sp 5) [] am_b0 = true := by decide +kernel
theorem am_t6 : am_try 6 (am_sp 6) [] am_b0 = true := by decide +kernel
