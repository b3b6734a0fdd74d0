theorem am_t22 : am_try 22 (am_sp 22) [] am_b0 = true := by decide +kernel
