theorem am_t16 : am_try 16 (am_sp 16) [] am_b0 = true := by decide +kernel
