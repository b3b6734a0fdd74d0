theorem am_t21 : am_try 21 (am_sp 21) [] am_b0 = true := by decide +kernel
