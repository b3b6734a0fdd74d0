theorem am_t29 : am_try 29 (am_sp 29) [] am_b0 = true := by decide +kernel
theorem am_t30 : am_try 30 (am_sp 30) [] am_b0 = true := by decide +kernel
theorem am_t31 : am_try 31 (am_sp 31) [] am_b0 = true := by decide +kernel
