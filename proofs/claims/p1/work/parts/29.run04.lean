theorem am_t13 : am_try 13 (am_sp 13) [] am_b0 = true := by decide +kernel
theorem am_t14 : am_try 14 (am_sp 14) [] am_b0 = true := by decide +kernel
theorem am_t15 : am_try 15 (am_sp 15) [] am_b0 = true := by decide +kernel
