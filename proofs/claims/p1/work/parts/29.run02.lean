theorem am_t7 : am_try 7 (am_sp 7) [] am_b0 = true := by decide +kernel
theorem am_t8 : am_try 8 (am_sp 8) [] am_b0 = true := by decide +kernel
theorem am_t9 : am_try 9 (am_sp 9) [] am_b0 = true := by decide +kernel
theorem am_t10 : am_try 10 (am_sp 10) [] am_b0 = true := by decide +kernel
theorem am_t11 : am_try 11 (am_sp 11) [] am_b0 = true := by decide +kernel
