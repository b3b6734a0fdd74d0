theorem am_t25 : am_try 25 (am_sp 25) [] am_b0 = true := by decide +kernel
theorem am_t26 : am_try 26 (am_sp 26) [] am_b0 = true := by decide +kernel
theorem am_t27 : am_try 27 (am_sp 27) [] am_b0 = true := by decide +kernel
theorem am_t28 : am_try 28 (am_sp 28) [] am_b0 = true := by decide +kernel
