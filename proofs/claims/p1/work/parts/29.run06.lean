theorem am_t17 : am_try 17 (am_sp 17) [] am_b0 = true := by decide +kernel
theorem am_t18 : am_try 18 (am_sp 18) [] am_b0 = true := by decide +kernel
theorem am_t19 : am_try 19 (am_sp 19) [] am_b0 = true := by decide +kernel
theorem am_t20 : am_try 20 (am_sp 20) [] am_b0 = true := by decide +kernel
