theorem am_preT : am_prec 20021 20011 = true := by decide +kernel
