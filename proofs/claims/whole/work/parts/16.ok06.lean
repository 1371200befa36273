set_option maxRecDepth 1000000 in
theorem am_ok_294 : am_okM 294 = true := by decide +kernel
set_option maxRecDepth 1000000 in
theorem am_ok_295 : am_okM 295 = true := by decide +kernel
