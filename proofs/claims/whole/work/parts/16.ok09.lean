set_option maxRecDepth 1000000 in
theorem am_okc_8 : am_c158_8.all (am_okR am_m158.2.1 am_m158.2.2.2.2.1 (am_m158.2.2.2.2.2.2.2.1 == 2) am_m158.2.2.2.2.2.2.1) = true := by decide +kernel
set_option maxRecDepth 1000000 in
theorem am_okc_9 : am_c158_9.all (am_okR am_m158.2.1 am_m158.2.2.2.2.1 (am_m158.2.2.2.2.2.2.2.1 == 2) am_m158.2.2.2.2.2.2.1) = true := by decide +kernel
