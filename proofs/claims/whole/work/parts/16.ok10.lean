set_option maxRecDepth 1000000 in
theorem am_okc_10 : am_c158_10.all (am_okR am_m158.2.1 am_m158.2.2.2.2.1 (am_m158.2.2.2.2.2.2.2.1 == 2) am_m158.2.2.2.2.2.2.1) = true := by decide +kernel
set_option maxRecDepth 1000000 in
theorem am_okc_11 : am_c158_11.all (am_okR am_m158.2.1 am_m158.2.2.2.2.1 (am_m158.2.2.2.2.2.2.2.1 == 2) am_m158.2.2.2.2.2.2.1) = true := by decide +kernel
