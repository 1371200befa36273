set_option maxRecDepth 1000000 in
theorem am_okc_5 : am_c158_5.all (am_okR am_m158.2.1 am_m158.2.2.2.2.1 (am_m158.2.2.2.2.2.2.2.1 == 2) am_m158.2.2.2.2.2.2.1) = true := by decide +kernel
set_option maxRecDepth 1000000 in
theorem am_okc_6 : am_c158_6.all (am_okR am_m158.2.1 am_m158.2.2.2.2.1 (am_m158.2.2.2.2.2.2.2.1 == 2) am_m158.2.2.2.2.2.2.1) = true := by decide +kernel
set_option maxRecDepth 1000000 in
theorem am_okc_7 : am_c158_7.all (am_okR am_m158.2.1 am_m158.2.2.2.2.1 (am_m158.2.2.2.2.2.2.2.1 == 2) am_m158.2.2.2.2.2.2.1) = true := by decide +kernel
