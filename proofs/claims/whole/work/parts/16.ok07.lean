set_option maxRecDepth 1000000 in
theorem am_okc_0 : am_c158_0.all (am_okR am_m158.2.1 am_m158.2.2.2.2.1 (am_m158.2.2.2.2.2.2.2.1 == 2) am_m158.2.2.2.2.2.2.1) = true := by decide +kernel
set_option maxRecDepth 1000000 in
theorem am_okc_1 : am_c158_1.all (am_okR am_m158.2.1 am_m158.2.2.2.2.1 (am_m158.2.2.2.2.2.2.2.1 == 2) am_m158.2.2.2.2.2.2.1) = true := by decide +kernel
set_option maxRecDepth 1000000 in
theorem am_okc_2 : am_c158_2.all (am_okR am_m158.2.1 am_m158.2.2.2.2.1 (am_m158.2.2.2.2.2.2.2.1 == 2) am_m158.2.2.2.2.2.2.1) = true := by decide +kernel
set_option maxRecDepth 1000000 in
theorem am_okc_3 : am_c158_3.all (am_okR am_m158.2.1 am_m158.2.2.2.2.1 (am_m158.2.2.2.2.2.2.2.1 == 2) am_m158.2.2.2.2.2.2.1) = true := by decide +kernel
set_option maxRecDepth 1000000 in
theorem am_okc_4 : am_c158_4.all (am_okR am_m158.2.1 am_m158.2.2.2.2.1 (am_m158.2.2.2.2.2.2.2.1 == 2) am_m158.2.2.2.2.2.2.1) = true := by decide +kernel
