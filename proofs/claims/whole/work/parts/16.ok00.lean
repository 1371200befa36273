set_option maxRecDepth 1000000 in
theorem am_ok_0 : am_okM 0 = true := by decide +kernel
set_option maxRecDepth 1000000 in
theorem am_ok_1 : am_okM 1 = true := by decide +kernel
set_option maxRecDepth 1000000 in
theorem am_ok_2 : am_okM 2 = true := by decide +kernel
set_option maxRecDepth 1000000 in
theorem am_ok_3 : am_okM 3 = true := by decide +kernel
set_option maxRecDepth 1000000 in
theorem am_ok_4 : am_okM 4 = true := by decide +kernel
set_option maxRecDepth 1000000 in
theorem am_ok_5 : am_okM 5 = true := by decide +kernel
set_option maxRecDepth 1000000 in
theorem am_ok_6 : am_okM 6 = true := by decide +kernel
set_option maxRecDepth 1000000 in
theorem am_ok_7 : am_okM 7 = true := by decide +kernel
set_option maxRecDepth 1000000 in
theorem am_ok_8 : am_okM 8 = true := by decide +kernel
set_option maxRecDepth 1000000 in
theorem am_ok_9 : am_okM 9 = true := by decide +kernel
set_option maxRecDepth 1000000 in
theorem am_ok_10 : am_okM 10 = true := by decide +kernel
set_option maxRecDepth 1000000 in
theorem am_ok_11 : am_okM 11 = true := by decide +kernel
set_option maxRecDepth 1000000 in
theorem am_ok_12 : am_okM 12 = true := by decide +kernel
set_option maxRecDepth 1000000 in
theorem am_ok_13 : am_okM 13 = true := by decide +kernel
set_option maxRecDepth 1000000 in
theorem am_ok_14 : am_okM 14 = true := by decide +kernel
set_option maxRecDepth 1000000 in
theorem am_ok_15 : am_okM 15 = true := by decide +kernel
set_option maxRecDepth 1000000 in
theorem am_ok_16 : am_okM 16 = true := by decide +kernel
set_option maxRecDepth 1000000 in
theorem am_ok_17 : am_okM 17 = true := by decide +kernel
set_option maxRecDepth 1000000 in
theorem am_ok_18 : am_okM 18 = true := by decide +kernel
set_option maxRecDepth 1000000 in
theorem am_ok_19 : am_okM 19 = true := by decide +kernel
set_option maxRecDepth 1000000 in
theorem am_ok_20 : am_okM 20 = true := by decide +kernel
set_option maxRecDepth 1000000 in
theorem am_ok_21 : am_okM 21 = true := by decide +kernel
set_option maxRecDepth 1000000 in
theorem am_ok_22 : am_okM 22 = true := by decide +kernel
set_option maxRecDepth 1000000 in
theorem am_ok_23 : am_okM 23 = true := by decide +kernel
set_option maxRecDepth 1000000 in
theorem am_ok_24 : am_okM 24 = true := by decide +kernel
set_option maxRecDepth 1000000 in
theorem am_ok_25 : am_okM 25 = true := by decide +kernel
set_option maxRecDepth 1000000 in
theorem am_ok_26 : am_okM 26 = true := by decide +kernel
set_option maxRecDepth 1000000 in
theorem am_ok_27 : am_okM 27 = true := by decide +kernel
set_option maxRecDepth 1000000 in
theorem am_ok_28 : am_okM 28 = true := by decide +kernel
set_option maxRecDepth 1000000 in
theorem am_ok_29 : am_okM 29 = true := by decide +kernel
set_option maxRecDepth 1000000 in
theorem am_ok_30 : am_okM 30 = true := by decide +kernel
set_option maxRecDepth 1000000 in
theorem am_ok_31 : am_okM 31 = true := by decide +kernel
set_option maxRecDepth 1000000 in
theorem am_ok_32 : am_okM 32 = true := by decide +kernel
set_option maxRecDepth 1000000 in
theorem am_ok_33 : am_okM 33 = true := by decide +kernel
set_option maxRecDepth 1000000 in
theorem am_ok_34 : am_okM 34 = true := by decide +kernel
set_option maxRecDepth 1000000 in
theorem am_ok_35 : am_okM 35 = true := by decide +kernel
set_option maxRecDepth 1000000 in
theorem am_ok_36 : am_okM 36 = true := by decide +kernel
set_option maxRecDepth 1000000 in
theorem am_ok_37 : am_okM 37 = true := by decide +kernel
set_option maxRecDepth 1000000 in
theorem am_ok_38 : am_okM 38 = true := by decide +kernel
set_option maxRecDepth 1000000 in
theorem am_ok_39 : am_okM 39 = true := by decide +kernel
set_option maxRecDepth 1000000 in
theorem am_ok_40 : am_okM 40 = true := by decide +kernel
set_option maxRecDepth 1000000 in
theorem am_ok_41 : am_okM 41 = true := by decide +kernel
set_option maxRecDepth 1000000 in
theorem am_ok_42 : am_okM 42 = true := by decide +kernel
set_option maxRecDepth 1000000 in
theorem am_ok_43 : am_okM 43 = true := by decide +kernel
set_option maxRecDepth 1000000 in
theorem am_ok_44 : am_okM 44 = true := by decide +kernel
set_option maxRecDepth 1000000 in
theorem am_ok_45 : am_okM 45 = true := by decide +kernel
set_option maxRecDepth 1000000 in
theorem am_ok_46 : am_okM 46 = true := by decide +kernel
set_option maxRecDepth 1000000 in
theorem am_ok_47 : am_okM 47 = true := by decide +kernel
set_option maxRecDepth 1000000 in
theorem am_ok_48 : am_okM 48 = true := by decide +kernel
set_option maxRecDepth 1000000 in
theorem am_ok_49 : am_okM 49 = true := by decide +kernel
set_option maxRecDepth 1000000 in
theorem am_ok_50 : am_okM 50 = true := by decide +kernel
