set_option maxRecDepth 1000000 in
theorem am_ok_51 : am_okM 51 = true := by decide +kernel
set_option maxRecDepth 1000000 in
theorem am_ok_52 : am_okM 52 = true := by decide +kernel
set_option maxRecDepth 1000000 in
theorem am_ok_53 : am_okM 53 = true := by decide +kernel
set_option maxRecDepth 1000000 in
theorem am_ok_54 : am_okM 54 = true := by decide +kernel
set_option maxRecDepth 1000000 in
theorem am_ok_55 : am_okM 55 = true := by decide +kernel
set_option maxRecDepth 1000000 in
theorem am_ok_56 : am_okM 56 = true := by decide +kernel
set_option maxRecDepth 1000000 in
theorem am_ok_57 : am_okM 57 = true := by decide +kernel
set_option maxRecDepth 1000000 in
theorem am_ok_58 : am_okM 58 = true := by decide +kernel
set_option maxRecDepth 1000000 in
theorem am_ok_59 : am_okM 59 = true := by decide +kernel
set_option maxRecDepth 1000000 in
theorem am_ok_60 : am_okM 60 = true := by decide +kernel
set_option maxRecDepth 1000000 in
theorem am_ok_61 : am_okM 61 = true := by decide +kernel
set_option maxRecDepth 1000000 in
theorem am_ok_62 : am_okM 62 = true := by decide +kernel
set_option maxRecDepth 1000000 in
theorem am_ok_63 : am_okM 63 = true := by decide +kernel
set_option maxRecDepth 1000000 in
theorem am_ok_64 : am_okM 64 = true := by decide +kernel
set_option maxRecDepth 1000000 in
theorem am_ok_65 : am_okM 65 = true := by decide +kernel
set_option maxRecDepth 1000000 in
theorem am_ok_66 : am_okM 66 = true := by decide +kernel
set_option maxRecDepth 1000000 in
theorem am_ok_67 : am_okM 67 = true := by decide +kernel
set_option maxRecDepth 1000000 in
theorem am_ok_68 : am_okM 68 = true := by decide +kernel
set_option maxRecDepth 1000000 in
theorem am_ok_69 : am_okM 69 = true := by decide +kernel
set_option maxRecDepth 1000000 in
theorem am_ok_70 : am_okM 70 = true := by decide +kernel
set_option maxRecDepth 1000000 in
theorem am_ok_71 : am_okM 71 = true := by decide +kernel
set_option maxRecDepth 1000000 in
theorem am_ok_72 : am_okM 72 = true := by decide +kernel
set_option maxRecDepth 1000000 in
theorem am_ok_73 : am_okM 73 = true := by decide +kernel
set_option maxRecDepth 1000000 in
theorem am_ok_74 : am_okM 74 = true := by decide +kernel
set_option maxRecDepth 1000000 in
theorem am_ok_75 : am_okM 75 = true := by decide +kernel
set_option maxRecDepth 1000000 in
theorem am_ok_76 : am_okM 76 = true := by decide +kernel
set_option maxRecDepth 1000000 in
theorem am_ok_77 : am_okM 77 = true := by decide +kernel
set_option maxRecDepth 1000000 in
theorem am_ok_78 : am_okM 78 = true := by decide +kernel
set_option maxRecDepth 1000000 in
theorem am_ok_79 : am_okM 79 = true := by decide +kernel
set_option maxRecDepth 1000000 in
theorem am_ok_80 : am_okM 80 = true := by decide +kernel
set_option maxRecDepth 1000000 in
theorem am_ok_81 : am_okM 81 = true := by decide +kernel
set_option maxRecDepth 1000000 in
theorem am_ok_82 : am_okM 82 = true := by decide +kernel
set_option maxRecDepth 1000000 in
theorem am_ok_83 : am_okM 83 = true := by decide +kernel
set_option maxRecDepth 1000000 in
theorem am_ok_84 : am_okM 84 = true := by decide +kernel
set_option maxRecDepth 1000000 in
theorem am_ok_85 : am_okM 85 = true := by decide +kernel
set_option maxRecDepth 1000000 in
theorem am_ok_86 : am_okM 86 = true := by decide +kernel
set_option maxRecDepth 1000000 in
theorem am_ok_87 : am_okM 87 = true := by decide +kernel
set_option maxRecDepth 1000000 in
theorem am_ok_88 : am_okM 88 = true := by decide +kernel
set_option maxRecDepth 1000000 in
theorem am_ok_89 : am_okM 89 = true := by decide +kernel
set_option maxRecDepth 1000000 in
theorem am_ok_90 : am_okM 90 = true := by decide +kernel
set_option maxRecDepth 1000000 in
theorem am_ok_91 : am_okM 91 = true := by decide +kernel
set_option maxRecDepth 1000000 in
theorem am_ok_92 : am_okM 92 = true := by decide +kernel
set_option maxRecDepth 1000000 in
theorem am_ok_93 : am_okM 93 = true := by decide +kernel
set_option maxRecDepth 1000000 in
theorem am_ok_94 : am_okM 94 = true := by decide +kernel
set_option maxRecDepth 1000000 in
theorem am_ok_95 : am_okM 95 = true := by decide +kernel
set_option maxRecDepth 1000000 in
theorem am_ok_96 : am_okM 96 = true := by decide +kernel
set_option maxRecDepth 1000000 in
theorem am_ok_97 : am_okM 97 = true := by decide +kernel
set_option maxRecDepth 1000000 in
theorem am_ok_98 : am_okM 98 = true := by decide +kernel
set_option maxRecDepth 1000000 in
theorem am_ok_99 : am_okM 99 = true := by decide +kernel
set_option maxRecDepth 1000000 in
theorem am_ok_100 : am_okM 100 = true := by decide +kernel
set_option maxRecDepth 1000000 in
theorem am_ok_101 : am_okM 101 = true := by decide +kernel
set_option maxRecDepth 1000000 in
theorem am_ok_102 : am_okM 102 = true := by decide +kernel
set_option maxRecDepth 1000000 in
theorem am_ok_103 : am_okM 103 = true := by decide +kernel
set_option maxRecDepth 1000000 in
theorem am_ok_104 : am_okM 104 = true := by decide +kernel
set_option maxRecDepth 1000000 in
theorem am_ok_105 : am_okM 105 = true := by decide +kernel
set_option maxRecDepth 1000000 in
theorem am_ok_106 : am_okM 106 = true := by decide +kernel
set_option maxRecDepth 1000000 in
theorem am_ok_107 : am_okM 107 = true := by decide +kernel
set_option maxRecDepth 1000000 in
theorem am_ok_108 : am_okM 108 = true := by decide +kernel
