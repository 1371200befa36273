set_option maxRecDepth 1000000 in
theorem am_ok_109 : am_okM 109 = true := by decide +kernel
set_option maxRecDepth 1000000 in
theorem am_ok_110 : am_okM 110 = true := by decide +kernel
set_option maxRecDepth 1000000 in
theorem am_ok_111 : am_okM 111 = true := by decide +kernel
set_option maxRecDepth 1000000 in
theorem am_ok_112 : am_okM 112 = true := by decide +kernel
set_option maxRecDepth 1000000 in
theorem am_ok_113 : am_okM 113 = true := by decide +kernel
set_option maxRecDepth 1000000 in
theorem am_ok_114 : am_okM 114 = true := by decide +kernel
set_option maxRecDepth 1000000 in
theorem am_ok_115 : am_okM 115 = true := by decide +kernel
set_option maxRecDepth 1000000 in
theorem am_ok_116 : am_okM 116 = true := by decide +kernel
set_option maxRecDepth 1000000 in
theorem am_ok_117 : am_okM 117 = true := by decide +kernel
set_option maxRecDepth 1000000 in
theorem am_ok_118 : am_okM 118 = true := by decide +kernel
set_option maxRecDepth 1000000 in
theorem am_ok_119 : am_okM 119 = true := by decide +kernel
set_option maxRecDepth 1000000 in
theorem am_ok_120 : am_okM 120 = true := by decide +kernel
set_option maxRecDepth 1000000 in
theorem am_ok_121 : am_okM 121 = true := by decide +kernel
set_option maxRecDepth 1000000 in
theorem am_ok_122 : am_okM 122 = true := by decide +kernel
set_option maxRecDepth 1000000 in
theorem am_ok_123 : am_okM 123 = true := by decide +kernel
set_option maxRecDepth 1000000 in
theorem am_ok_124 : am_okM 124 = true := by decide +kernel
set_option maxRecDepth 1000000 in
theorem am_ok_125 : am_okM 125 = true := by decide +kernel
set_option maxRecDepth 1000000 in
theorem am_ok_126 : am_okM 126 = true := by decide +kernel
set_option maxRecDepth 1000000 in
theorem am_ok_127 : am_okM 127 = true := by decide +kernel
set_option maxRecDepth 1000000 in
theorem am_ok_128 : am_okM 128 = true := by decide +kernel
set_option maxRecDepth 1000000 in
theorem am_ok_129 : am_okM 129 = true := by decide +kernel
set_option maxRecDepth 1000000 in
theorem am_ok_130 : am_okM 130 = true := by decide +kernel
set_option maxRecDepth 1000000 in
theorem am_ok_131 : am_okM 131 = true := by decide +kernel
set_option maxRecDepth 1000000 in
theorem am_ok_132 : am_okM 132 = true := by decide +kernel
set_option maxRecDepth 1000000 in
theorem am_ok_133 : am_okM 133 = true := by decide +kernel
set_option maxRecDepth 1000000 in
theorem am_ok_134 : am_okM 134 = true := by decide +kernel
set_option maxRecDepth 1000000 in
theorem am_ok_135 : am_okM 135 = true := by decide +kernel
set_option maxRecDepth 1000000 in
theorem am_ok_136 : am_okM 136 = true := by decide +kernel
set_option maxRecDepth 1000000 in
theorem am_ok_137 : am_okM 137 = true := by decide +kernel
set_option maxRecDepth 1000000 in
theorem am_ok_138 : am_okM 138 = true := by decide +kernel
set_option maxRecDepth 1000000 in
theorem am_ok_139 : am_okM 139 = true := by decide +kernel
set_option maxRecDepth 1000000 in
theorem am_ok_140 : am_okM 140 = true := by decide +kernel
set_option maxRecDepth 1000000 in
theorem am_ok_141 : am_okM 141 = true := by decide +kernel
set_option maxRecDepth 1000000 in
theorem am_ok_142 : am_okM 142 = true := by decide +kernel
set_option maxRecDepth 1000000 in
theorem am_ok_143 : am_okM 143 = true := by decide +kernel
set_option maxRecDepth 1000000 in
theorem am_ok_144 : am_okM 144 = true := by decide +kernel
set_option maxRecDepth 1000000 in
theorem am_ok_145 : am_okM 145 = true := by decide +kernel
set_option maxRecDepth 1000000 in
theorem am_ok_146 : am_okM 146 = true := by decide +kernel
set_option maxRecDepth 1000000 in
theorem am_ok_147 : am_okM 147 = true := by decide +kernel
set_option maxRecDepth 1000000 in
theorem am_ok_148 : am_okM 148 = true := by decide +kernel
set_option maxRecDepth 1000000 in
theorem am_ok_149 : am_okM 149 = true := by decide +kernel
set_option maxRecDepth 1000000 in
theorem am_ok_150 : am_okM 150 = true := by decide +kernel
set_option maxRecDepth 1000000 in
theorem am_ok_151 : am_okM 151 = true := by decide +kernel
set_option maxRecDepth 1000000 in
theorem am_ok_152 : am_okM 152 = true := by decide +kernel
set_option maxRecDepth 1000000 in
theorem am_ok_153 : am_okM 153 = true := by decide +kernel
set_option maxRecDepth 1000000 in
theorem am_ok_154 : am_okM 154 = true := by decide +kernel
set_option maxRecDepth 1000000 in
theorem am_ok_155 : am_okM 155 = true := by decide +kernel
set_option maxRecDepth 1000000 in
theorem am_ok_156 : am_okM 156 = true := by decide +kernel
set_option maxRecDepth 1000000 in
theorem am_ok_157 : am_okM 157 = true := by decide +kernel
set_option maxRecDepth 1000000 in
theorem am_ok_159 : am_okM 159 = true := by decide +kernel
