set_option maxRecDepth 1000000 in
theorem am_ok_160 : am_okM 160 = true := by decide +kernel
set_option maxRecDepth 1000000 in
theorem am_ok_161 : am_okM 161 = true := by decide +kernel
set_option maxRecDepth 1000000 in
theorem am_ok_162 : am_okM 162 = true := by decide +kernel
set_option maxRecDepth 1000000 in
theorem am_ok_163 : am_okM 163 = true := by decide +kernel
set_option maxRecDepth 1000000 in
theorem am_ok_164 : am_okM 164 = true := by decide +kernel
set_option maxRecDepth 1000000 in
theorem am_ok_165 : am_okM 165 = true := by decide +kernel
set_option maxRecDepth 1000000 in
theorem am_ok_166 : am_okM 166 = true := by decide +kernel
set_option maxRecDepth 1000000 in
theorem am_ok_167 : am_okM 167 = true := by decide +kernel
set_option maxRecDepth 1000000 in
theorem am_ok_168 : am_okM 168 = true := by decide +kernel
set_option maxRecDepth 1000000 in
theorem am_ok_169 : am_okM 169 = true := by decide +kernel
set_option maxRecDepth 1000000 in
theorem am_ok_170 : am_okM 170 = true := by decide +kernel
set_option maxRecDepth 1000000 in
theorem am_ok_171 : am_okM 171 = true := by decide +kernel
set_option maxRecDepth 1000000 in
theorem am_ok_172 : am_okM 172 = true := by decide +kernel
set_option maxRecDepth 1000000 in
theorem am_ok_173 : am_okM 173 = true := by decide +kernel
set_option maxRecDepth 1000000 in
theorem am_ok_174 : am_okM 174 = true := by decide +kernel
set_option maxRecDepth 1000000 in
theorem am_ok_175 : am_okM 175 = true := by decide +kernel
set_option maxRecDepth 1000000 in
theorem am_ok_176 : am_okM 176 = true := by decide +kernel
set_option maxRecDepth 1000000 in
theorem am_ok_177 : am_okM 177 = true := by decide +kernel
set_option maxRecDepth 1000000 in
theorem am_ok_178 : am_okM 178 = true := by decide +kernel
set_option maxRecDepth 1000000 in
theorem am_ok_179 : am_okM 179 = true := by decide +kernel
set_option maxRecDepth 1000000 in
theorem am_ok_180 : am_okM 180 = true := by decide +kernel
set_option maxRecDepth 1000000 in
theorem am_ok_181 : am_okM 181 = true := by decide +kernel
set_option maxRecDepth 1000000 in
theorem am_ok_182 : am_okM 182 = true := by decide +kernel
set_option maxRecDepth 1000000 in
theorem am_ok_183 : am_okM 183 = true := by decide +kernel
set_option maxRecDepth 1000000 in
theorem am_ok_184 : am_okM 184 = true := by decide +kernel
set_option maxRecDepth 1000000 in
theorem am_ok_185 : am_okM 185 = true := by decide +kernel
set_option maxRecDepth 1000000 in
theorem am_ok_186 : am_okM 186 = true := by decide +kernel
set_option maxRecDepth 1000000 in
theorem am_ok_187 : am_okM 187 = true := by decide +kernel
set_option maxRecDepth 1000000 in
theorem am_ok_188 : am_okM 188 = true := by decide +kernel
set_option maxRecDepth 1000000 in
theorem am_ok_189 : am_okM 189 = true := by decide +kernel
set_option maxRecDepth 1000000 in
theorem am_ok_190 : am_okM 190 = true := by decide +kernel
set_option maxRecDepth 1000000 in
theorem am_ok_191 : am_okM 191 = true := by decide +kernel
set_option maxRecDepth 1000000 in
theorem am_ok_192 : am_okM 192 = true := by decide +kernel
set_option maxRecDepth 1000000 in
theorem am_ok_193 : am_okM 193 = true := by decide +kernel
set_option maxRecDepth 1000000 in
theorem am_ok_194 : am_okM 194 = true := by decide +kernel
set_option maxRecDepth 1000000 in
theorem am_ok_195 : am_okM 195 = true := by decide +kernel
set_option maxRecDepth 1000000 in
theorem am_ok_196 : am_okM 196 = true := by decide +kernel
