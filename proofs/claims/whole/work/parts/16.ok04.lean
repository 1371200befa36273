set_option maxRecDepth 1000000 in
theorem am_ok_197 : am_okM 197 = true := by decide +kernel
set_option maxRecDepth 1000000 in
theorem am_ok_198 : am_okM 198 = true := by decide +kernel
set_option maxRecDepth 1000000 in
theorem am_ok_199 : am_okM 199 = true := by decide +kernel
set_option maxRecDepth 1000000 in
theorem am_ok_200 : am_okM 200 = true := by decide +kernel
set_option maxRecDepth 1000000 in
theorem am_ok_201 : am_okM 201 = true := by decide +kernel
set_option maxRecDepth 1000000 in
theorem am_ok_202 : am_okM 202 = true := by decide +kernel
set_option maxRecDepth 1000000 in
theorem am_ok_203 : am_okM 203 = true := by decide +kernel
set_option maxRecDepth 1000000 in
theorem am_ok_204 : am_okM 204 = true := by decide +kernel
set_option maxRecDepth 1000000 in
theorem am_ok_205 : am_okM 205 = true := by decide +kernel
set_option maxRecDepth 1000000 in
theorem am_ok_206 : am_okM 206 = true := by decide +kernel
set_option maxRecDepth 1000000 in
theorem am_ok_207 : am_okM 207 = true := by decide +kernel
set_option maxRecDepth 1000000 in
theorem am_ok_208 : am_okM 208 = true := by decide +kernel
set_option maxRecDepth 1000000 in
theorem am_ok_209 : am_okM 209 = true := by decide +kernel
set_option maxRecDepth 1000000 in
theorem am_ok_210 : am_okM 210 = true := by decide +kernel
set_option maxRecDepth 1000000 in
theorem am_ok_211 : am_okM 211 = true := by decide +kernel
set_option maxRecDepth 1000000 in
theorem am_ok_212 : am_okM 212 = true := by decide +kernel
set_option maxRecDepth 1000000 in
theorem am_ok_213 : am_okM 213 = true := by decide +kernel
set_option maxRecDepth 1000000 in
theorem am_ok_214 : am_okM 214 = true := by decide +kernel
set_option maxRecDepth 1000000 in
theorem am_ok_215 : am_okM 215 = true := by decide +kernel
set_option maxRecDepth 1000000 in
theorem am_ok_216 : am_okM 216 = true := by decide +kernel
set_option maxRecDepth 1000000 in
theorem am_ok_217 : am_okM 217 = true := by decide +kernel
set_option maxRecDepth 1000000 in
theorem am_ok_218 : am_okM 218 = true := by decide +kernel
set_option maxRecDepth 1000000 in
theorem am_ok_219 : am_okM 219 = true := by decide +kernel
set_option maxRecDepth 1000000 in
theorem am_ok_220 : am_okM 220 = true := by decide +kernel
set_option maxRecDepth 1000000 in
theorem am_ok_221 : am_okM 221 = true := by decide +kernel
set_option maxRecDepth 1000000 in
theorem am_ok_222 : am_okM 222 = true := by decide +kernel
set_option maxRecDepth 1000000 in
theorem am_ok_223 : am_okM 223 = true := by decide +kernel
set_option maxRecDepth 1000000 in
theorem am_ok_224 : am_okM 224 = true := by decide +kernel
set_option maxRecDepth 1000000 in
theorem am_ok_225 : am_okM 225 = true := by decide +kernel
set_option maxRecDepth 1000000 in
theorem am_ok_226 : am_okM 226 = true := by decide +kernel
set_option maxRecDepth 1000000 in
theorem am_ok_227 : am_okM 227 = true := by decide +kernel
set_option maxRecDepth 1000000 in
theorem am_ok_228 : am_okM 228 = true := by decide +kernel
set_option maxRecDepth 1000000 in
theorem am_ok_229 : am_okM 229 = true := by decide +kernel
set_option maxRecDepth 1000000 in
theorem am_ok_230 : am_okM 230 = true := by decide +kernel
set_option maxRecDepth 1000000 in
theorem am_ok_231 : am_okM 231 = true := by decide +kernel
set_option maxRecDepth 1000000 in
theorem am_ok_232 : am_okM 232 = true := by decide +kernel
set_option maxRecDepth 1000000 in
theorem am_ok_233 : am_okM 233 = true := by decide +kernel
set_option maxRecDepth 1000000 in
theorem am_ok_234 : am_okM 234 = true := by decide +kernel
set_option maxRecDepth 1000000 in
theorem am_ok_235 : am_okM 235 = true := by decide +kernel
set_option maxRecDepth 1000000 in
theorem am_ok_236 : am_okM 236 = true := by decide +kernel
set_option maxRecDepth 1000000 in
theorem am_ok_237 : am_okM 237 = true := by decide +kernel
set_option maxRecDepth 1000000 in
theorem am_ok_238 : am_okM 238 = true := by decide +kernel
set_option maxRecDepth 1000000 in
theorem am_ok_239 : am_okM 239 = true := by decide +kernel
set_option maxRecDepth 1000000 in
theorem am_ok_240 : am_okM 240 = true := by decide +kernel
set_option maxRecDepth 1000000 in
theorem am_ok_241 : am_okM 241 = true := by decide +kernel
set_option maxRecDepth 1000000 in
theorem am_ok_242 : am_okM 242 = true := by decide +kernel
set_option maxRecDepth 1000000 in
theorem am_ok_243 : am_okM 243 = true := by decide +kernel
set_option maxRecDepth 1000000 in
theorem am_ok_244 : am_okM 244 = true := by decide +kernel
set_option maxRecDepth 1000000 in
theorem am_ok_245 : am_okM 245 = true := by decide +kernel
set_option maxRecDepth 1000000 in
theorem am_ok_246 : am_okM 246 = true := by decide +kernel
set_option maxRecDepth 1000000 in
theorem am_ok_247 : am_okM 247 = true := by decide +kernel
set_option maxRecDepth 1000000 in
theorem am_ok_248 : am_okM 248 = true := by decide +kernel
set_option maxRecDepth 1000000 in
theorem am_ok_249 : am_okM 249 = true := by decide +kernel
set_option maxRecDepth 1000000 in
theorem am_ok_250 : am_okM 250 = true := by decide +kernel
set_option maxRecDepth 1000000 in
theorem am_ok_251 : am_okM 251 = true := by decide +kernel
set_option maxRecDepth 1000000 in
theorem am_ok_252 : am_okM 252 = true := by decide +kernel
set_option maxRecDepth 1000000 in
theorem am_ok_253 : am_okM 253 = true := by decide +kernel
set_option maxRecDepth 1000000 in
theorem am_ok_254 : am_okM 254 = true := by decide +kernel
