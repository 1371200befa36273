set_option maxRecDepth 1000000 in
theorem am_ok_255 : am_okM 255 = true := by decide +kernel
set_option maxRecDepth 1000000 in
theorem am_ok_256 : am_okM 256 = true := by decide +kernel
set_option maxRecDepth 1000000 in
theorem am_ok_257 : am_okM 257 = true := by decide +kernel
set_option maxRecDepth 1000000 in
theorem am_ok_258 : am_okM 258 = true := by decide +kernel
set_option maxRecDepth 1000000 in
theorem am_ok_259 : am_okM 259 = true := by decide +kernel
set_option maxRecDepth 1000000 in
theorem am_ok_260 : am_okM 260 = true := by decide +kernel
set_option maxRecDepth 1000000 in
theorem am_ok_261 : am_okM 261 = true := by decide +kernel
set_option maxRecDepth 1000000 in
theorem am_ok_262 : am_okM 262 = true := by decide +kernel
set_option maxRecDepth 1000000 in
theorem am_ok_263 : am_okM 263 = true := by decide +kernel
set_option maxRecDepth 1000000 in
theorem am_ok_264 : am_okM 264 = true := by decide +kernel
set_option maxRecDepth 1000000 in
theorem am_ok_265 : am_okM 265 = true := by decide +kernel
set_option maxRecDepth 1000000 in
theorem am_ok_266 : am_okM 266 = true := by decide +kernel
set_option maxRecDepth 1000000 in
theorem am_ok_267 : am_okM 267 = true := by decide +kernel
set_option maxRecDepth 1000000 in
theorem am_ok_268 : am_okM 268 = true := by decide +kernel
set_option maxRecDepth 1000000 in
theorem am_ok_269 : am_okM 269 = true := by decide +kernel
set_option maxRecDepth 1000000 in
theorem am_ok_270 : am_okM 270 = true := by decide +kernel
set_option maxRecDepth 1000000 in
theorem am_ok_271 : am_okM 271 = true := by decide +kernel
set_option maxRecDepth 1000000 in
theorem am_ok_272 : am_okM 272 = true := by decide +kernel
set_option maxRecDepth 1000000 in
theorem am_ok_273 : am_okM 273 = true := by decide +kernel
set_option maxRecDepth 1000000 in
theorem am_ok_274 : am_okM 274 = true := by decide +kernel
set_option maxRecDepth 1000000 in
theorem am_ok_275 : am_okM 275 = true := by decide +kernel
set_option maxRecDepth 1000000 in
theorem am_ok_276 : am_okM 276 = true := by decide +kernel
set_option maxRecDepth 1000000 in
theorem am_ok_277 : am_okM 277 = true := by decide +kernel
set_option maxRecDepth 1000000 in
theorem am_ok_278 : am_okM 278 = true := by decide +kernel
set_option maxRecDepth 1000000 in
theorem am_ok_279 : am_okM 279 = true := by decide +kernel
set_option maxRecDepth 1000000 in
theorem am_ok_280 : am_okM 280 = true := by decide +kernel
set_option maxRecDepth 1000000 in
theorem am_ok_281 : am_okM 281 = true := by decide +kernel
set_option maxRecDepth 1000000 in
theorem am_ok_282 : am_okM 282 = true := by decide +kernel
set_option maxRecDepth 1000000 in
theorem am_ok_283 : am_okM 283 = true := by decide +kernel
set_option maxRecDepth 1000000 in
theorem am_ok_284 : am_okM 284 = true := by decide +kernel
set_option maxRecDepth 1000000 in
theorem am_ok_285 : am_okM 285 = true := by decide +kernel
set_option maxRecDepth 1000000 in
theorem am_ok_286 : am_okM 286 = true := by decide +kernel
set_option maxRecDepth 1000000 in
theorem am_ok_287 : am_okM 287 = true := by decide +kernel
set_option maxRecDepth 1000000 in
theorem am_ok_288 : am_okM 288 = true := by decide +kernel
set_option maxRecDepth 1000000 in
theorem am_ok_289 : am_okM 289 = true := by decide +kernel
set_option maxRecDepth 1000000 in
theorem am_ok_290 : am_okM 290 = true := by decide +kernel
set_option maxRecDepth 1000000 in
theorem am_ok_291 : am_okM 291 = true := by decide +kernel
set_option maxRecDepth 1000000 in
theorem am_ok_292 : am_okM 292 = true := by decide +kernel
set_option maxRecDepth 1000000 in
theorem am_ok_293 : am_okM 293 = true := by decide +kernel
