set_option maxRecDepth 100000 in
theorem al_d0 : decode code 0 = .ok (.new 7, 3) := by decide +kernel
set_option maxRecDepth 100000 in
theorem al_d3 : decode code 3 = .ok (.dup, 1) := by decide +kernel
set_option maxRecDepth 100000 in
theorem al_d4 : decode code 4 = .ok (.invokespecial 9, 3) := by decide +kernel
set_option maxRecDepth 100000 in
theorem al_d7 : decode code 7 = .ok (.astore_n 1, 1) := by decide +kernel
set_option maxRecDepth 100000 in
theorem al_d8 : decode code 8 = .ok (.new 10, 3) := by decide +kernel
set_option maxRecDepth 100000 in
theorem al_d11 : decode code 11 = .ok (.dup, 1) := by decide +kernel
set_option maxRecDepth 100000 in
theorem al_d12 : decode code 12 = .ok (.invokespecial 12, 3) := by decide +kernel
set_option maxRecDepth 100000 in
theorem al_d15 : decode code 15 = .ok (.astore_n 2, 1) := by decide +kernel
set_option maxRecDepth 100000 in
theorem al_d16 : decode code 16 = .ok (.iconst 0, 1) := by decide +kernel
set_option maxRecDepth 100000 in
theorem al_d17 : decode code 17 = .ok (.istore_n 3, 1) := by decide +kernel
set_option maxRecDepth 100000 in
theorem al_d18 : decode code 18 = .ok (.iload_n 3, 1) := by decide +kernel
set_option maxRecDepth 100000 in
theorem al_d19 : decode code 19 = .ok (.aload_n 0, 1) := by decide +kernel
set_option maxRecDepth 100000 in
theorem al_d20 : decode code 20 = .ok (.arraylength, 1) := by decide +kernel
set_option maxRecDepth 100000 in
theorem al_d21 : decode code 21 = .ok (.bipush 6, 2) := by decide +kernel
set_option maxRecDepth 100000 in
theorem al_d23 : decode code 23 = .ok (.isub, 1) := by decide +kernel
set_option maxRecDepth 100000 in
theorem al_d24 : decode code 24 = .ok (.if_icmp .gt 1043, 3) := by decide +kernel
set_option maxRecDepth 100000 in
theorem al_d27 : decode code 27 = .ok (.aload_n 0, 1) := by decide +kernel
set_option maxRecDepth 100000 in
theorem al_d28 : decode code 28 = .ok (.iload_n 3, 1) := by decide +kernel
set_option maxRecDepth 100000 in
theorem al_d29 : decode code 29 = .ok (.iaload, 1) := by decide +kernel
set_option maxRecDepth 100000 in
theorem al_d30 : decode code 30 = .ok (.bipush 63, 2) := by decide +kernel
set_option maxRecDepth 100000 in
theorem al_d32 : decode code 32 = .ok (.iand, 1) := by decide +kernel
set_option maxRecDepth 100000 in
theorem al_d33 : decode code 33 = .ok (.tableswitch 1028 0 32 #[147, 210, 233, 246, 269, 292, 335, 368, 401, 434, 467, 500, 533, 566, 589, 622, 656, 679, 692, 725, 748, 781, 804, 837, 860, 883, 906, 919, 942, 956, 969, 992, 1005], 147) := by decide +kernel
set_option maxRecDepth 100000 in
theorem al_d180 : decode code 180 = .ok (.aload_n 1, 1) := by decide +kernel
set_option maxRecDepth 100000 in
theorem al_d181 : decode code 181 = .ok (.aload_n 0, 1) := by decide +kernel
set_option maxRecDepth 100000 in
theorem al_d182 : decode code 182 = .ok (.iload_n 3, 1) := by decide +kernel
set_option maxRecDepth 100000 in
theorem al_d183 : decode code 183 = .ok (.iconst 1, 1) := by decide +kernel
set_option maxRecDepth 100000 in
theorem al_d184 : decode code 184 = .ok (.iadd, 1) := by decide +kernel
set_option maxRecDepth 100000 in
theorem al_d185 : decode code 185 = .ok (.iaload, 1) := by decide +kernel
set_option maxRecDepth 100000 in
theorem al_d186 : decode code 186 = .ok (.aload_n 0, 1) := by decide +kernel
set_option maxRecDepth 100000 in
theorem al_d187 : decode code 187 = .ok (.iload_n 3, 1) := by decide +kernel
set_option maxRecDepth 100000 in
theorem al_d188 : decode code 188 = .ok (.iconst 2, 1) := by decide +kernel
set_option maxRecDepth 100000 in
theorem al_d189 : decode code 189 = .ok (.iadd, 1) := by decide +kernel
set_option maxRecDepth 100000 in
theorem al_d190 : decode code 190 = .ok (.iaload, 1) := by decide +kernel
set_option maxRecDepth 100000 in
theorem al_d191 : decode code 191 = .ok (.aload_n 0, 1) := by decide +kernel
set_option maxRecDepth 100000 in
theorem al_d192 : decode code 192 = .ok (.iload_n 3, 1) := by decide +kernel
set_option maxRecDepth 100000 in
theorem al_d193 : decode code 193 = .ok (.iconst 3, 1) := by decide +kernel
set_option maxRecDepth 100000 in
theorem al_d194 : decode code 194 = .ok (.iadd, 1) := by decide +kernel
set_option maxRecDepth 100000 in
theorem al_d195 : decode code 195 = .ok (.iaload, 1) := by decide +kernel
set_option maxRecDepth 100000 in
theorem al_d196 : decode code 196 = .ok (.aload_n 0, 1) := by decide +kernel
set_option maxRecDepth 100000 in
theorem al_d197 : decode code 197 = .ok (.iload_n 3, 1) := by decide +kernel
set_option maxRecDepth 100000 in
theorem al_d198 : decode code 198 = .ok (.iconst 4, 1) := by decide +kernel
set_option maxRecDepth 100000 in
theorem al_d199 : decode code 199 = .ok (.iadd, 1) := by decide +kernel
set_option maxRecDepth 100000 in
theorem al_d200 : decode code 200 = .ok (.iaload, 1) := by decide +kernel
set_option maxRecDepth 100000 in
theorem al_d201 : decode code 201 = .ok (.aload_n 0, 1) := by decide +kernel
set_option maxRecDepth 100000 in
theorem al_d202 : decode code 202 = .ok (.iload_n 3, 1) := by decide +kernel
set_option maxRecDepth 100000 in
theorem al_d203 : decode code 203 = .ok (.iconst 5, 1) := by decide +kernel
set_option maxRecDepth 100000 in
theorem al_d204 : decode code 204 = .ok (.iadd, 1) := by decide +kernel
set_option maxRecDepth 100000 in
theorem al_d205 : decode code 205 = .ok (.iaload, 1) := by decide +kernel
set_option maxRecDepth 100000 in
theorem al_d206 : decode code 206 = .ok (.invokevirtual 13, 3) := by decide +kernel
set_option maxRecDepth 100000 in
theorem al_d209 : decode code 209 = .ok (.aload_n 2, 1) := by decide +kernel
set_option maxRecDepth 100000 in
theorem al_d210 : decode code 210 = .ok (.aload_n 0, 1) := by decide +kernel
set_option maxRecDepth 100000 in
theorem al_d211 : decode code 211 = .ok (.iload_n 3, 1) := by decide +kernel
set_option maxRecDepth 100000 in
theorem al_d212 : decode code 212 = .ok (.iconst 1, 1) := by decide +kernel
set_option maxRecDepth 100000 in
theorem al_d213 : decode code 213 = .ok (.iadd, 1) := by decide +kernel
set_option maxRecDepth 100000 in
theorem al_d214 : decode code 214 = .ok (.iaload, 1) := by decide +kernel
set_option maxRecDepth 100000 in
theorem al_d215 : decode code 215 = .ok (.aload_n 0, 1) := by decide +kernel
set_option maxRecDepth 100000 in
theorem al_d216 : decode code 216 = .ok (.iload_n 3, 1) := by decide +kernel
set_option maxRecDepth 100000 in
theorem al_d217 : decode code 217 = .ok (.iconst 2, 1) := by decide +kernel
set_option maxRecDepth 100000 in
theorem al_d218 : decode code 218 = .ok (.iadd, 1) := by decide +kernel
set_option maxRecDepth 100000 in
theorem al_d219 : decode code 219 = .ok (.iaload, 1) := by decide +kernel
set_option maxRecDepth 100000 in
theorem al_d220 : decode code 220 = .ok (.aload_n 0, 1) := by decide +kernel
set_option maxRecDepth 100000 in
theorem al_d221 : decode code 221 = .ok (.iload_n 3, 1) := by decide +kernel
set_option maxRecDepth 100000 in
theorem al_d222 : decode code 222 = .ok (.iconst 3, 1) := by decide +kernel
set_option maxRecDepth 100000 in
theorem al_d223 : decode code 223 = .ok (.iadd, 1) := by decide +kernel
set_option maxRecDepth 100000 in
theorem al_d224 : decode code 224 = .ok (.iaload, 1) := by decide +kernel
set_option maxRecDepth 100000 in
theorem al_d225 : decode code 225 = .ok (.aload_n 0, 1) := by decide +kernel
set_option maxRecDepth 100000 in
theorem al_d226 : decode code 226 = .ok (.iload_n 3, 1) := by decide +kernel
set_option maxRecDepth 100000 in
theorem al_d227 : decode code 227 = .ok (.iconst 4, 1) := by decide +kernel
set_option maxRecDepth 100000 in
theorem al_d228 : decode code 228 = .ok (.iadd, 1) := by decide +kernel
set_option maxRecDepth 100000 in
theorem al_d229 : decode code 229 = .ok (.iaload, 1) := by decide +kernel
set_option maxRecDepth 100000 in
theorem al_d230 : decode code 230 = .ok (.aload_n 0, 1) := by decide +kernel
set_option maxRecDepth 100000 in
theorem al_d231 : decode code 231 = .ok (.iload_n 3, 1) := by decide +kernel
set_option maxRecDepth 100000 in
theorem al_d232 : decode code 232 = .ok (.iconst 5, 1) := by decide +kernel
set_option maxRecDepth 100000 in
theorem al_d233 : decode code 233 = .ok (.iadd, 1) := by decide +kernel
set_option maxRecDepth 100000 in
theorem al_d234 : decode code 234 = .ok (.iaload, 1) := by decide +kernel
set_option maxRecDepth 100000 in
theorem al_d235 : decode code 235 = .ok (.invokevirtual 17, 3) := by decide +kernel
set_option maxRecDepth 100000 in
theorem al_d238 : decode code 238 = .ok (.if_icmp .eq 823, 3) := by decide +kernel
set_option maxRecDepth 100000 in
theorem al_d241 : decode code 241 = .ok (.iconst 0, 1) := by decide +kernel
set_option maxRecDepth 100000 in
theorem al_d242 : decode code 242 = .ok (.ireturn, 1) := by decide +kernel
set_option maxRecDepth 100000 in
theorem al_d243 : decode code 243 = .ok (.aload_n 1, 1) := by decide +kernel
set_option maxRecDepth 100000 in
theorem al_d244 : decode code 244 = .ok (.aload_n 0, 1) := by decide +kernel
set_option maxRecDepth 100000 in
theorem al_d245 : decode code 245 = .ok (.iload_n 3, 1) := by decide +kernel
set_option maxRecDepth 100000 in
theorem al_d246 : decode code 246 = .ok (.iconst 1, 1) := by decide +kernel
set_option maxRecDepth 100000 in
theorem al_d247 : decode code 247 = .ok (.iadd, 1) := by decide +kernel
set_option maxRecDepth 100000 in
theorem al_d248 : decode code 248 = .ok (.iaload, 1) := by decide +kernel
set_option maxRecDepth 100000 in
theorem al_d249 : decode code 249 = .ok (.invokevirtual 18, 3) := by decide +kernel
set_option maxRecDepth 100000 in
theorem al_d252 : decode code 252 = .ok (.aload_n 2, 1) := by decide +kernel
set_option maxRecDepth 100000 in
theorem al_d253 : decode code 253 = .ok (.aload_n 0, 1) := by decide +kernel
set_option maxRecDepth 100000 in
theorem al_d254 : decode code 254 = .ok (.iload_n 3, 1) := by decide +kernel
set_option maxRecDepth 100000 in
theorem al_d255 : decode code 255 = .ok (.iconst 1, 1) := by decide +kernel
set_option maxRecDepth 100000 in
theorem al_d256 : decode code 256 = .ok (.iadd, 1) := by decide +kernel
set_option maxRecDepth 100000 in
theorem al_d257 : decode code 257 = .ok (.iaload, 1) := by decide +kernel
set_option maxRecDepth 100000 in
theorem al_d258 : decode code 258 = .ok (.invokevirtual 22, 3) := by decide +kernel
set_option maxRecDepth 100000 in
theorem al_d261 : decode code 261 = .ok (.if_icmp .eq 800, 3) := by decide +kernel
set_option maxRecDepth 100000 in
theorem al_d264 : decode code 264 = .ok (.iconst 0, 1) := by decide +kernel
set_option maxRecDepth 100000 in
theorem al_d265 : decode code 265 = .ok (.ireturn, 1) := by decide +kernel
set_option maxRecDepth 100000 in
theorem al_d266 : decode code 266 = .ok (.aload_n 1, 1) := by decide +kernel
set_option maxRecDepth 100000 in
theorem al_d267 : decode code 267 = .ok (.invokevirtual 23, 3) := by decide +kernel
set_option maxRecDepth 100000 in
theorem al_d270 : decode code 270 = .ok (.aload_n 2, 1) := by decide +kernel
set_option maxRecDepth 100000 in
theorem al_d271 : decode code 271 = .ok (.invokevirtual 27, 3) := by decide +kernel
set_option maxRecDepth 100000 in
theorem al_d274 : decode code 274 = .ok (.if_icmp .eq 787, 3) := by decide +kernel
set_option maxRecDepth 100000 in
theorem al_d277 : decode code 277 = .ok (.iconst 0, 1) := by decide +kernel
set_option maxRecDepth 100000 in
theorem al_d278 : decode code 278 = .ok (.ireturn, 1) := by decide +kernel
set_option maxRecDepth 100000 in
theorem al_d279 : decode code 279 = .ok (.aload_n 1, 1) := by decide +kernel
set_option maxRecDepth 100000 in
theorem al_d280 : decode code 280 = .ok (.aload_n 0, 1) := by decide +kernel
set_option maxRecDepth 100000 in
theorem al_d281 : decode code 281 = .ok (.iload_n 3, 1) := by decide +kernel
set_option maxRecDepth 100000 in
theorem al_d282 : decode code 282 = .ok (.iconst 1, 1) := by decide +kernel
set_option maxRecDepth 100000 in
theorem al_d283 : decode code 283 = .ok (.iadd, 1) := by decide +kernel
set_option maxRecDepth 100000 in
theorem al_d284 : decode code 284 = .ok (.iaload, 1) := by decide +kernel
set_option maxRecDepth 100000 in
theorem al_d285 : decode code 285 = .ok (.invokevirtual 28, 3) := by decide +kernel
set_option maxRecDepth 100000 in
theorem al_d288 : decode code 288 = .ok (.aload_n 2, 1) := by decide +kernel
set_option maxRecDepth 100000 in
theorem al_d289 : decode code 289 = .ok (.aload_n 0, 1) := by decide +kernel
set_option maxRecDepth 100000 in
theorem al_d290 : decode code 290 = .ok (.iload_n 3, 1) := by decide +kernel
set_option maxRecDepth 100000 in
theorem al_d291 : decode code 291 = .ok (.iconst 1, 1) := by decide +kernel
set_option maxRecDepth 100000 in
theorem al_d292 : decode code 292 = .ok (.iadd, 1) := by decide +kernel
set_option maxRecDepth 100000 in
theorem al_d293 : decode code 293 = .ok (.iaload, 1) := by decide +kernel
set_option maxRecDepth 100000 in
theorem al_d294 : decode code 294 = .ok (.invokevirtual 32, 3) := by decide +kernel
set_option maxRecDepth 100000 in
theorem al_d297 : decode code 297 = .ok (.if_icmp .eq 764, 3) := by decide +kernel
set_option maxRecDepth 100000 in
theorem al_d300 : decode code 300 = .ok (.iconst 0, 1) := by decide +kernel
set_option maxRecDepth 100000 in
theorem al_d301 : decode code 301 = .ok (.ireturn, 1) := by decide +kernel
set_option maxRecDepth 100000 in
theorem al_d302 : decode code 302 = .ok (.aload_n 1, 1) := by decide +kernel
set_option maxRecDepth 100000 in
theorem al_d303 : decode code 303 = .ok (.aload_n 0, 1) := by decide +kernel
set_option maxRecDepth 100000 in
theorem al_d304 : decode code 304 = .ok (.iload_n 3, 1) := by decide +kernel
set_option maxRecDepth 100000 in
theorem al_d305 : decode code 305 = .ok (.iconst 1, 1) := by decide +kernel
set_option maxRecDepth 100000 in
theorem al_d306 : decode code 306 = .ok (.iadd, 1) := by decide +kernel
set_option maxRecDepth 100000 in
theorem al_d307 : decode code 307 = .ok (.iaload, 1) := by decide +kernel
set_option maxRecDepth 100000 in
theorem al_d308 : decode code 308 = .ok (.invokevirtual 33, 3) := by decide +kernel
set_option maxRecDepth 100000 in
theorem al_d311 : decode code 311 = .ok (.aload_n 2, 1) := by decide +kernel
set_option maxRecDepth 100000 in
theorem al_d312 : decode code 312 = .ok (.aload_n 0, 1) := by decide +kernel
set_option maxRecDepth 100000 in
theorem al_d313 : decode code 313 = .ok (.iload_n 3, 1) := by decide +kernel
set_option maxRecDepth 100000 in
theorem al_d314 : decode code 314 = .ok (.iconst 1, 1) := by decide +kernel
set_option maxRecDepth 100000 in
theorem al_d315 : decode code 315 = .ok (.iadd, 1) := by decide +kernel
set_option maxRecDepth 100000 in
theorem al_d316 : decode code 316 = .ok (.iaload, 1) := by decide +kernel
set_option maxRecDepth 100000 in
theorem al_d317 : decode code 317 = .ok (.invokevirtual 36, 3) := by decide +kernel
set_option maxRecDepth 100000 in
theorem al_d320 : decode code 320 = .ok (.if_icmp .eq 741, 3) := by decide +kernel
set_option maxRecDepth 100000 in
theorem al_d323 : decode code 323 = .ok (.iconst 0, 1) := by decide +kernel
set_option maxRecDepth 100000 in
theorem al_d324 : decode code 324 = .ok (.ireturn, 1) := by decide +kernel
set_option maxRecDepth 100000 in
theorem al_d325 : decode code 325 = .ok (.aload_n 1, 1) := by decide +kernel
set_option maxRecDepth 100000 in
theorem al_d326 : decode code 326 = .ok (.aload_n 0, 1) := by decide +kernel
set_option maxRecDepth 100000 in
theorem al_d327 : decode code 327 = .ok (.iload_n 3, 1) := by decide +kernel
set_option maxRecDepth 100000 in
theorem al_d328 : decode code 328 = .ok (.iconst 1, 1) := by decide +kernel
set_option maxRecDepth 100000 in
theorem al_d329 : decode code 329 = .ok (.iadd, 1) := by decide +kernel
set_option maxRecDepth 100000 in
theorem al_d330 : decode code 330 = .ok (.iaload, 1) := by decide +kernel
set_option maxRecDepth 100000 in
theorem al_d331 : decode code 331 = .ok (.aload_n 0, 1) := by decide +kernel
set_option maxRecDepth 100000 in
theorem al_d332 : decode code 332 = .ok (.iload_n 3, 1) := by decide +kernel
set_option maxRecDepth 100000 in
theorem al_d333 : decode code 333 = .ok (.iconst 2, 1) := by decide +kernel
set_option maxRecDepth 100000 in
theorem al_d334 : decode code 334 = .ok (.iadd, 1) := by decide +kernel
set_option maxRecDepth 100000 in
theorem al_d335 : decode code 335 = .ok (.iaload, 1) := by decide +kernel
set_option maxRecDepth 100000 in
theorem al_d336 : decode code 336 = .ok (.aload_n 0, 1) := by decide +kernel
set_option maxRecDepth 100000 in
theorem al_d337 : decode code 337 = .ok (.iload_n 3, 1) := by decide +kernel
set_option maxRecDepth 100000 in
theorem al_d338 : decode code 338 = .ok (.iconst 3, 1) := by decide +kernel
set_option maxRecDepth 100000 in
theorem al_d339 : decode code 339 = .ok (.iadd, 1) := by decide +kernel
set_option maxRecDepth 100000 in
theorem al_d340 : decode code 340 = .ok (.iaload, 1) := by decide +kernel
set_option maxRecDepth 100000 in
theorem al_d341 : decode code 341 = .ok (.invokevirtual 37, 3) := by decide +kernel
set_option maxRecDepth 100000 in
theorem al_d344 : decode code 344 = .ok (.aload_n 2, 1) := by decide +kernel
set_option maxRecDepth 100000 in
theorem al_d345 : decode code 345 = .ok (.aload_n 0, 1) := by decide +kernel
set_option maxRecDepth 100000 in
theorem al_d346 : decode code 346 = .ok (.iload_n 3, 1) := by decide +kernel
set_option maxRecDepth 100000 in
theorem al_d347 : decode code 347 = .ok (.iconst 1, 1) := by decide +kernel
set_option maxRecDepth 100000 in
theorem al_d348 : decode code 348 = .ok (.iadd, 1) := by decide +kernel
set_option maxRecDepth 100000 in
theorem al_d349 : decode code 349 = .ok (.iaload, 1) := by decide +kernel
set_option maxRecDepth 100000 in
theorem al_d350 : decode code 350 = .ok (.aload_n 0, 1) := by decide +kernel
set_option maxRecDepth 100000 in
theorem al_d351 : decode code 351 = .ok (.iload_n 3, 1) := by decide +kernel
set_option maxRecDepth 100000 in
theorem al_d352 : decode code 352 = .ok (.iconst 2, 1) := by decide +kernel
set_option maxRecDepth 100000 in
theorem al_d353 : decode code 353 = .ok (.iadd, 1) := by decide +kernel
set_option maxRecDepth 100000 in
theorem al_d354 : decode code 354 = .ok (.iaload, 1) := by decide +kernel
set_option maxRecDepth 100000 in
theorem al_d355 : decode code 355 = .ok (.aload_n 0, 1) := by decide +kernel
set_option maxRecDepth 100000 in
theorem al_d356 : decode code 356 = .ok (.iload_n 3, 1) := by decide +kernel
set_option maxRecDepth 100000 in
theorem al_d357 : decode code 357 = .ok (.iconst 3, 1) := by decide +kernel
set_option maxRecDepth 100000 in
theorem al_d358 : decode code 358 = .ok (.iadd, 1) := by decide +kernel
set_option maxRecDepth 100000 in
theorem al_d359 : decode code 359 = .ok (.iaload, 1) := by decide +kernel
set_option maxRecDepth 100000 in
theorem al_d360 : decode code 360 = .ok (.invokevirtual 41, 3) := by decide +kernel
set_option maxRecDepth 100000 in
theorem al_d363 : decode code 363 = .ok (.if_icmp .eq 698, 3) := by decide +kernel
set_option maxRecDepth 100000 in
theorem al_d366 : decode code 366 = .ok (.iconst 0, 1) := by decide +kernel
set_option maxRecDepth 100000 in
theorem al_d367 : decode code 367 = .ok (.ireturn, 1) := by decide +kernel
set_option maxRecDepth 100000 in
theorem al_d368 : decode code 368 = .ok (.aload_n 1, 1) := by decide +kernel
set_option maxRecDepth 100000 in
theorem al_d369 : decode code 369 = .ok (.aload_n 0, 1) := by decide +kernel
set_option maxRecDepth 100000 in
theorem al_d370 : decode code 370 = .ok (.iload_n 3, 1) := by decide +kernel
set_option maxRecDepth 100000 in
theorem al_d371 : decode code 371 = .ok (.iconst 1, 1) := by decide +kernel
set_option maxRecDepth 100000 in
theorem al_d372 : decode code 372 = .ok (.iadd, 1) := by decide +kernel
set_option maxRecDepth 100000 in
theorem al_d373 : decode code 373 = .ok (.iaload, 1) := by decide +kernel
set_option maxRecDepth 100000 in
theorem al_d374 : decode code 374 = .ok (.aload_n 0, 1) := by decide +kernel
set_option maxRecDepth 100000 in
theorem al_d375 : decode code 375 = .ok (.iload_n 3, 1) := by decide +kernel
set_option maxRecDepth 100000 in
theorem al_d376 : decode code 376 = .ok (.iconst 2, 1) := by decide +kernel
set_option maxRecDepth 100000 in
theorem al_d377 : decode code 377 = .ok (.iadd, 1) := by decide +kernel
set_option maxRecDepth 100000 in
theorem al_d378 : decode code 378 = .ok (.iaload, 1) := by decide +kernel
set_option maxRecDepth 100000 in
theorem al_d379 : decode code 379 = .ok (.invokevirtual 42, 3) := by decide +kernel
set_option maxRecDepth 100000 in
theorem al_d382 : decode code 382 = .ok (.aload_n 2, 1) := by decide +kernel
set_option maxRecDepth 100000 in
theorem al_d383 : decode code 383 = .ok (.aload_n 0, 1) := by decide +kernel
set_option maxRecDepth 100000 in
theorem al_d384 : decode code 384 = .ok (.iload_n 3, 1) := by decide +kernel
set_option maxRecDepth 100000 in
theorem al_d385 : decode code 385 = .ok (.iconst 1, 1) := by decide +kernel
set_option maxRecDepth 100000 in
theorem al_d386 : decode code 386 = .ok (.iadd, 1) := by decide +kernel
set_option maxRecDepth 100000 in
theorem al_d387 : decode code 387 = .ok (.iaload, 1) := by decide +kernel
set_option maxRecDepth 100000 in
theorem al_d388 : decode code 388 = .ok (.aload_n 0, 1) := by decide +kernel
set_option maxRecDepth 100000 in
theorem al_d389 : decode code 389 = .ok (.iload_n 3, 1) := by decide +kernel
set_option maxRecDepth 100000 in
theorem al_d390 : decode code 390 = .ok (.iconst 2, 1) := by decide +kernel
set_option maxRecDepth 100000 in
theorem al_d391 : decode code 391 = .ok (.iadd, 1) := by decide +kernel
set_option maxRecDepth 100000 in
theorem al_d392 : decode code 392 = .ok (.iaload, 1) := by decide +kernel
set_option maxRecDepth 100000 in
theorem al_d393 : decode code 393 = .ok (.invokevirtual 46, 3) := by decide +kernel
set_option maxRecDepth 100000 in
theorem al_d396 : decode code 396 = .ok (.if_icmp .eq 665, 3) := by decide +kernel
set_option maxRecDepth 100000 in
theorem al_d399 : decode code 399 = .ok (.iconst 0, 1) := by decide +kernel
set_option maxRecDepth 100000 in
theorem al_d400 : decode code 400 = .ok (.ireturn, 1) := by decide +kernel
set_option maxRecDepth 100000 in
theorem al_d401 : decode code 401 = .ok (.aload_n 1, 1) := by decide +kernel
set_option maxRecDepth 100000 in
theorem al_d402 : decode code 402 = .ok (.aload_n 0, 1) := by decide +kernel
set_option maxRecDepth 100000 in
theorem al_d403 : decode code 403 = .ok (.iload_n 3, 1) := by decide +kernel
set_option maxRecDepth 100000 in
theorem al_d404 : decode code 404 = .ok (.iconst 1, 1) := by decide +kernel
set_option maxRecDepth 100000 in
theorem al_d405 : decode code 405 = .ok (.iadd, 1) := by decide +kernel
set_option maxRecDepth 100000 in
theorem al_d406 : decode code 406 = .ok (.iaload, 1) := by decide +kernel
set_option maxRecDepth 100000 in
theorem al_d407 : decode code 407 = .ok (.aload_n 0, 1) := by decide +kernel
set_option maxRecDepth 100000 in
theorem al_d408 : decode code 408 = .ok (.iload_n 3, 1) := by decide +kernel
set_option maxRecDepth 100000 in
theorem al_d409 : decode code 409 = .ok (.iconst 2, 1) := by decide +kernel
set_option maxRecDepth 100000 in
theorem al_d410 : decode code 410 = .ok (.iadd, 1) := by decide +kernel
set_option maxRecDepth 100000 in
theorem al_d411 : decode code 411 = .ok (.iaload, 1) := by decide +kernel
set_option maxRecDepth 100000 in
theorem al_d412 : decode code 412 = .ok (.invokevirtual 47, 3) := by decide +kernel
set_option maxRecDepth 100000 in
theorem al_d415 : decode code 415 = .ok (.aload_n 2, 1) := by decide +kernel
set_option maxRecDepth 100000 in
theorem al_d416 : decode code 416 = .ok (.aload_n 0, 1) := by decide +kernel
set_option maxRecDepth 100000 in
theorem al_d417 : decode code 417 = .ok (.iload_n 3, 1) := by decide +kernel
set_option maxRecDepth 100000 in
theorem al_d418 : decode code 418 = .ok (.iconst 1, 1) := by decide +kernel
set_option maxRecDepth 100000 in
theorem al_d419 : decode code 419 = .ok (.iadd, 1) := by decide +kernel
set_option maxRecDepth 100000 in
theorem al_d420 : decode code 420 = .ok (.iaload, 1) := by decide +kernel
set_option maxRecDepth 100000 in
theorem al_d421 : decode code 421 = .ok (.aload_n 0, 1) := by decide +kernel
set_option maxRecDepth 100000 in
theorem al_d422 : decode code 422 = .ok (.iload_n 3, 1) := by decide +kernel
set_option maxRecDepth 100000 in
theorem al_d423 : decode code 423 = .ok (.iconst 2, 1) := by decide +kernel
set_option maxRecDepth 100000 in
theorem al_d424 : decode code 424 = .ok (.iadd, 1) := by decide +kernel
set_option maxRecDepth 100000 in
theorem al_d425 : decode code 425 = .ok (.iaload, 1) := by decide +kernel
set_option maxRecDepth 100000 in
theorem al_d426 : decode code 426 = .ok (.invokevirtual 50, 3) := by decide +kernel
set_option maxRecDepth 100000 in
theorem al_d429 : decode code 429 = .ok (.if_icmp .eq 632, 3) := by decide +kernel
set_option maxRecDepth 100000 in
theorem al_d432 : decode code 432 = .ok (.iconst 0, 1) := by decide +kernel
set_option maxRecDepth 100000 in
theorem al_d433 : decode code 433 = .ok (.ireturn, 1) := by decide +kernel
set_option maxRecDepth 100000 in
theorem al_d434 : decode code 434 = .ok (.aload_n 1, 1) := by decide +kernel
set_option maxRecDepth 100000 in
theorem al_d435 : decode code 435 = .ok (.aload_n 0, 1) := by decide +kernel
set_option maxRecDepth 100000 in
theorem al_d436 : decode code 436 = .ok (.iload_n 3, 1) := by decide +kernel
set_option maxRecDepth 100000 in
theorem al_d437 : decode code 437 = .ok (.iconst 1, 1) := by decide +kernel
set_option maxRecDepth 100000 in
theorem al_d438 : decode code 438 = .ok (.iadd, 1) := by decide +kernel
set_option maxRecDepth 100000 in
theorem al_d439 : decode code 439 = .ok (.iaload, 1) := by decide +kernel
set_option maxRecDepth 100000 in
theorem al_d440 : decode code 440 = .ok (.aload_n 0, 1) := by decide +kernel
set_option maxRecDepth 100000 in
theorem al_d441 : decode code 441 = .ok (.iload_n 3, 1) := by decide +kernel
set_option maxRecDepth 100000 in
theorem al_d442 : decode code 442 = .ok (.iconst 2, 1) := by decide +kernel
set_option maxRecDepth 100000 in
theorem al_d443 : decode code 443 = .ok (.iadd, 1) := by decide +kernel
set_option maxRecDepth 100000 in
theorem al_d444 : decode code 444 = .ok (.iaload, 1) := by decide +kernel
set_option maxRecDepth 100000 in
theorem al_d445 : decode code 445 = .ok (.invokevirtual 51, 3) := by decide +kernel
