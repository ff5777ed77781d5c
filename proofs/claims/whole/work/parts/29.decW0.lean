theorem d_L_law_0 : decode b_L_law 0 = .ok (.new 8, 3) := by decide +kernel
theorem d_L_law_3 : decode b_L_law 3 = .ok (.dup, 1) := by decide +kernel
theorem d_L_law_4 : decode b_L_law 4 = .ok (.invokespecial 76, 3) := by decide +kernel
theorem d_L_law_7 : decode b_L_law 7 = .ok (.astore_n 1, 1) := by decide +kernel
theorem d_L_law_8 : decode b_L_law 8 = .ok (.new 77, 3) := by decide +kernel
theorem d_L_law_11 : decode b_L_law 11 = .ok (.dup, 1) := by decide +kernel
theorem d_L_law_12 : decode b_L_law 12 = .ok (.invokespecial 79, 3) := by decide +kernel
theorem d_L_law_15 : decode b_L_law 15 = .ok (.astore_n 2, 1) := by decide +kernel
theorem d_L_law_16 : decode b_L_law 16 = .ok (.iconst 1, 1) := by decide +kernel
theorem d_L_law_17 : decode b_L_law 17 = .ok (.newarray .long, 2) := by decide +kernel
theorem d_L_law_19 : decode b_L_law 19 = .ok (.astore_n 3, 1) := by decide +kernel
theorem d_L_law_20 : decode b_L_law 20 = .ok (.iconst 0, 1) := by decide +kernel
theorem d_L_law_21 : decode b_L_law 21 = .ok (.istore 4, 2) := by decide +kernel
theorem d_L_law_23 : decode b_L_law 23 = .ok (.iload 4, 2) := by decide +kernel
theorem d_L_law_25 : decode b_L_law 25 = .ok (.aload_n 0, 1) := by decide +kernel
theorem d_L_law_26 : decode b_L_law 26 = .ok (.arraylength, 1) := by decide +kernel
theorem d_L_law_27 : decode b_L_law 27 = .ok (.bipush 7, 2) := by decide +kernel
theorem d_L_law_29 : decode b_L_law 29 = .ok (.isub, 1) := by decide +kernel
theorem d_L_law_30 : decode b_L_law 30 = .ok (.if_icmp .gt 1641, 3) := by decide +kernel
theorem d_L_law_33 : decode b_L_law 33 = .ok (.aload_n 0, 1) := by decide +kernel
theorem d_L_law_34 : decode b_L_law 34 = .ok (.iload 4, 2) := by decide +kernel
theorem d_L_law_36 : decode b_L_law 36 = .ok (.iaload, 1) := by decide +kernel
theorem d_L_law_37 : decode b_L_law 37 = .ok (.bipush 31, 2) := by decide +kernel
theorem d_L_law_39 : decode b_L_law 39 = .ok (.iand, 1) := by decide +kernel
theorem d_L_law_40 : decode b_L_law 40 = .ok (.tableswitch 1625 0 18 #[92, 159, 239, 294, 320, 415, 494, 573, 672, 685, 816, 953, 1096, 1227, 1351, 1408, 1475, 1555, 1611], 92) := by decide +kernel
theorem d_L_law_132 : decode b_L_law 132 = .ok (.aload_n 1, 1) := by decide +kernel
theorem d_L_law_133 : decode b_L_law 133 = .ok (.aload_n 0, 1) := by decide +kernel
theorem d_L_law_134 : decode b_L_law 134 = .ok (.iload 4, 2) := by decide +kernel
theorem d_L_law_136 : decode b_L_law 136 = .ok (.iconst 1, 1) := by decide +kernel
theorem d_L_law_137 : decode b_L_law 137 = .ok (.iadd, 1) := by decide +kernel
theorem d_L_law_138 : decode b_L_law 138 = .ok (.iaload, 1) := by decide +kernel
theorem d_L_law_139 : decode b_L_law 139 = .ok (.aload_n 0, 1) := by decide +kernel
theorem d_L_law_140 : decode b_L_law 140 = .ok (.iload 4, 2) := by decide +kernel
theorem d_L_law_142 : decode b_L_law 142 = .ok (.iconst 2, 1) := by decide +kernel
theorem d_L_law_143 : decode b_L_law 143 = .ok (.iadd, 1) := by decide +kernel
theorem d_L_law_144 : decode b_L_law 144 = .ok (.iaload, 1) := by decide +kernel
theorem d_L_law_145 : decode b_L_law 145 = .ok (.aload_n 3, 1) := by decide +kernel
theorem d_L_law_146 : decode b_L_law 146 = .ok (.invokestatic 80, 3) := by decide +kernel
theorem d_L_law_149 : decode b_L_law 149 = .ok (.istore 5, 2) := by decide +kernel
theorem d_L_law_151 : decode b_L_law 151 = .ok (.aload_n 2, 1) := by decide +kernel
theorem d_L_law_152 : decode b_L_law 152 = .ok (.aload_n 0, 1) := by decide +kernel
theorem d_L_law_153 : decode b_L_law 153 = .ok (.iload 4, 2) := by decide +kernel
theorem d_L_law_155 : decode b_L_law 155 = .ok (.iconst 1, 1) := by decide +kernel
theorem d_L_law_156 : decode b_L_law 156 = .ok (.iadd, 1) := by decide +kernel
theorem d_L_law_157 : decode b_L_law 157 = .ok (.iaload, 1) := by decide +kernel
theorem d_L_law_158 : decode b_L_law 158 = .ok (.aload_n 0, 1) := by decide +kernel
theorem d_L_law_159 : decode b_L_law 159 = .ok (.iload 4, 2) := by decide +kernel
theorem d_L_law_161 : decode b_L_law 161 = .ok (.iconst 2, 1) := by decide +kernel
theorem d_L_law_162 : decode b_L_law 162 = .ok (.iadd, 1) := by decide +kernel
theorem d_L_law_163 : decode b_L_law 163 = .ok (.iaload, 1) := by decide +kernel
theorem d_L_law_164 : decode b_L_law 164 = .ok (.invokevirtual 85, 3) := by decide +kernel
theorem d_L_law_167 : decode b_L_law 167 = .ok (.lstore 6, 2) := by decide +kernel
theorem d_L_law_169 : decode b_L_law 169 = .ok (.aload_n 2, 1) := by decide +kernel
theorem d_L_law_170 : decode b_L_law 170 = .ok (.invokevirtual 86, 3) := by decide +kernel
theorem d_L_law_173 : decode b_L_law 173 = .ok (.iload 5, 2) := by decide +kernel
theorem d_L_law_175 : decode b_L_law 175 = .ok (.if_icmp .eq 5, 3) := by decide +kernel
theorem d_L_law_178 : decode b_L_law 178 = .ok (.iconst 0, 1) := by decide +kernel
theorem d_L_law_179 : decode b_L_law 179 = .ok (.ireturn, 1) := by decide +kernel
theorem d_L_law_180 : decode b_L_law 180 = .ok (.iload 5, 2) := by decide +kernel
theorem d_L_law_182 : decode b_L_law 182 = .ok (.ifCond .ne 14, 3) := by decide +kernel
theorem d_L_law_185 : decode b_L_law 185 = .ok (.aload_n 3, 1) := by decide +kernel
theorem d_L_law_186 : decode b_L_law 186 = .ok (.iconst 0, 1) := by decide +kernel
theorem d_L_law_187 : decode b_L_law 187 = .ok (.laload, 1) := by decide +kernel
theorem d_L_law_188 : decode b_L_law 188 = .ok (.lload 6, 2) := by decide +kernel
theorem d_L_law_190 : decode b_L_law 190 = .ok (.lcmp, 1) := by decide +kernel
theorem d_L_law_191 : decode b_L_law 191 = .ok (.ifCond .eq 5, 3) := by decide +kernel
theorem d_L_law_194 : decode b_L_law 194 = .ok (.iconst 0, 1) := by decide +kernel
theorem d_L_law_195 : decode b_L_law 195 = .ok (.ireturn, 1) := by decide +kernel
theorem d_L_law_196 : decode b_L_law 196 = .ok (.goto 1469, 3) := by decide +kernel
theorem d_L_law_199 : decode b_L_law 199 = .ok (.aload_n 1, 1) := by decide +kernel
theorem d_L_law_200 : decode b_L_law 200 = .ok (.aload_n 0, 1) := by decide +kernel
theorem d_L_law_201 : decode b_L_law 201 = .ok (.iload 4, 2) := by decide +kernel
theorem d_L_law_203 : decode b_L_law 203 = .ok (.iconst 1, 1) := by decide +kernel
theorem d_L_law_204 : decode b_L_law 204 = .ok (.iadd, 1) := by decide +kernel
theorem d_L_law_205 : decode b_L_law 205 = .ok (.iaload, 1) := by decide +kernel
theorem d_L_law_206 : decode b_L_law 206 = .ok (.aload_n 0, 1) := by decide +kernel
theorem d_L_law_207 : decode b_L_law 207 = .ok (.iload 4, 2) := by decide +kernel
theorem d_L_law_209 : decode b_L_law 209 = .ok (.iconst 2, 1) := by decide +kernel
theorem d_L_law_210 : decode b_L_law 210 = .ok (.iadd, 1) := by decide +kernel
theorem d_L_law_211 : decode b_L_law 211 = .ok (.iaload, 1) := by decide +kernel
theorem d_L_law_212 : decode b_L_law 212 = .ok (.i2l, 1) := by decide +kernel
theorem d_L_law_213 : decode b_L_law 213 = .ok (.bipush 32, 2) := by decide +kernel
theorem d_L_law_215 : decode b_L_law 215 = .ok (.lshl, 1) := by decide +kernel
theorem d_L_law_216 : decode b_L_law 216 = .ok (.aload_n 0, 1) := by decide +kernel
theorem d_L_law_217 : decode b_L_law 217 = .ok (.iload 4, 2) := by decide +kernel
theorem d_L_law_219 : decode b_L_law 219 = .ok (.iconst 3, 1) := by decide +kernel
theorem d_L_law_220 : decode b_L_law 220 = .ok (.iadd, 1) := by decide +kernel
theorem d_L_law_221 : decode b_L_law 221 = .ok (.iaload, 1) := by decide +kernel
theorem d_L_law_222 : decode b_L_law 222 = .ok (.i2l, 1) := by decide +kernel
theorem d_L_law_223 : decode b_L_law 223 = .ok (.ldc2_w 90, 3) := by decide +kernel
theorem d_L_law_226 : decode b_L_law 226 = .ok (.land, 1) := by decide +kernel
theorem d_L_law_227 : decode b_L_law 227 = .ok (.lor, 1) := by decide +kernel
theorem d_L_law_228 : decode b_L_law 228 = .ok (.invokestatic 92, 3) := by decide +kernel
theorem d_L_law_231 : decode b_L_law 231 = .ok (.istore 5, 2) := by decide +kernel
theorem d_L_law_233 : decode b_L_law 233 = .ok (.aload_n 2, 1) := by decide +kernel
theorem d_L_law_234 : decode b_L_law 234 = .ok (.aload_n 0, 1) := by decide +kernel
theorem d_L_law_235 : decode b_L_law 235 = .ok (.iload 4, 2) := by decide +kernel
theorem d_L_law_237 : decode b_L_law 237 = .ok (.iconst 1, 1) := by decide +kernel
theorem d_L_law_238 : decode b_L_law 238 = .ok (.iadd, 1) := by decide +kernel
theorem d_L_law_239 : decode b_L_law 239 = .ok (.iaload, 1) := by decide +kernel
theorem d_L_law_240 : decode b_L_law 240 = .ok (.aload_n 0, 1) := by decide +kernel
theorem d_L_law_241 : decode b_L_law 241 = .ok (.iload 4, 2) := by decide +kernel
theorem d_L_law_243 : decode b_L_law 243 = .ok (.iconst 2, 1) := by decide +kernel
theorem d_L_law_244 : decode b_L_law 244 = .ok (.iadd, 1) := by decide +kernel
theorem d_L_law_245 : decode b_L_law 245 = .ok (.iaload, 1) := by decide +kernel
theorem d_L_law_246 : decode b_L_law 246 = .ok (.i2l, 1) := by decide +kernel
theorem d_L_law_247 : decode b_L_law 247 = .ok (.bipush 32, 2) := by decide +kernel
theorem d_L_law_249 : decode b_L_law 249 = .ok (.lshl, 1) := by decide +kernel
theorem d_L_law_250 : decode b_L_law 250 = .ok (.aload_n 0, 1) := by decide +kernel
theorem d_L_law_251 : decode b_L_law 251 = .ok (.iload 4, 2) := by decide +kernel
theorem d_L_law_253 : decode b_L_law 253 = .ok (.iconst 3, 1) := by decide +kernel
theorem d_L_law_254 : decode b_L_law 254 = .ok (.iadd, 1) := by decide +kernel
theorem d_L_law_255 : decode b_L_law 255 = .ok (.iaload, 1) := by decide +kernel
theorem d_L_law_256 : decode b_L_law 256 = .ok (.i2l, 1) := by decide +kernel
theorem d_L_law_257 : decode b_L_law 257 = .ok (.ldc2_w 90, 3) := by decide +kernel
theorem d_L_law_260 : decode b_L_law 260 = .ok (.land, 1) := by decide +kernel
theorem d_L_law_261 : decode b_L_law 261 = .ok (.lor, 1) := by decide +kernel
theorem d_L_law_262 : decode b_L_law 262 = .ok (.invokevirtual 95, 3) := by decide +kernel
theorem d_L_law_265 : decode b_L_law 265 = .ok (.aload_n 2, 1) := by decide +kernel
theorem d_L_law_266 : decode b_L_law 266 = .ok (.invokevirtual 86, 3) := by decide +kernel
theorem d_L_law_269 : decode b_L_law 269 = .ok (.iload 5, 2) := by decide +kernel
theorem d_L_law_271 : decode b_L_law 271 = .ok (.if_icmp .eq 5, 3) := by decide +kernel
theorem d_L_law_274 : decode b_L_law 274 = .ok (.iconst 0, 1) := by decide +kernel
theorem d_L_law_275 : decode b_L_law 275 = .ok (.ireturn, 1) := by decide +kernel
theorem d_L_law_276 : decode b_L_law 276 = .ok (.goto 1389, 3) := by decide +kernel
theorem d_L_law_279 : decode b_L_law 279 = .ok (.aload_n 1, 1) := by decide +kernel
theorem d_L_law_280 : decode b_L_law 280 = .ok (.aload_n 0, 1) := by decide +kernel
theorem d_L_law_281 : decode b_L_law 281 = .ok (.iload 4, 2) := by decide +kernel
theorem d_L_law_283 : decode b_L_law 283 = .ok (.iconst 1, 1) := by decide +kernel
theorem d_L_law_284 : decode b_L_law 284 = .ok (.iadd, 1) := by decide +kernel
theorem d_L_law_285 : decode b_L_law 285 = .ok (.iaload, 1) := by decide +kernel
theorem d_L_law_286 : decode b_L_law 286 = .ok (.aload_n 3, 1) := by decide +kernel
theorem d_L_law_287 : decode b_L_law 287 = .ok (.invokestatic 96, 3) := by decide +kernel
theorem d_L_law_290 : decode b_L_law 290 = .ok (.istore 5, 2) := by decide +kernel
theorem d_L_law_292 : decode b_L_law 292 = .ok (.aload_n 2, 1) := by decide +kernel
theorem d_L_law_293 : decode b_L_law 293 = .ok (.aload_n 0, 1) := by decide +kernel
theorem d_L_law_294 : decode b_L_law 294 = .ok (.iload 4, 2) := by decide +kernel
theorem d_L_law_296 : decode b_L_law 296 = .ok (.iconst 1, 1) := by decide +kernel
theorem d_L_law_297 : decode b_L_law 297 = .ok (.iadd, 1) := by decide +kernel
theorem d_L_law_298 : decode b_L_law 298 = .ok (.iaload, 1) := by decide +kernel
theorem d_L_law_299 : decode b_L_law 299 = .ok (.invokevirtual 99, 3) := by decide +kernel
theorem d_L_law_302 : decode b_L_law 302 = .ok (.lstore 6, 2) := by decide +kernel
theorem d_L_law_304 : decode b_L_law 304 = .ok (.aload_n 2, 1) := by decide +kernel
theorem d_L_law_305 : decode b_L_law 305 = .ok (.invokevirtual 86, 3) := by decide +kernel
theorem d_L_law_308 : decode b_L_law 308 = .ok (.iload 5, 2) := by decide +kernel
theorem d_L_law_310 : decode b_L_law 310 = .ok (.if_icmp .eq 5, 3) := by decide +kernel
theorem d_L_law_313 : decode b_L_law 313 = .ok (.iconst 0, 1) := by decide +kernel
theorem d_L_law_314 : decode b_L_law 314 = .ok (.ireturn, 1) := by decide +kernel
theorem d_L_law_315 : decode b_L_law 315 = .ok (.iload 5, 2) := by decide +kernel
theorem d_L_law_317 : decode b_L_law 317 = .ok (.ifCond .ne 14, 3) := by decide +kernel
theorem d_L_law_320 : decode b_L_law 320 = .ok (.aload_n 3, 1) := by decide +kernel
theorem d_L_law_321 : decode b_L_law 321 = .ok (.iconst 0, 1) := by decide +kernel
theorem d_L_law_322 : decode b_L_law 322 = .ok (.laload, 1) := by decide +kernel
theorem d_L_law_323 : decode b_L_law 323 = .ok (.lload 6, 2) := by decide +kernel
theorem d_L_law_325 : decode b_L_law 325 = .ok (.lcmp, 1) := by decide +kernel
theorem d_L_law_326 : decode b_L_law 326 = .ok (.ifCond .eq 5, 3) := by decide +kernel
theorem d_L_law_329 : decode b_L_law 329 = .ok (.iconst 0, 1) := by decide +kernel
theorem d_L_law_330 : decode b_L_law 330 = .ok (.ireturn, 1) := by decide +kernel
theorem d_L_law_331 : decode b_L_law 331 = .ok (.goto 1334, 3) := by decide +kernel
theorem d_L_law_334 : decode b_L_law 334 = .ok (.aload_n 1, 1) := by decide +kernel
theorem d_L_law_335 : decode b_L_law 335 = .ok (.aload_n 0, 1) := by decide +kernel
theorem d_L_law_336 : decode b_L_law 336 = .ok (.iload 4, 2) := by decide +kernel
theorem d_L_law_338 : decode b_L_law 338 = .ok (.iconst 1, 1) := by decide +kernel
theorem d_L_law_339 : decode b_L_law 339 = .ok (.iadd, 1) := by decide +kernel
theorem d_L_law_340 : decode b_L_law 340 = .ok (.iaload, 1) := by decide +kernel
theorem d_L_law_341 : decode b_L_law 341 = .ok (.invokevirtual 100, 3) := by decide +kernel
theorem d_L_law_344 : decode b_L_law 344 = .ok (.aload_n 2, 1) := by decide +kernel
theorem d_L_law_345 : decode b_L_law 345 = .ok (.aload_n 0, 1) := by decide +kernel
theorem d_L_law_346 : decode b_L_law 346 = .ok (.iload 4, 2) := by decide +kernel
theorem d_L_law_348 : decode b_L_law 348 = .ok (.iconst 1, 1) := by decide +kernel
theorem d_L_law_349 : decode b_L_law 349 = .ok (.iadd, 1) := by decide +kernel
theorem d_L_law_350 : decode b_L_law 350 = .ok (.iaload, 1) := by decide +kernel
theorem d_L_law_351 : decode b_L_law 351 = .ok (.invokevirtual 103, 3) := by decide +kernel
theorem d_L_law_354 : decode b_L_law 354 = .ok (.lcmp, 1) := by decide +kernel
theorem d_L_law_355 : decode b_L_law 355 = .ok (.ifCond .eq 1310, 3) := by decide +kernel
theorem d_L_law_358 : decode b_L_law 358 = .ok (.iconst 0, 1) := by decide +kernel
theorem d_L_law_359 : decode b_L_law 359 = .ok (.ireturn, 1) := by decide +kernel
theorem d_L_law_360 : decode b_L_law 360 = .ok (.aload_n 1, 1) := by decide +kernel
theorem d_L_law_361 : decode b_L_law 361 = .ok (.aload_n 0, 1) := by decide +kernel
theorem d_L_law_362 : decode b_L_law 362 = .ok (.iload 4, 2) := by decide +kernel
theorem d_L_law_364 : decode b_L_law 364 = .ok (.iconst 1, 1) := by decide +kernel
theorem d_L_law_365 : decode b_L_law 365 = .ok (.iadd, 1) := by decide +kernel
theorem d_L_law_366 : decode b_L_law 366 = .ok (.iaload, 1) := by decide +kernel
theorem d_L_law_367 : decode b_L_law 367 = .ok (.aload_n 0, 1) := by decide +kernel
theorem d_L_law_368 : decode b_L_law 368 = .ok (.iload 4, 2) := by decide +kernel
theorem d_L_law_370 : decode b_L_law 370 = .ok (.iconst 2, 1) := by decide +kernel
theorem d_L_law_371 : decode b_L_law 371 = .ok (.iadd, 1) := by decide +kernel
theorem d_L_law_372 : decode b_L_law 372 = .ok (.iaload, 1) := by decide +kernel
theorem d_L_law_373 : decode b_L_law 373 = .ok (.aload_n 0, 1) := by decide +kernel
theorem d_L_law_374 : decode b_L_law 374 = .ok (.iload 4, 2) := by decide +kernel
theorem d_L_law_376 : decode b_L_law 376 = .ok (.iconst 3, 1) := by decide +kernel
theorem d_L_law_377 : decode b_L_law 377 = .ok (.iadd, 1) := by decide +kernel
theorem d_L_law_378 : decode b_L_law 378 = .ok (.iaload, 1) := by decide +kernel
theorem d_L_law_379 : decode b_L_law 379 = .ok (.ifCond .eq 7, 3) := by decide +kernel
theorem d_L_law_382 : decode b_L_law 382 = .ok (.iconst 1, 1) := by decide +kernel
theorem d_L_law_383 : decode b_L_law 383 = .ok (.goto 4, 3) := by decide +kernel
theorem d_L_law_386 : decode b_L_law 386 = .ok (.iconst 0, 1) := by decide +kernel
theorem d_L_law_387 : decode b_L_law 387 = .ok (.aload_n 3, 1) := by decide +kernel
theorem d_L_law_388 : decode b_L_law 388 = .ok (.invokestatic 104, 3) := by decide +kernel
theorem d_L_law_391 : decode b_L_law 391 = .ok (.istore 5, 2) := by decide +kernel
theorem d_L_law_393 : decode b_L_law 393 = .ok (.aload_n 2, 1) := by decide +kernel
theorem d_L_law_394 : decode b_L_law 394 = .ok (.aload_n 0, 1) := by decide +kernel
theorem d_L_law_395 : decode b_L_law 395 = .ok (.iload 4, 2) := by decide +kernel
theorem d_L_law_397 : decode b_L_law 397 = .ok (.iconst 1, 1) := by decide +kernel
theorem d_L_law_398 : decode b_L_law 398 = .ok (.iadd, 1) := by decide +kernel
theorem d_L_law_399 : decode b_L_law 399 = .ok (.iaload, 1) := by decide +kernel
theorem d_L_law_400 : decode b_L_law 400 = .ok (.aload_n 0, 1) := by decide +kernel
theorem d_L_law_401 : decode b_L_law 401 = .ok (.iload 4, 2) := by decide +kernel
theorem d_L_law_403 : decode b_L_law 403 = .ok (.iconst 2, 1) := by decide +kernel
theorem d_L_law_404 : decode b_L_law 404 = .ok (.iadd, 1) := by decide +kernel
theorem d_L_law_405 : decode b_L_law 405 = .ok (.iaload, 1) := by decide +kernel
theorem d_L_law_406 : decode b_L_law 406 = .ok (.aload_n 0, 1) := by decide +kernel
theorem d_L_law_407 : decode b_L_law 407 = .ok (.iload 4, 2) := by decide +kernel
theorem d_L_law_409 : decode b_L_law 409 = .ok (.iconst 3, 1) := by decide +kernel
theorem d_L_law_410 : decode b_L_law 410 = .ok (.iadd, 1) := by decide +kernel
theorem d_L_law_411 : decode b_L_law 411 = .ok (.iaload, 1) := by decide +kernel
theorem d_L_law_412 : decode b_L_law 412 = .ok (.ifCond .eq 7, 3) := by decide +kernel
theorem d_L_law_415 : decode b_L_law 415 = .ok (.iconst 1, 1) := by decide +kernel
theorem d_L_law_416 : decode b_L_law 416 = .ok (.goto 4, 3) := by decide +kernel
theorem d_L_law_419 : decode b_L_law 419 = .ok (.iconst 0, 1) := by decide +kernel
theorem d_L_law_420 : decode b_L_law 420 = .ok (.invokevirtual 107, 3) := by decide +kernel
theorem d_L_law_423 : decode b_L_law 423 = .ok (.lstore 6, 2) := by decide +kernel
theorem d_L_law_425 : decode b_L_law 425 = .ok (.aload_n 2, 1) := by decide +kernel
theorem d_L_law_426 : decode b_L_law 426 = .ok (.invokevirtual 86, 3) := by decide +kernel
theorem d_L_law_429 : decode b_L_law 429 = .ok (.iload 5, 2) := by decide +kernel
theorem d_L_law_431 : decode b_L_law 431 = .ok (.if_icmp .eq 5, 3) := by decide +kernel
theorem d_L_law_434 : decode b_L_law 434 = .ok (.iconst 0, 1) := by decide +kernel
theorem d_L_law_435 : decode b_L_law 435 = .ok (.ireturn, 1) := by decide +kernel
theorem d_L_law_436 : decode b_L_law 436 = .ok (.iload 5, 2) := by decide +kernel
theorem d_L_law_438 : decode b_L_law 438 = .ok (.ifCond .ne 14, 3) := by decide +kernel
theorem d_L_law_441 : decode b_L_law 441 = .ok (.aload_n 3, 1) := by decide +kernel
theorem d_L_law_442 : decode b_L_law 442 = .ok (.iconst 0, 1) := by decide +kernel
theorem d_L_law_443 : decode b_L_law 443 = .ok (.laload, 1) := by decide +kernel
theorem d_L_law_444 : decode b_L_law 444 = .ok (.lload 6, 2) := by decide +kernel
theorem d_L_law_446 : decode b_L_law 446 = .ok (.lcmp, 1) := by decide +kernel
theorem d_L_law_447 : decode b_L_law 447 = .ok (.ifCond .eq 5, 3) := by decide +kernel
theorem d_L_law_450 : decode b_L_law 450 = .ok (.iconst 0, 1) := by decide +kernel
theorem d_L_law_451 : decode b_L_law 451 = .ok (.ireturn, 1) := by decide +kernel
theorem d_L_law_452 : decode b_L_law 452 = .ok (.goto 1213, 3) := by decide +kernel
theorem d_L_law_455 : decode b_L_law 455 = .ok (.aload_n 1, 1) := by decide +kernel
theorem d_L_law_456 : decode b_L_law 456 = .ok (.aload_n 0, 1) := by decide +kernel
theorem d_L_law_457 : decode b_L_law 457 = .ok (.iload 4, 2) := by decide +kernel
theorem d_L_law_459 : decode b_L_law 459 = .ok (.iconst 1, 1) := by decide +kernel
theorem d_L_law_460 : decode b_L_law 460 = .ok (.iadd, 1) := by decide +kernel
theorem d_L_law_461 : decode b_L_law 461 = .ok (.iaload, 1) := by decide +kernel
theorem d_L_law_462 : decode b_L_law 462 = .ok (.aload_n 0, 1) := by decide +kernel
theorem d_L_law_463 : decode b_L_law 463 = .ok (.iload 4, 2) := by decide +kernel
theorem d_L_law_465 : decode b_L_law 465 = .ok (.iconst 2, 1) := by decide +kernel
theorem d_L_law_466 : decode b_L_law 466 = .ok (.iadd, 1) := by decide +kernel
theorem d_L_law_467 : decode b_L_law 467 = .ok (.iaload, 1) := by decide +kernel
theorem d_L_law_468 : decode b_L_law 468 = .ok (.aload_n 0, 1) := by decide +kernel
theorem d_L_law_469 : decode b_L_law 469 = .ok (.iload 4, 2) := by decide +kernel
theorem d_L_law_471 : decode b_L_law 471 = .ok (.iconst 3, 1) := by decide +kernel
theorem d_L_law_472 : decode b_L_law 472 = .ok (.iadd, 1) := by decide +kernel
theorem d_L_law_473 : decode b_L_law 473 = .ok (.iaload, 1) := by decide +kernel
theorem d_L_law_474 : decode b_L_law 474 = .ok (.aload_n 3, 1) := by decide +kernel
theorem d_L_law_475 : decode b_L_law 475 = .ok (.invokestatic 108, 3) := by decide +kernel
theorem d_L_law_478 : decode b_L_law 478 = .ok (.istore 5, 2) := by decide +kernel
theorem d_L_law_480 : decode b_L_law 480 = .ok (.aload_n 2, 1) := by decide +kernel
theorem d_L_law_481 : decode b_L_law 481 = .ok (.aload_n 0, 1) := by decide +kernel
theorem d_L_law_482 : decode b_L_law 482 = .ok (.iload 4, 2) := by decide +kernel
theorem d_L_law_484 : decode b_L_law 484 = .ok (.iconst 1, 1) := by decide +kernel
theorem d_L_law_485 : decode b_L_law 485 = .ok (.iadd, 1) := by decide +kernel
theorem d_L_law_486 : decode b_L_law 486 = .ok (.iaload, 1) := by decide +kernel
theorem d_L_law_487 : decode b_L_law 487 = .ok (.aload_n 0, 1) := by decide +kernel
theorem d_L_law_488 : decode b_L_law 488 = .ok (.iload 4, 2) := by decide +kernel
theorem d_L_law_490 : decode b_L_law 490 = .ok (.iconst 2, 1) := by decide +kernel
theorem d_L_law_491 : decode b_L_law 491 = .ok (.iadd, 1) := by decide +kernel
theorem d_L_law_492 : decode b_L_law 492 = .ok (.iaload, 1) := by decide +kernel
theorem d_L_law_493 : decode b_L_law 493 = .ok (.aload_n 0, 1) := by decide +kernel
theorem d_L_law_494 : decode b_L_law 494 = .ok (.iload 4, 2) := by decide +kernel
theorem d_L_law_496 : decode b_L_law 496 = .ok (.iconst 3, 1) := by decide +kernel
theorem d_L_law_497 : decode b_L_law 497 = .ok (.iadd, 1) := by decide +kernel
theorem d_L_law_498 : decode b_L_law 498 = .ok (.iaload, 1) := by decide +kernel
theorem d_L_law_499 : decode b_L_law 499 = .ok (.invokevirtual 111, 3) := by decide +kernel
theorem d_L_law_502 : decode b_L_law 502 = .ok (.lstore 6, 2) := by decide +kernel
theorem d_L_law_504 : decode b_L_law 504 = .ok (.aload_n 2, 1) := by decide +kernel
theorem d_L_law_505 : decode b_L_law 505 = .ok (.invokevirtual 86, 3) := by decide +kernel
theorem d_L_law_508 : decode b_L_law 508 = .ok (.iload 5, 2) := by decide +kernel
theorem d_L_law_510 : decode b_L_law 510 = .ok (.if_icmp .eq 5, 3) := by decide +kernel
theorem d_L_law_513 : decode b_L_law 513 = .ok (.iconst 0, 1) := by decide +kernel
theorem d_L_law_514 : decode b_L_law 514 = .ok (.ireturn, 1) := by decide +kernel
theorem d_L_law_515 : decode b_L_law 515 = .ok (.iload 5, 2) := by decide +kernel
theorem d_L_law_517 : decode b_L_law 517 = .ok (.ifCond .ne 14, 3) := by decide +kernel
theorem d_L_law_520 : decode b_L_law 520 = .ok (.aload_n 3, 1) := by decide +kernel
theorem d_L_law_521 : decode b_L_law 521 = .ok (.iconst 0, 1) := by decide +kernel
theorem d_L_law_522 : decode b_L_law 522 = .ok (.laload, 1) := by decide +kernel
theorem d_L_law_523 : decode b_L_law 523 = .ok (.lload 6, 2) := by decide +kernel
theorem d_L_law_525 : decode b_L_law 525 = .ok (.lcmp, 1) := by decide +kernel
theorem d_L_law_526 : decode b_L_law 526 = .ok (.ifCond .eq 5, 3) := by decide +kernel
theorem d_L_law_529 : decode b_L_law 529 = .ok (.iconst 0, 1) := by decide +kernel
theorem d_L_law_530 : decode b_L_law 530 = .ok (.ireturn, 1) := by decide +kernel
theorem d_L_law_531 : decode b_L_law 531 = .ok (.goto 1134, 3) := by decide +kernel
theorem d_L_law_534 : decode b_L_law 534 = .ok (.aload_n 1, 1) := by decide +kernel
theorem d_L_law_535 : decode b_L_law 535 = .ok (.aload_n 0, 1) := by decide +kernel
theorem d_L_law_536 : decode b_L_law 536 = .ok (.iload 4, 2) := by decide +kernel
theorem d_L_law_538 : decode b_L_law 538 = .ok (.iconst 1, 1) := by decide +kernel
theorem d_L_law_539 : decode b_L_law 539 = .ok (.iadd, 1) := by decide +kernel
theorem d_L_law_540 : decode b_L_law 540 = .ok (.iaload, 1) := by decide +kernel
theorem d_L_law_541 : decode b_L_law 541 = .ok (.aload_n 0, 1) := by decide +kernel
theorem d_L_law_542 : decode b_L_law 542 = .ok (.iload 4, 2) := by decide +kernel
theorem d_L_law_544 : decode b_L_law 544 = .ok (.iconst 2, 1) := by decide +kernel
theorem d_L_law_545 : decode b_L_law 545 = .ok (.iadd, 1) := by decide +kernel
theorem d_L_law_546 : decode b_L_law 546 = .ok (.iaload, 1) := by decide +kernel
theorem d_L_law_547 : decode b_L_law 547 = .ok (.aload_n 0, 1) := by decide +kernel
theorem d_L_law_548 : decode b_L_law 548 = .ok (.iload 4, 2) := by decide +kernel
theorem d_L_law_550 : decode b_L_law 550 = .ok (.iconst 3, 1) := by decide +kernel
theorem d_L_law_551 : decode b_L_law 551 = .ok (.iadd, 1) := by decide +kernel
theorem d_L_law_552 : decode b_L_law 552 = .ok (.iaload, 1) := by decide +kernel
theorem d_L_law_553 : decode b_L_law 553 = .ok (.aload_n 3, 1) := by decide +kernel
theorem d_L_law_554 : decode b_L_law 554 = .ok (.invokestatic 112, 3) := by decide +kernel
theorem d_L_law_557 : decode b_L_law 557 = .ok (.istore 5, 2) := by decide +kernel
theorem d_L_law_559 : decode b_L_law 559 = .ok (.aload_n 2, 1) := by decide +kernel
theorem d_L_law_560 : decode b_L_law 560 = .ok (.aload_n 0, 1) := by decide +kernel
theorem d_L_law_561 : decode b_L_law 561 = .ok (.iload 4, 2) := by decide +kernel
theorem d_L_law_563 : decode b_L_law 563 = .ok (.iconst 1, 1) := by decide +kernel
theorem d_L_law_564 : decode b_L_law 564 = .ok (.iadd, 1) := by decide +kernel
theorem d_L_law_565 : decode b_L_law 565 = .ok (.iaload, 1) := by decide +kernel
theorem d_L_law_566 : decode b_L_law 566 = .ok (.aload_n 0, 1) := by decide +kernel
theorem d_L_law_567 : decode b_L_law 567 = .ok (.iload 4, 2) := by decide +kernel
theorem d_L_law_569 : decode b_L_law 569 = .ok (.iconst 2, 1) := by decide +kernel
theorem d_L_law_570 : decode b_L_law 570 = .ok (.iadd, 1) := by decide +kernel
theorem d_L_law_571 : decode b_L_law 571 = .ok (.iaload, 1) := by decide +kernel
theorem d_L_law_572 : decode b_L_law 572 = .ok (.aload_n 0, 1) := by decide +kernel
theorem d_L_law_573 : decode b_L_law 573 = .ok (.iload 4, 2) := by decide +kernel
theorem d_L_law_575 : decode b_L_law 575 = .ok (.iconst 3, 1) := by decide +kernel
theorem d_L_law_576 : decode b_L_law 576 = .ok (.iadd, 1) := by decide +kernel
theorem d_L_law_577 : decode b_L_law 577 = .ok (.iaload, 1) := by decide +kernel
theorem d_L_law_578 : decode b_L_law 578 = .ok (.invokevirtual 114, 3) := by decide +kernel
theorem d_L_law_581 : decode b_L_law 581 = .ok (.lstore 6, 2) := by decide +kernel
theorem d_L_law_583 : decode b_L_law 583 = .ok (.aload_n 2, 1) := by decide +kernel
theorem d_L_law_584 : decode b_L_law 584 = .ok (.invokevirtual 86, 3) := by decide +kernel
theorem d_L_law_587 : decode b_L_law 587 = .ok (.iload 5, 2) := by decide +kernel
theorem d_L_law_589 : decode b_L_law 589 = .ok (.if_icmp .eq 5, 3) := by decide +kernel
theorem d_L_law_592 : decode b_L_law 592 = .ok (.iconst 0, 1) := by decide +kernel
theorem d_L_law_593 : decode b_L_law 593 = .ok (.ireturn, 1) := by decide +kernel
theorem d_L_law_594 : decode b_L_law 594 = .ok (.iload 5, 2) := by decide +kernel
theorem d_L_law_596 : decode b_L_law 596 = .ok (.ifCond .ne 14, 3) := by decide +kernel
theorem d_L_law_599 : decode b_L_law 599 = .ok (.aload_n 3, 1) := by decide +kernel
theorem d_L_law_600 : decode b_L_law 600 = .ok (.iconst 0, 1) := by decide +kernel
theorem d_L_law_601 : decode b_L_law 601 = .ok (.laload, 1) := by decide +kernel
theorem d_L_law_602 : decode b_L_law 602 = .ok (.lload 6, 2) := by decide +kernel
theorem d_L_law_604 : decode b_L_law 604 = .ok (.lcmp, 1) := by decide +kernel
theorem d_L_law_605 : decode b_L_law 605 = .ok (.ifCond .eq 5, 3) := by decide +kernel
theorem d_L_law_608 : decode b_L_law 608 = .ok (.iconst 0, 1) := by decide +kernel
theorem d_L_law_609 : decode b_L_law 609 = .ok (.ireturn, 1) := by decide +kernel
theorem d_L_law_610 : decode b_L_law 610 = .ok (.goto 1055, 3) := by decide +kernel
theorem d_L_law_613 : decode b_L_law 613 = .ok (.aload_n 1, 1) := by decide +kernel
theorem d_L_law_614 : decode b_L_law 614 = .ok (.aload_n 0, 1) := by decide +kernel
theorem d_L_law_615 : decode b_L_law 615 = .ok (.iload 4, 2) := by decide +kernel
theorem d_L_law_617 : decode b_L_law 617 = .ok (.iconst 1, 1) := by decide +kernel
theorem d_L_law_618 : decode b_L_law 618 = .ok (.iadd, 1) := by decide +kernel
theorem d_L_law_619 : decode b_L_law 619 = .ok (.iaload, 1) := by decide +kernel
theorem d_L_law_620 : decode b_L_law 620 = .ok (.aload_n 0, 1) := by decide +kernel
theorem d_L_law_621 : decode b_L_law 621 = .ok (.iload 4, 2) := by decide +kernel
theorem d_L_law_623 : decode b_L_law 623 = .ok (.iconst 2, 1) := by decide +kernel
theorem d_L_law_624 : decode b_L_law 624 = .ok (.iadd, 1) := by decide +kernel
theorem d_L_law_625 : decode b_L_law 625 = .ok (.iaload, 1) := by decide +kernel
theorem d_L_law_626 : decode b_L_law 626 = .ok (.i2l, 1) := by decide +kernel
theorem d_L_law_627 : decode b_L_law 627 = .ok (.bipush 32, 2) := by decide +kernel
theorem d_L_law_629 : decode b_L_law 629 = .ok (.lshl, 1) := by decide +kernel
theorem d_L_law_630 : decode b_L_law 630 = .ok (.aload_n 0, 1) := by decide +kernel
theorem d_L_law_631 : decode b_L_law 631 = .ok (.iload 4, 2) := by decide +kernel
theorem d_L_law_633 : decode b_L_law 633 = .ok (.iconst 3, 1) := by decide +kernel
theorem d_L_law_634 : decode b_L_law 634 = .ok (.iadd, 1) := by decide +kernel
theorem d_L_law_635 : decode b_L_law 635 = .ok (.iaload, 1) := by decide +kernel
theorem d_L_law_636 : decode b_L_law 636 = .ok (.i2l, 1) := by decide +kernel
theorem d_L_law_637 : decode b_L_law 637 = .ok (.ldc2_w 90, 3) := by decide +kernel
theorem d_L_law_640 : decode b_L_law 640 = .ok (.land, 1) := by decide +kernel
theorem d_L_law_641 : decode b_L_law 641 = .ok (.lor, 1) := by decide +kernel
theorem d_L_law_642 : decode b_L_law 642 = .ok (.aload_n 3, 1) := by decide +kernel
theorem d_L_law_643 : decode b_L_law 643 = .ok (.invokestatic 115, 3) := by decide +kernel
theorem d_L_law_646 : decode b_L_law 646 = .ok (.istore 5, 2) := by decide +kernel
theorem d_L_law_648 : decode b_L_law 648 = .ok (.aload_n 2, 1) := by decide +kernel
theorem d_L_law_649 : decode b_L_law 649 = .ok (.aload_n 0, 1) := by decide +kernel
theorem d_L_law_650 : decode b_L_law 650 = .ok (.iload 4, 2) := by decide +kernel
theorem d_L_law_652 : decode b_L_law 652 = .ok (.iconst 1, 1) := by decide +kernel
theorem d_L_law_653 : decode b_L_law 653 = .ok (.iadd, 1) := by decide +kernel
theorem d_L_law_654 : decode b_L_law 654 = .ok (.iaload, 1) := by decide +kernel
theorem d_L_law_655 : decode b_L_law 655 = .ok (.aload_n 0, 1) := by decide +kernel
theorem d_L_law_656 : decode b_L_law 656 = .ok (.iload 4, 2) := by decide +kernel
theorem d_L_law_658 : decode b_L_law 658 = .ok (.iconst 2, 1) := by decide +kernel
theorem d_L_law_659 : decode b_L_law 659 = .ok (.iadd, 1) := by decide +kernel
theorem d_L_law_660 : decode b_L_law 660 = .ok (.iaload, 1) := by decide +kernel
theorem d_L_law_661 : decode b_L_law 661 = .ok (.i2l, 1) := by decide +kernel
theorem d_L_law_662 : decode b_L_law 662 = .ok (.bipush 32, 2) := by decide +kernel
theorem d_L_law_664 : decode b_L_law 664 = .ok (.lshl, 1) := by decide +kernel
theorem d_L_law_665 : decode b_L_law 665 = .ok (.aload_n 0, 1) := by decide +kernel
theorem d_L_law_666 : decode b_L_law 666 = .ok (.iload 4, 2) := by decide +kernel
theorem d_L_law_668 : decode b_L_law 668 = .ok (.iconst 3, 1) := by decide +kernel
theorem d_L_law_669 : decode b_L_law 669 = .ok (.iadd, 1) := by decide +kernel
theorem d_L_law_670 : decode b_L_law 670 = .ok (.iaload, 1) := by decide +kernel
theorem d_L_law_671 : decode b_L_law 671 = .ok (.i2l, 1) := by decide +kernel
theorem d_L_law_672 : decode b_L_law 672 = .ok (.ldc2_w 90, 3) := by decide +kernel
theorem d_L_law_675 : decode b_L_law 675 = .ok (.land, 1) := by decide +kernel
theorem d_L_law_676 : decode b_L_law 676 = .ok (.lor, 1) := by decide +kernel
theorem d_L_law_677 : decode b_L_law 677 = .ok (.invokevirtual 118, 3) := by decide +kernel
theorem d_L_law_680 : decode b_L_law 680 = .ok (.lstore 6, 2) := by decide +kernel
theorem d_L_law_682 : decode b_L_law 682 = .ok (.aload_n 2, 1) := by decide +kernel
theorem d_L_law_683 : decode b_L_law 683 = .ok (.invokevirtual 86, 3) := by decide +kernel
