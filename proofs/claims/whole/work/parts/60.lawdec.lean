theorem d_L_law_0 : decode code 0 = .ok (.new 8, 3) := by decide +kernel
theorem d_L_law_3 : decode code 3 = .ok (.dup, 1) := by decide +kernel
theorem d_L_law_4 : decode code 4 = .ok (.invokespecial 40, 3) := by decide +kernel
theorem d_L_law_7 : decode code 7 = .ok (.astore_n 1, 1) := by decide +kernel
theorem d_L_law_8 : decode code 8 = .ok (.new 41, 3) := by decide +kernel
theorem d_L_law_11 : decode code 11 = .ok (.dup, 1) := by decide +kernel
theorem d_L_law_12 : decode code 12 = .ok (.invokespecial 43, 3) := by decide +kernel
theorem d_L_law_15 : decode code 15 = .ok (.astore_n 2, 1) := by decide +kernel
theorem d_L_law_16 : decode code 16 = .ok (.iconst (1), 1) := by decide +kernel
theorem d_L_law_17 : decode code 17 = .ok (.newarray .long, 2) := by decide +kernel
theorem d_L_law_19 : decode code 19 = .ok (.astore_n 3, 1) := by decide +kernel
theorem d_L_law_20 : decode code 20 = .ok (.iconst (0), 1) := by decide +kernel
theorem d_L_law_21 : decode code 21 = .ok (.istore 4, 2) := by decide +kernel
theorem d_L_law_23 : decode code 23 = .ok (.iload 4, 2) := by decide +kernel
theorem d_L_law_25 : decode code 25 = .ok (.aload_n 0, 1) := by decide +kernel
theorem d_L_law_26 : decode code 26 = .ok (.arraylength, 1) := by decide +kernel
theorem d_L_law_27 : decode code 27 = .ok (.iconst (4), 1) := by decide +kernel
theorem d_L_law_28 : decode code 28 = .ok (.isub, 1) := by decide +kernel
theorem d_L_law_29 : decode code 29 = .ok (.if_icmp .gt (775), 3) := by decide +kernel
theorem d_L_law_32 : decode code 32 = .ok (.aload_n 0, 1) := by decide +kernel
theorem d_L_law_33 : decode code 33 = .ok (.iload 4, 2) := by decide +kernel
theorem d_L_law_35 : decode code 35 = .ok (.iaload, 1) := by decide +kernel
theorem d_L_law_36 : decode code 36 = .ok (.bipush (31), 2) := by decide +kernel
theorem d_L_law_38 : decode code 38 = .ok (.iand, 1) := by decide +kernel
theorem d_L_law_39 : decode code 39 = .ok (.tableswitch (759) (0) (16) #[81, 181, 194, 207, 220, 233, 296, 392, 488, 544, 557, 583, 596, 621, 634, 690, 746], 81) := by decide +kernel
theorem d_L_law_120 : decode code 120 = .ok (.aload_n 1, 1) := by decide +kernel
theorem d_L_law_121 : decode code 121 = .ok (.aload_n 0, 1) := by decide +kernel
theorem d_L_law_122 : decode code 122 = .ok (.iload 4, 2) := by decide +kernel
theorem d_L_law_124 : decode code 124 = .ok (.iconst (1), 1) := by decide +kernel
theorem d_L_law_125 : decode code 125 = .ok (.iadd, 1) := by decide +kernel
theorem d_L_law_126 : decode code 126 = .ok (.iaload, 1) := by decide +kernel
theorem d_L_law_127 : decode code 127 = .ok (.aload_n 0, 1) := by decide +kernel
theorem d_L_law_128 : decode code 128 = .ok (.iload 4, 2) := by decide +kernel
theorem d_L_law_130 : decode code 130 = .ok (.iconst (2), 1) := by decide +kernel
theorem d_L_law_131 : decode code 131 = .ok (.iadd, 1) := by decide +kernel
theorem d_L_law_132 : decode code 132 = .ok (.iaload, 1) := by decide +kernel
theorem d_L_law_133 : decode code 133 = .ok (.i2l, 1) := by decide +kernel
theorem d_L_law_134 : decode code 134 = .ok (.bipush (32), 2) := by decide +kernel
theorem d_L_law_136 : decode code 136 = .ok (.lshl, 1) := by decide +kernel
theorem d_L_law_137 : decode code 137 = .ok (.aload_n 0, 1) := by decide +kernel
theorem d_L_law_138 : decode code 138 = .ok (.iload 4, 2) := by decide +kernel
theorem d_L_law_140 : decode code 140 = .ok (.iconst (3), 1) := by decide +kernel
theorem d_L_law_141 : decode code 141 = .ok (.iadd, 1) := by decide +kernel
theorem d_L_law_142 : decode code 142 = .ok (.iaload, 1) := by decide +kernel
theorem d_L_law_143 : decode code 143 = .ok (.i2l, 1) := by decide +kernel
theorem d_L_law_144 : decode code 144 = .ok (.ldc2_w 44, 3) := by decide +kernel
theorem d_L_law_147 : decode code 147 = .ok (.land, 1) := by decide +kernel
theorem d_L_law_148 : decode code 148 = .ok (.lor, 1) := by decide +kernel
theorem d_L_law_149 : decode code 149 = .ok (.aload_n 3, 1) := by decide +kernel
theorem d_L_law_150 : decode code 150 = .ok (.invokestatic 46, 3) := by decide +kernel
theorem d_L_law_153 : decode code 153 = .ok (.istore 5, 2) := by decide +kernel
theorem d_L_law_155 : decode code 155 = .ok (.aload_n 2, 1) := by decide +kernel
theorem d_L_law_156 : decode code 156 = .ok (.aload_n 0, 1) := by decide +kernel
theorem d_L_law_157 : decode code 157 = .ok (.iload 4, 2) := by decide +kernel
theorem d_L_law_159 : decode code 159 = .ok (.iconst (1), 1) := by decide +kernel
theorem d_L_law_160 : decode code 160 = .ok (.iadd, 1) := by decide +kernel
theorem d_L_law_161 : decode code 161 = .ok (.iaload, 1) := by decide +kernel
theorem d_L_law_162 : decode code 162 = .ok (.aload_n 0, 1) := by decide +kernel
theorem d_L_law_163 : decode code 163 = .ok (.iload 4, 2) := by decide +kernel
theorem d_L_law_165 : decode code 165 = .ok (.iconst (2), 1) := by decide +kernel
theorem d_L_law_166 : decode code 166 = .ok (.iadd, 1) := by decide +kernel
theorem d_L_law_167 : decode code 167 = .ok (.iaload, 1) := by decide +kernel
theorem d_L_law_168 : decode code 168 = .ok (.i2l, 1) := by decide +kernel
theorem d_L_law_169 : decode code 169 = .ok (.bipush (32), 2) := by decide +kernel
theorem d_L_law_171 : decode code 171 = .ok (.lshl, 1) := by decide +kernel
theorem d_L_law_172 : decode code 172 = .ok (.aload_n 0, 1) := by decide +kernel
theorem d_L_law_173 : decode code 173 = .ok (.iload 4, 2) := by decide +kernel
theorem d_L_law_175 : decode code 175 = .ok (.iconst (3), 1) := by decide +kernel
theorem d_L_law_176 : decode code 176 = .ok (.iadd, 1) := by decide +kernel
theorem d_L_law_177 : decode code 177 = .ok (.iaload, 1) := by decide +kernel
theorem d_L_law_178 : decode code 178 = .ok (.i2l, 1) := by decide +kernel
theorem d_L_law_179 : decode code 179 = .ok (.ldc2_w 44, 3) := by decide +kernel
theorem d_L_law_182 : decode code 182 = .ok (.land, 1) := by decide +kernel
theorem d_L_law_183 : decode code 183 = .ok (.lor, 1) := by decide +kernel
theorem d_L_law_184 : decode code 184 = .ok (.invokevirtual 51, 3) := by decide +kernel
theorem d_L_law_187 : decode code 187 = .ok (.istore 6, 2) := by decide +kernel
theorem d_L_law_189 : decode code 189 = .ok (.aload_n 2, 1) := by decide +kernel
theorem d_L_law_190 : decode code 190 = .ok (.invokevirtual 52, 3) := by decide +kernel
theorem d_L_law_193 : decode code 193 = .ok (.iload 5, 2) := by decide +kernel
theorem d_L_law_195 : decode code 195 = .ok (.if_icmp .eq (5), 3) := by decide +kernel
theorem d_L_law_198 : decode code 198 = .ok (.iconst (0), 1) := by decide +kernel
theorem d_L_law_199 : decode code 199 = .ok (.ireturn, 1) := by decide +kernel
theorem d_L_law_200 : decode code 200 = .ok (.iload 5, 2) := by decide +kernel
theorem d_L_law_202 : decode code 202 = .ok (.ifCond .ne (15), 3) := by decide +kernel
theorem d_L_law_205 : decode code 205 = .ok (.aload_n 3, 1) := by decide +kernel
theorem d_L_law_206 : decode code 206 = .ok (.iconst (0), 1) := by decide +kernel
theorem d_L_law_207 : decode code 207 = .ok (.laload, 1) := by decide +kernel
theorem d_L_law_208 : decode code 208 = .ok (.iload 6, 2) := by decide +kernel
theorem d_L_law_210 : decode code 210 = .ok (.i2l, 1) := by decide +kernel
theorem d_L_law_211 : decode code 211 = .ok (.lcmp, 1) := by decide +kernel
theorem d_L_law_212 : decode code 212 = .ok (.ifCond .eq (5), 3) := by decide +kernel
theorem d_L_law_215 : decode code 215 = .ok (.iconst (0), 1) := by decide +kernel
theorem d_L_law_216 : decode code 216 = .ok (.ireturn, 1) := by decide +kernel
theorem d_L_law_217 : decode code 217 = .ok (.goto (581), 3) := by decide +kernel
theorem d_L_law_220 : decode code 220 = .ok (.aload_n 1, 1) := by decide +kernel
theorem d_L_law_221 : decode code 221 = .ok (.invokevirtual 56, 3) := by decide +kernel
theorem d_L_law_224 : decode code 224 = .ok (.aload_n 2, 1) := by decide +kernel
theorem d_L_law_225 : decode code 225 = .ok (.invokevirtual 59, 3) := by decide +kernel
theorem d_L_law_228 : decode code 228 = .ok (.if_icmp .eq (570), 3) := by decide +kernel
theorem d_L_law_231 : decode code 231 = .ok (.iconst (0), 1) := by decide +kernel
theorem d_L_law_232 : decode code 232 = .ok (.ireturn, 1) := by decide +kernel
theorem d_L_law_233 : decode code 233 = .ok (.aload_n 1, 1) := by decide +kernel
theorem d_L_law_234 : decode code 234 = .ok (.invokevirtual 60, 3) := by decide +kernel
theorem d_L_law_237 : decode code 237 = .ok (.aload_n 2, 1) := by decide +kernel
theorem d_L_law_238 : decode code 238 = .ok (.invokevirtual 63, 3) := by decide +kernel
theorem d_L_law_241 : decode code 241 = .ok (.if_icmp .eq (557), 3) := by decide +kernel
theorem d_L_law_244 : decode code 244 = .ok (.iconst (0), 1) := by decide +kernel
theorem d_L_law_245 : decode code 245 = .ok (.ireturn, 1) := by decide +kernel
theorem d_L_law_246 : decode code 246 = .ok (.aload_n 1, 1) := by decide +kernel
theorem d_L_law_247 : decode code 247 = .ok (.invokevirtual 64, 3) := by decide +kernel
theorem d_L_law_250 : decode code 250 = .ok (.aload_n 2, 1) := by decide +kernel
theorem d_L_law_251 : decode code 251 = .ok (.invokevirtual 67, 3) := by decide +kernel
theorem d_L_law_254 : decode code 254 = .ok (.if_icmp .eq (544), 3) := by decide +kernel
theorem d_L_law_257 : decode code 257 = .ok (.iconst (0), 1) := by decide +kernel
theorem d_L_law_258 : decode code 258 = .ok (.ireturn, 1) := by decide +kernel
theorem d_L_law_259 : decode code 259 = .ok (.aload_n 1, 1) := by decide +kernel
theorem d_L_law_260 : decode code 260 = .ok (.invokevirtual 68, 3) := by decide +kernel
theorem d_L_law_263 : decode code 263 = .ok (.aload_n 2, 1) := by decide +kernel
theorem d_L_law_264 : decode code 264 = .ok (.invokevirtual 71, 3) := by decide +kernel
theorem d_L_law_267 : decode code 267 = .ok (.if_icmp .eq (531), 3) := by decide +kernel
theorem d_L_law_270 : decode code 270 = .ok (.iconst (0), 1) := by decide +kernel
theorem d_L_law_271 : decode code 271 = .ok (.ireturn, 1) := by decide +kernel
theorem d_L_law_272 : decode code 272 = .ok (.aload_n 1, 1) := by decide +kernel
theorem d_L_law_273 : decode code 273 = .ok (.aload_n 0, 1) := by decide +kernel
theorem d_L_law_274 : decode code 274 = .ok (.iload 4, 2) := by decide +kernel
theorem d_L_law_276 : decode code 276 = .ok (.iconst (1), 1) := by decide +kernel
theorem d_L_law_277 : decode code 277 = .ok (.iadd, 1) := by decide +kernel
theorem d_L_law_278 : decode code 278 = .ok (.iaload, 1) := by decide +kernel
theorem d_L_law_279 : decode code 279 = .ok (.aload_n 3, 1) := by decide +kernel
theorem d_L_law_280 : decode code 280 = .ok (.invokestatic 72, 3) := by decide +kernel
theorem d_L_law_283 : decode code 283 = .ok (.istore 5, 2) := by decide +kernel
theorem d_L_law_285 : decode code 285 = .ok (.aload_n 2, 1) := by decide +kernel
theorem d_L_law_286 : decode code 286 = .ok (.aload_n 0, 1) := by decide +kernel
theorem d_L_law_287 : decode code 287 = .ok (.iload 4, 2) := by decide +kernel
theorem d_L_law_289 : decode code 289 = .ok (.iconst (1), 1) := by decide +kernel
theorem d_L_law_290 : decode code 290 = .ok (.iadd, 1) := by decide +kernel
theorem d_L_law_291 : decode code 291 = .ok (.iaload, 1) := by decide +kernel
theorem d_L_law_292 : decode code 292 = .ok (.invokevirtual 75, 3) := by decide +kernel
theorem d_L_law_295 : decode code 295 = .ok (.istore 6, 2) := by decide +kernel
theorem d_L_law_297 : decode code 297 = .ok (.aload_n 2, 1) := by decide +kernel
theorem d_L_law_298 : decode code 298 = .ok (.invokevirtual 52, 3) := by decide +kernel
theorem d_L_law_301 : decode code 301 = .ok (.iload 5, 2) := by decide +kernel
theorem d_L_law_303 : decode code 303 = .ok (.if_icmp .eq (5), 3) := by decide +kernel
theorem d_L_law_306 : decode code 306 = .ok (.iconst (0), 1) := by decide +kernel
theorem d_L_law_307 : decode code 307 = .ok (.ireturn, 1) := by decide +kernel
theorem d_L_law_308 : decode code 308 = .ok (.iload 5, 2) := by decide +kernel
theorem d_L_law_310 : decode code 310 = .ok (.ifCond .ne (22), 3) := by decide +kernel
theorem d_L_law_313 : decode code 313 = .ok (.aload_n 3, 1) := by decide +kernel
theorem d_L_law_314 : decode code 314 = .ok (.iconst (0), 1) := by decide +kernel
theorem d_L_law_315 : decode code 315 = .ok (.laload, 1) := by decide +kernel
theorem d_L_law_316 : decode code 316 = .ok (.iload 6, 2) := by decide +kernel
theorem d_L_law_318 : decode code 318 = .ok (.ifCond .eq (7), 3) := by decide +kernel
theorem d_L_law_321 : decode code 321 = .ok (.lconst 1, 1) := by decide +kernel
theorem d_L_law_322 : decode code 322 = .ok (.goto (4), 3) := by decide +kernel
theorem d_L_law_325 : decode code 325 = .ok (.lconst 0, 1) := by decide +kernel
theorem d_L_law_326 : decode code 326 = .ok (.lcmp, 1) := by decide +kernel
theorem d_L_law_327 : decode code 327 = .ok (.ifCond .eq (5), 3) := by decide +kernel
theorem d_L_law_330 : decode code 330 = .ok (.iconst (0), 1) := by decide +kernel
theorem d_L_law_331 : decode code 331 = .ok (.ireturn, 1) := by decide +kernel
theorem d_L_law_332 : decode code 332 = .ok (.goto (466), 3) := by decide +kernel
theorem d_L_law_335 : decode code 335 = .ok (.aload_n 1, 1) := by decide +kernel
theorem d_L_law_336 : decode code 336 = .ok (.aload_n 0, 1) := by decide +kernel
theorem d_L_law_337 : decode code 337 = .ok (.iload 4, 2) := by decide +kernel
theorem d_L_law_339 : decode code 339 = .ok (.iconst (1), 1) := by decide +kernel
theorem d_L_law_340 : decode code 340 = .ok (.iadd, 1) := by decide +kernel
theorem d_L_law_341 : decode code 341 = .ok (.iaload, 1) := by decide +kernel
theorem d_L_law_342 : decode code 342 = .ok (.aload_n 0, 1) := by decide +kernel
theorem d_L_law_343 : decode code 343 = .ok (.iload 4, 2) := by decide +kernel
theorem d_L_law_345 : decode code 345 = .ok (.iconst (2), 1) := by decide +kernel
theorem d_L_law_346 : decode code 346 = .ok (.iadd, 1) := by decide +kernel
theorem d_L_law_347 : decode code 347 = .ok (.iaload, 1) := by decide +kernel
theorem d_L_law_348 : decode code 348 = .ok (.aload_n 0, 1) := by decide +kernel
theorem d_L_law_349 : decode code 349 = .ok (.iload 4, 2) := by decide +kernel
theorem d_L_law_351 : decode code 351 = .ok (.iconst (3), 1) := by decide +kernel
theorem d_L_law_352 : decode code 352 = .ok (.iadd, 1) := by decide +kernel
theorem d_L_law_353 : decode code 353 = .ok (.iaload, 1) := by decide +kernel
theorem d_L_law_354 : decode code 354 = .ok (.ifCond .eq (7), 3) := by decide +kernel
theorem d_L_law_357 : decode code 357 = .ok (.iconst (1), 1) := by decide +kernel
theorem d_L_law_358 : decode code 358 = .ok (.goto (4), 3) := by decide +kernel
theorem d_L_law_361 : decode code 361 = .ok (.iconst (0), 1) := by decide +kernel
theorem d_L_law_362 : decode code 362 = .ok (.aload_n 3, 1) := by decide +kernel
theorem d_L_law_363 : decode code 363 = .ok (.invokestatic 76, 3) := by decide +kernel
theorem d_L_law_366 : decode code 366 = .ok (.istore 5, 2) := by decide +kernel
theorem d_L_law_368 : decode code 368 = .ok (.aload_n 2, 1) := by decide +kernel
theorem d_L_law_369 : decode code 369 = .ok (.aload_n 0, 1) := by decide +kernel
theorem d_L_law_370 : decode code 370 = .ok (.iload 4, 2) := by decide +kernel
theorem d_L_law_372 : decode code 372 = .ok (.iconst (1), 1) := by decide +kernel
theorem d_L_law_373 : decode code 373 = .ok (.iadd, 1) := by decide +kernel
theorem d_L_law_374 : decode code 374 = .ok (.iaload, 1) := by decide +kernel
theorem d_L_law_375 : decode code 375 = .ok (.aload_n 0, 1) := by decide +kernel
theorem d_L_law_376 : decode code 376 = .ok (.iload 4, 2) := by decide +kernel
theorem d_L_law_378 : decode code 378 = .ok (.iconst (2), 1) := by decide +kernel
theorem d_L_law_379 : decode code 379 = .ok (.iadd, 1) := by decide +kernel
theorem d_L_law_380 : decode code 380 = .ok (.iaload, 1) := by decide +kernel
theorem d_L_law_381 : decode code 381 = .ok (.aload_n 0, 1) := by decide +kernel
theorem d_L_law_382 : decode code 382 = .ok (.iload 4, 2) := by decide +kernel
theorem d_L_law_384 : decode code 384 = .ok (.iconst (3), 1) := by decide +kernel
theorem d_L_law_385 : decode code 385 = .ok (.iadd, 1) := by decide +kernel
theorem d_L_law_386 : decode code 386 = .ok (.iaload, 1) := by decide +kernel
theorem d_L_law_387 : decode code 387 = .ok (.ifCond .eq (7), 3) := by decide +kernel
theorem d_L_law_390 : decode code 390 = .ok (.iconst (1), 1) := by decide +kernel
theorem d_L_law_391 : decode code 391 = .ok (.goto (4), 3) := by decide +kernel
theorem d_L_law_394 : decode code 394 = .ok (.iconst (0), 1) := by decide +kernel
theorem d_L_law_395 : decode code 395 = .ok (.invokevirtual 79, 3) := by decide +kernel
theorem d_L_law_398 : decode code 398 = .ok (.istore 6, 2) := by decide +kernel
theorem d_L_law_400 : decode code 400 = .ok (.aload_n 2, 1) := by decide +kernel
theorem d_L_law_401 : decode code 401 = .ok (.invokevirtual 52, 3) := by decide +kernel
theorem d_L_law_404 : decode code 404 = .ok (.iload 5, 2) := by decide +kernel
theorem d_L_law_406 : decode code 406 = .ok (.if_icmp .eq (5), 3) := by decide +kernel
theorem d_L_law_409 : decode code 409 = .ok (.iconst (0), 1) := by decide +kernel
theorem d_L_law_410 : decode code 410 = .ok (.ireturn, 1) := by decide +kernel
theorem d_L_law_411 : decode code 411 = .ok (.iload 5, 2) := by decide +kernel
theorem d_L_law_413 : decode code 413 = .ok (.ifCond .ne (15), 3) := by decide +kernel
theorem d_L_law_416 : decode code 416 = .ok (.aload_n 3, 1) := by decide +kernel
theorem d_L_law_417 : decode code 417 = .ok (.iconst (0), 1) := by decide +kernel
theorem d_L_law_418 : decode code 418 = .ok (.laload, 1) := by decide +kernel
theorem d_L_law_419 : decode code 419 = .ok (.iload 6, 2) := by decide +kernel
theorem d_L_law_421 : decode code 421 = .ok (.i2l, 1) := by decide +kernel
theorem d_L_law_422 : decode code 422 = .ok (.lcmp, 1) := by decide +kernel
theorem d_L_law_423 : decode code 423 = .ok (.ifCond .eq (5), 3) := by decide +kernel
theorem d_L_law_426 : decode code 426 = .ok (.iconst (0), 1) := by decide +kernel
theorem d_L_law_427 : decode code 427 = .ok (.ireturn, 1) := by decide +kernel
theorem d_L_law_428 : decode code 428 = .ok (.goto (370), 3) := by decide +kernel
theorem d_L_law_431 : decode code 431 = .ok (.aload_n 1, 1) := by decide +kernel
theorem d_L_law_432 : decode code 432 = .ok (.aload_n 0, 1) := by decide +kernel
theorem d_L_law_433 : decode code 433 = .ok (.iload 4, 2) := by decide +kernel
theorem d_L_law_435 : decode code 435 = .ok (.iconst (1), 1) := by decide +kernel
theorem d_L_law_436 : decode code 436 = .ok (.iadd, 1) := by decide +kernel
theorem d_L_law_437 : decode code 437 = .ok (.iaload, 1) := by decide +kernel
theorem d_L_law_438 : decode code 438 = .ok (.aload_n 0, 1) := by decide +kernel
theorem d_L_law_439 : decode code 439 = .ok (.iload 4, 2) := by decide +kernel
theorem d_L_law_441 : decode code 441 = .ok (.iconst (2), 1) := by decide +kernel
theorem d_L_law_442 : decode code 442 = .ok (.iadd, 1) := by decide +kernel
theorem d_L_law_443 : decode code 443 = .ok (.iaload, 1) := by decide +kernel
theorem d_L_law_444 : decode code 444 = .ok (.aload_n 0, 1) := by decide +kernel
theorem d_L_law_445 : decode code 445 = .ok (.iload 4, 2) := by decide +kernel
theorem d_L_law_447 : decode code 447 = .ok (.iconst (3), 1) := by decide +kernel
theorem d_L_law_448 : decode code 448 = .ok (.iadd, 1) := by decide +kernel
theorem d_L_law_449 : decode code 449 = .ok (.iaload, 1) := by decide +kernel
theorem d_L_law_450 : decode code 450 = .ok (.ifCond .eq (7), 3) := by decide +kernel
theorem d_L_law_453 : decode code 453 = .ok (.iconst (1), 1) := by decide +kernel
theorem d_L_law_454 : decode code 454 = .ok (.goto (4), 3) := by decide +kernel
theorem d_L_law_457 : decode code 457 = .ok (.iconst (0), 1) := by decide +kernel
theorem d_L_law_458 : decode code 458 = .ok (.aload_n 3, 1) := by decide +kernel
theorem d_L_law_459 : decode code 459 = .ok (.invokestatic 80, 3) := by decide +kernel
theorem d_L_law_462 : decode code 462 = .ok (.istore 5, 2) := by decide +kernel
theorem d_L_law_464 : decode code 464 = .ok (.aload_n 2, 1) := by decide +kernel
theorem d_L_law_465 : decode code 465 = .ok (.aload_n 0, 1) := by decide +kernel
theorem d_L_law_466 : decode code 466 = .ok (.iload 4, 2) := by decide +kernel
theorem d_L_law_468 : decode code 468 = .ok (.iconst (1), 1) := by decide +kernel
theorem d_L_law_469 : decode code 469 = .ok (.iadd, 1) := by decide +kernel
theorem d_L_law_470 : decode code 470 = .ok (.iaload, 1) := by decide +kernel
theorem d_L_law_471 : decode code 471 = .ok (.aload_n 0, 1) := by decide +kernel
theorem d_L_law_472 : decode code 472 = .ok (.iload 4, 2) := by decide +kernel
theorem d_L_law_474 : decode code 474 = .ok (.iconst (2), 1) := by decide +kernel
theorem d_L_law_475 : decode code 475 = .ok (.iadd, 1) := by decide +kernel
theorem d_L_law_476 : decode code 476 = .ok (.iaload, 1) := by decide +kernel
theorem d_L_law_477 : decode code 477 = .ok (.aload_n 0, 1) := by decide +kernel
theorem d_L_law_478 : decode code 478 = .ok (.iload 4, 2) := by decide +kernel
theorem d_L_law_480 : decode code 480 = .ok (.iconst (3), 1) := by decide +kernel
theorem d_L_law_481 : decode code 481 = .ok (.iadd, 1) := by decide +kernel
theorem d_L_law_482 : decode code 482 = .ok (.iaload, 1) := by decide +kernel
theorem d_L_law_483 : decode code 483 = .ok (.ifCond .eq (7), 3) := by decide +kernel
theorem d_L_law_486 : decode code 486 = .ok (.iconst (1), 1) := by decide +kernel
theorem d_L_law_487 : decode code 487 = .ok (.goto (4), 3) := by decide +kernel
theorem d_L_law_490 : decode code 490 = .ok (.iconst (0), 1) := by decide +kernel
theorem d_L_law_491 : decode code 491 = .ok (.invokevirtual 82, 3) := by decide +kernel
theorem d_L_law_494 : decode code 494 = .ok (.istore 6, 2) := by decide +kernel
theorem d_L_law_496 : decode code 496 = .ok (.aload_n 2, 1) := by decide +kernel
theorem d_L_law_497 : decode code 497 = .ok (.invokevirtual 52, 3) := by decide +kernel
theorem d_L_law_500 : decode code 500 = .ok (.iload 5, 2) := by decide +kernel
theorem d_L_law_502 : decode code 502 = .ok (.if_icmp .eq (5), 3) := by decide +kernel
theorem d_L_law_505 : decode code 505 = .ok (.iconst (0), 1) := by decide +kernel
theorem d_L_law_506 : decode code 506 = .ok (.ireturn, 1) := by decide +kernel
theorem d_L_law_507 : decode code 507 = .ok (.iload 5, 2) := by decide +kernel
theorem d_L_law_509 : decode code 509 = .ok (.ifCond .ne (15), 3) := by decide +kernel
theorem d_L_law_512 : decode code 512 = .ok (.aload_n 3, 1) := by decide +kernel
theorem d_L_law_513 : decode code 513 = .ok (.iconst (0), 1) := by decide +kernel
theorem d_L_law_514 : decode code 514 = .ok (.laload, 1) := by decide +kernel
theorem d_L_law_515 : decode code 515 = .ok (.iload 6, 2) := by decide +kernel
theorem d_L_law_517 : decode code 517 = .ok (.i2l, 1) := by decide +kernel
theorem d_L_law_518 : decode code 518 = .ok (.lcmp, 1) := by decide +kernel
theorem d_L_law_519 : decode code 519 = .ok (.ifCond .eq (5), 3) := by decide +kernel
theorem d_L_law_522 : decode code 522 = .ok (.iconst (0), 1) := by decide +kernel
theorem d_L_law_523 : decode code 523 = .ok (.ireturn, 1) := by decide +kernel
theorem d_L_law_524 : decode code 524 = .ok (.goto (274), 3) := by decide +kernel
theorem d_L_law_527 : decode code 527 = .ok (.aload_n 1, 1) := by decide +kernel
theorem d_L_law_528 : decode code 528 = .ok (.aload_n 0, 1) := by decide +kernel
theorem d_L_law_529 : decode code 529 = .ok (.iload 4, 2) := by decide +kernel
theorem d_L_law_531 : decode code 531 = .ok (.iconst (1), 1) := by decide +kernel
theorem d_L_law_532 : decode code 532 = .ok (.iadd, 1) := by decide +kernel
theorem d_L_law_533 : decode code 533 = .ok (.iaload, 1) := by decide +kernel
theorem d_L_law_534 : decode code 534 = .ok (.aload_n 3, 1) := by decide +kernel
theorem d_L_law_535 : decode code 535 = .ok (.invokestatic 83, 3) := by decide +kernel
theorem d_L_law_538 : decode code 538 = .ok (.istore 5, 2) := by decide +kernel
theorem d_L_law_540 : decode code 540 = .ok (.aload_n 2, 1) := by decide +kernel
theorem d_L_law_541 : decode code 541 = .ok (.aload_n 0, 1) := by decide +kernel
theorem d_L_law_542 : decode code 542 = .ok (.iload 4, 2) := by decide +kernel
theorem d_L_law_544 : decode code 544 = .ok (.iconst (1), 1) := by decide +kernel
theorem d_L_law_545 : decode code 545 = .ok (.iadd, 1) := by decide +kernel
theorem d_L_law_546 : decode code 546 = .ok (.iaload, 1) := by decide +kernel
theorem d_L_law_547 : decode code 547 = .ok (.invokevirtual 85, 3) := by decide +kernel
theorem d_L_law_550 : decode code 550 = .ok (.istore 6, 2) := by decide +kernel
theorem d_L_law_552 : decode code 552 = .ok (.aload_n 2, 1) := by decide +kernel
theorem d_L_law_553 : decode code 553 = .ok (.invokevirtual 52, 3) := by decide +kernel
theorem d_L_law_556 : decode code 556 = .ok (.iload 5, 2) := by decide +kernel
theorem d_L_law_558 : decode code 558 = .ok (.if_icmp .eq (5), 3) := by decide +kernel
theorem d_L_law_561 : decode code 561 = .ok (.iconst (0), 1) := by decide +kernel
theorem d_L_law_562 : decode code 562 = .ok (.ireturn, 1) := by decide +kernel
theorem d_L_law_563 : decode code 563 = .ok (.iload 5, 2) := by decide +kernel
theorem d_L_law_565 : decode code 565 = .ok (.ifCond .ne (15), 3) := by decide +kernel
theorem d_L_law_568 : decode code 568 = .ok (.aload_n 3, 1) := by decide +kernel
theorem d_L_law_569 : decode code 569 = .ok (.iconst (0), 1) := by decide +kernel
theorem d_L_law_570 : decode code 570 = .ok (.laload, 1) := by decide +kernel
theorem d_L_law_571 : decode code 571 = .ok (.iload 6, 2) := by decide +kernel
theorem d_L_law_573 : decode code 573 = .ok (.i2l, 1) := by decide +kernel
theorem d_L_law_574 : decode code 574 = .ok (.lcmp, 1) := by decide +kernel
theorem d_L_law_575 : decode code 575 = .ok (.ifCond .eq (5), 3) := by decide +kernel
theorem d_L_law_578 : decode code 578 = .ok (.iconst (0), 1) := by decide +kernel
theorem d_L_law_579 : decode code 579 = .ok (.ireturn, 1) := by decide +kernel
theorem d_L_law_580 : decode code 580 = .ok (.goto (218), 3) := by decide +kernel
theorem d_L_law_583 : decode code 583 = .ok (.aload_n 1, 1) := by decide +kernel
theorem d_L_law_584 : decode code 584 = .ok (.invokevirtual 86, 3) := by decide +kernel
theorem d_L_law_587 : decode code 587 = .ok (.aload_n 2, 1) := by decide +kernel
theorem d_L_law_588 : decode code 588 = .ok (.invokevirtual 89, 3) := by decide +kernel
theorem d_L_law_591 : decode code 591 = .ok (.if_icmp .eq (207), 3) := by decide +kernel
theorem d_L_law_594 : decode code 594 = .ok (.iconst (0), 1) := by decide +kernel
theorem d_L_law_595 : decode code 595 = .ok (.ireturn, 1) := by decide +kernel
theorem d_L_law_596 : decode code 596 = .ok (.aload_n 1, 1) := by decide +kernel
theorem d_L_law_597 : decode code 597 = .ok (.aload_n 0, 1) := by decide +kernel
theorem d_L_law_598 : decode code 598 = .ok (.iload 4, 2) := by decide +kernel
theorem d_L_law_600 : decode code 600 = .ok (.iconst (1), 1) := by decide +kernel
theorem d_L_law_601 : decode code 601 = .ok (.iadd, 1) := by decide +kernel
theorem d_L_law_602 : decode code 602 = .ok (.iaload, 1) := by decide +kernel
theorem d_L_law_603 : decode code 603 = .ok (.invokevirtual 90, 3) := by decide +kernel
theorem d_L_law_606 : decode code 606 = .ok (.aload_n 2, 1) := by decide +kernel
theorem d_L_law_607 : decode code 607 = .ok (.aload_n 0, 1) := by decide +kernel
theorem d_L_law_608 : decode code 608 = .ok (.iload 4, 2) := by decide +kernel
theorem d_L_law_610 : decode code 610 = .ok (.iconst (1), 1) := by decide +kernel
theorem d_L_law_611 : decode code 611 = .ok (.iadd, 1) := by decide +kernel
theorem d_L_law_612 : decode code 612 = .ok (.iaload, 1) := by decide +kernel
theorem d_L_law_613 : decode code 613 = .ok (.invokevirtual 94, 3) := by decide +kernel
theorem d_L_law_616 : decode code 616 = .ok (.lcmp, 1) := by decide +kernel
theorem d_L_law_617 : decode code 617 = .ok (.ifCond .eq (181), 3) := by decide +kernel
theorem d_L_law_620 : decode code 620 = .ok (.iconst (0), 1) := by decide +kernel
theorem d_L_law_621 : decode code 621 = .ok (.ireturn, 1) := by decide +kernel
theorem d_L_law_622 : decode code 622 = .ok (.aload_n 1, 1) := by decide +kernel
theorem d_L_law_623 : decode code 623 = .ok (.invokevirtual 95, 3) := by decide +kernel
theorem d_L_law_626 : decode code 626 = .ok (.aload_n 2, 1) := by decide +kernel
theorem d_L_law_627 : decode code 627 = .ok (.invokevirtual 98, 3) := by decide +kernel
theorem d_L_law_630 : decode code 630 = .ok (.if_icmp .eq (168), 3) := by decide +kernel
theorem d_L_law_633 : decode code 633 = .ok (.iconst (0), 1) := by decide +kernel
theorem d_L_law_634 : decode code 634 = .ok (.ireturn, 1) := by decide +kernel
theorem d_L_law_635 : decode code 635 = .ok (.aload_n 1, 1) := by decide +kernel
theorem d_L_law_636 : decode code 636 = .ok (.aload_n 0, 1) := by decide +kernel
theorem d_L_law_637 : decode code 637 = .ok (.iload 4, 2) := by decide +kernel
theorem d_L_law_639 : decode code 639 = .ok (.iconst (1), 1) := by decide +kernel
theorem d_L_law_640 : decode code 640 = .ok (.iadd, 1) := by decide +kernel
theorem d_L_law_641 : decode code 641 = .ok (.iaload, 1) := by decide +kernel
theorem d_L_law_642 : decode code 642 = .ok (.invokevirtual 99, 3) := by decide +kernel
theorem d_L_law_645 : decode code 645 = .ok (.aload_n 2, 1) := by decide +kernel
theorem d_L_law_646 : decode code 646 = .ok (.aload_n 0, 1) := by decide +kernel
theorem d_L_law_647 : decode code 647 = .ok (.iload 4, 2) := by decide +kernel
theorem d_L_law_649 : decode code 649 = .ok (.iconst (1), 1) := by decide +kernel
theorem d_L_law_650 : decode code 650 = .ok (.iadd, 1) := by decide +kernel
theorem d_L_law_651 : decode code 651 = .ok (.iaload, 1) := by decide +kernel
theorem d_L_law_652 : decode code 652 = .ok (.invokevirtual 102, 3) := by decide +kernel
theorem d_L_law_655 : decode code 655 = .ok (.if_icmp .eq (143), 3) := by decide +kernel
theorem d_L_law_658 : decode code 658 = .ok (.iconst (0), 1) := by decide +kernel
theorem d_L_law_659 : decode code 659 = .ok (.ireturn, 1) := by decide +kernel
theorem d_L_law_660 : decode code 660 = .ok (.aload_n 1, 1) := by decide +kernel
theorem d_L_law_661 : decode code 661 = .ok (.invokevirtual 103, 3) := by decide +kernel
theorem d_L_law_664 : decode code 664 = .ok (.aload_n 2, 1) := by decide +kernel
theorem d_L_law_665 : decode code 665 = .ok (.invokevirtual 106, 3) := by decide +kernel
theorem d_L_law_668 : decode code 668 = .ok (.if_icmp .eq (130), 3) := by decide +kernel
theorem d_L_law_671 : decode code 671 = .ok (.iconst (0), 1) := by decide +kernel
theorem d_L_law_672 : decode code 672 = .ok (.ireturn, 1) := by decide +kernel
theorem d_L_law_673 : decode code 673 = .ok (.aload_n 1, 1) := by decide +kernel
theorem d_L_law_674 : decode code 674 = .ok (.aload_n 0, 1) := by decide +kernel
theorem d_L_law_675 : decode code 675 = .ok (.iload 4, 2) := by decide +kernel
theorem d_L_law_677 : decode code 677 = .ok (.iconst (1), 1) := by decide +kernel
theorem d_L_law_678 : decode code 678 = .ok (.iadd, 1) := by decide +kernel
theorem d_L_law_679 : decode code 679 = .ok (.iaload, 1) := by decide +kernel
theorem d_L_law_680 : decode code 680 = .ok (.aload_n 3, 1) := by decide +kernel
theorem d_L_law_681 : decode code 681 = .ok (.invokestatic 107, 3) := by decide +kernel
theorem d_L_law_684 : decode code 684 = .ok (.istore 5, 2) := by decide +kernel
theorem d_L_law_686 : decode code 686 = .ok (.aload_n 2, 1) := by decide +kernel
theorem d_L_law_687 : decode code 687 = .ok (.aload_n 0, 1) := by decide +kernel
theorem d_L_law_688 : decode code 688 = .ok (.iload 4, 2) := by decide +kernel
theorem d_L_law_690 : decode code 690 = .ok (.iconst (1), 1) := by decide +kernel
theorem d_L_law_691 : decode code 691 = .ok (.iadd, 1) := by decide +kernel
theorem d_L_law_692 : decode code 692 = .ok (.iaload, 1) := by decide +kernel
theorem d_L_law_693 : decode code 693 = .ok (.invokevirtual 109, 3) := by decide +kernel
theorem d_L_law_696 : decode code 696 = .ok (.istore 6, 2) := by decide +kernel
theorem d_L_law_698 : decode code 698 = .ok (.aload_n 2, 1) := by decide +kernel
theorem d_L_law_699 : decode code 699 = .ok (.invokevirtual 52, 3) := by decide +kernel
theorem d_L_law_702 : decode code 702 = .ok (.iload 5, 2) := by decide +kernel
theorem d_L_law_704 : decode code 704 = .ok (.if_icmp .eq (5), 3) := by decide +kernel
theorem d_L_law_707 : decode code 707 = .ok (.iconst (0), 1) := by decide +kernel
theorem d_L_law_708 : decode code 708 = .ok (.ireturn, 1) := by decide +kernel
theorem d_L_law_709 : decode code 709 = .ok (.iload 5, 2) := by decide +kernel
theorem d_L_law_711 : decode code 711 = .ok (.ifCond .ne (15), 3) := by decide +kernel
theorem d_L_law_714 : decode code 714 = .ok (.aload_n 3, 1) := by decide +kernel
theorem d_L_law_715 : decode code 715 = .ok (.iconst (0), 1) := by decide +kernel
theorem d_L_law_716 : decode code 716 = .ok (.laload, 1) := by decide +kernel
theorem d_L_law_717 : decode code 717 = .ok (.iload 6, 2) := by decide +kernel
theorem d_L_law_719 : decode code 719 = .ok (.i2l, 1) := by decide +kernel
theorem d_L_law_720 : decode code 720 = .ok (.lcmp, 1) := by decide +kernel
theorem d_L_law_721 : decode code 721 = .ok (.ifCond .eq (5), 3) := by decide +kernel
theorem d_L_law_724 : decode code 724 = .ok (.iconst (0), 1) := by decide +kernel
theorem d_L_law_725 : decode code 725 = .ok (.ireturn, 1) := by decide +kernel
theorem d_L_law_726 : decode code 726 = .ok (.goto (72), 3) := by decide +kernel
theorem d_L_law_729 : decode code 729 = .ok (.aload_n 1, 1) := by decide +kernel
theorem d_L_law_730 : decode code 730 = .ok (.aload_n 0, 1) := by decide +kernel
theorem d_L_law_731 : decode code 731 = .ok (.iload 4, 2) := by decide +kernel
theorem d_L_law_733 : decode code 733 = .ok (.iconst (1), 1) := by decide +kernel
theorem d_L_law_734 : decode code 734 = .ok (.iadd, 1) := by decide +kernel
theorem d_L_law_735 : decode code 735 = .ok (.iaload, 1) := by decide +kernel
theorem d_L_law_736 : decode code 736 = .ok (.aload_n 3, 1) := by decide +kernel
theorem d_L_law_737 : decode code 737 = .ok (.invokestatic 110, 3) := by decide +kernel
theorem d_L_law_740 : decode code 740 = .ok (.istore 5, 2) := by decide +kernel
theorem d_L_law_742 : decode code 742 = .ok (.aload_n 2, 1) := by decide +kernel
theorem d_L_law_743 : decode code 743 = .ok (.aload_n 0, 1) := by decide +kernel
theorem d_L_law_744 : decode code 744 = .ok (.iload 4, 2) := by decide +kernel
theorem d_L_law_746 : decode code 746 = .ok (.iconst (1), 1) := by decide +kernel
theorem d_L_law_747 : decode code 747 = .ok (.iadd, 1) := by decide +kernel
theorem d_L_law_748 : decode code 748 = .ok (.iaload, 1) := by decide +kernel
theorem d_L_law_749 : decode code 749 = .ok (.invokevirtual 112, 3) := by decide +kernel
theorem d_L_law_752 : decode code 752 = .ok (.istore 6, 2) := by decide +kernel
theorem d_L_law_754 : decode code 754 = .ok (.aload_n 2, 1) := by decide +kernel
theorem d_L_law_755 : decode code 755 = .ok (.invokevirtual 52, 3) := by decide +kernel
theorem d_L_law_758 : decode code 758 = .ok (.iload 5, 2) := by decide +kernel
theorem d_L_law_760 : decode code 760 = .ok (.if_icmp .eq (5), 3) := by decide +kernel
theorem d_L_law_763 : decode code 763 = .ok (.iconst (0), 1) := by decide +kernel
theorem d_L_law_764 : decode code 764 = .ok (.ireturn, 1) := by decide +kernel
theorem d_L_law_765 : decode code 765 = .ok (.iload 5, 2) := by decide +kernel
theorem d_L_law_767 : decode code 767 = .ok (.ifCond .ne (15), 3) := by decide +kernel
theorem d_L_law_770 : decode code 770 = .ok (.aload_n 3, 1) := by decide +kernel
theorem d_L_law_771 : decode code 771 = .ok (.iconst (0), 1) := by decide +kernel
theorem d_L_law_772 : decode code 772 = .ok (.laload, 1) := by decide +kernel
theorem d_L_law_773 : decode code 773 = .ok (.iload 6, 2) := by decide +kernel
theorem d_L_law_775 : decode code 775 = .ok (.i2l, 1) := by decide +kernel
theorem d_L_law_776 : decode code 776 = .ok (.lcmp, 1) := by decide +kernel
theorem d_L_law_777 : decode code 777 = .ok (.ifCond .eq (5), 3) := by decide +kernel
theorem d_L_law_780 : decode code 780 = .ok (.iconst (0), 1) := by decide +kernel
theorem d_L_law_781 : decode code 781 = .ok (.ireturn, 1) := by decide +kernel
theorem d_L_law_782 : decode code 782 = .ok (.goto (16), 3) := by decide +kernel
theorem d_L_law_785 : decode code 785 = .ok (.aload_n 1, 1) := by decide +kernel
theorem d_L_law_786 : decode code 786 = .ok (.invokevirtual 113, 3) := by decide +kernel
theorem d_L_law_789 : decode code 789 = .ok (.aload_n 2, 1) := by decide +kernel
theorem d_L_law_790 : decode code 790 = .ok (.invokevirtual 116, 3) := by decide +kernel
theorem d_L_law_793 : decode code 793 = .ok (.if_icmp .eq (5), 3) := by decide +kernel
theorem d_L_law_796 : decode code 796 = .ok (.iconst (0), 1) := by decide +kernel
theorem d_L_law_797 : decode code 797 = .ok (.ireturn, 1) := by decide +kernel
theorem d_L_law_798 : decode code 798 = .ok (.iinc 4 (4), 3) := by decide +kernel
theorem d_L_law_801 : decode code 801 = .ok (.goto (-778), 3) := by decide +kernel
theorem d_L_law_804 : decode code 804 = .ok (.iconst (1), 1) := by decide +kernel
theorem d_L_law_805 : decode code 805 = .ok (.ireturn, 1) := by decide +kernel
