theorem dd_L_law_0 : decode code 0 = .ok (.new 8, 3) := by decide +kernel
theorem dd_L_law_3 : decode code 3 = .ok (.dup, 1) := by decide +kernel
theorem dd_L_law_4 : decode code 4 = .ok (.invokespecial 58, 3) := by decide +kernel
theorem dd_L_law_7 : decode code 7 = .ok (.astore_n 1, 1) := by decide +kernel
theorem dd_L_law_8 : decode code 8 = .ok (.new 59, 3) := by decide +kernel
theorem dd_L_law_11 : decode code 11 = .ok (.dup, 1) := by decide +kernel
theorem dd_L_law_12 : decode code 12 = .ok (.invokespecial 61, 3) := by decide +kernel
theorem dd_L_law_15 : decode code 15 = .ok (.astore_n 2, 1) := by decide +kernel
theorem dd_L_law_16 : decode code 16 = .ok (.iconst 1, 1) := by decide +kernel
theorem dd_L_law_17 : decode code 17 = .ok (.newarray .long, 2) := by decide +kernel
theorem dd_L_law_19 : decode code 19 = .ok (.astore_n 3, 1) := by decide +kernel
theorem dd_L_law_20 : decode code 20 = .ok (.iconst 0, 1) := by decide +kernel
theorem dd_L_law_21 : decode code 21 = .ok (.istore 4, 2) := by decide +kernel
theorem dd_L_law_23 : decode code 23 = .ok (.iload 4, 2) := by decide +kernel
theorem dd_L_law_25 : decode code 25 = .ok (.aload_n 0, 1) := by decide +kernel
theorem dd_L_law_26 : decode code 26 = .ok (.arraylength, 1) := by decide +kernel
theorem dd_L_law_27 : decode code 27 = .ok (.bipush 6, 2) := by decide +kernel
theorem dd_L_law_29 : decode code 29 = .ok (.isub, 1) := by decide +kernel
theorem dd_L_law_30 : decode code 30 = .ok (.if_icmp .gt 966, 3) := by decide +kernel
theorem dd_L_law_33 : decode code 33 = .ok (.aload_n 0, 1) := by decide +kernel
theorem dd_L_law_34 : decode code 34 = .ok (.iload 4, 2) := by decide +kernel
theorem dd_L_law_36 : decode code 36 = .ok (.iaload, 1) := by decide +kernel
theorem dd_L_law_37 : decode code 37 = .ok (.bipush 31, 2) := by decide +kernel
theorem dd_L_law_39 : decode code 39 = .ok (.iand, 1) := by decide +kernel
theorem dd_L_law_40 : decode code 40 = .ok (.tableswitch 950 0 16 #[84, 188, 224, 316, 352, 456, 469, 517, 530, 626, 694, 738, 751, 807, 832, 869, 894], 84) := by decide +kernel
theorem dd_L_law_124 : decode code 124 = .ok (.aload_n 1, 1) := by decide +kernel
theorem dd_L_law_125 : decode code 125 = .ok (.aload_n 0, 1) := by decide +kernel
theorem dd_L_law_126 : decode code 126 = .ok (.iload 4, 2) := by decide +kernel
theorem dd_L_law_128 : decode code 128 = .ok (.iconst 1, 1) := by decide +kernel
theorem dd_L_law_129 : decode code 129 = .ok (.iadd, 1) := by decide +kernel
theorem dd_L_law_130 : decode code 130 = .ok (.iaload, 1) := by decide +kernel
theorem dd_L_law_131 : decode code 131 = .ok (.aload_n 0, 1) := by decide +kernel
theorem dd_L_law_132 : decode code 132 = .ok (.iload 4, 2) := by decide +kernel
theorem dd_L_law_134 : decode code 134 = .ok (.iconst 2, 1) := by decide +kernel
theorem dd_L_law_135 : decode code 135 = .ok (.iadd, 1) := by decide +kernel
theorem dd_L_law_136 : decode code 136 = .ok (.iaload, 1) := by decide +kernel
theorem dd_L_law_137 : decode code 137 = .ok (.aload_n 0, 1) := by decide +kernel
theorem dd_L_law_138 : decode code 138 = .ok (.iload 4, 2) := by decide +kernel
theorem dd_L_law_140 : decode code 140 = .ok (.iconst 3, 1) := by decide +kernel
theorem dd_L_law_141 : decode code 141 = .ok (.iadd, 1) := by decide +kernel
theorem dd_L_law_142 : decode code 142 = .ok (.iaload, 1) := by decide +kernel
theorem dd_L_law_143 : decode code 143 = .ok (.aload_n 0, 1) := by decide +kernel
theorem dd_L_law_144 : decode code 144 = .ok (.iload 4, 2) := by decide +kernel
theorem dd_L_law_146 : decode code 146 = .ok (.iconst 4, 1) := by decide +kernel
theorem dd_L_law_147 : decode code 147 = .ok (.iadd, 1) := by decide +kernel
theorem dd_L_law_148 : decode code 148 = .ok (.iaload, 1) := by decide +kernel
theorem dd_L_law_149 : decode code 149 = .ok (.aload_n 0, 1) := by decide +kernel
theorem dd_L_law_150 : decode code 150 = .ok (.iload 4, 2) := by decide +kernel
theorem dd_L_law_152 : decode code 152 = .ok (.iconst 5, 1) := by decide +kernel
theorem dd_L_law_153 : decode code 153 = .ok (.iadd, 1) := by decide +kernel
theorem dd_L_law_154 : decode code 154 = .ok (.iaload, 1) := by decide +kernel
theorem dd_L_law_155 : decode code 155 = .ok (.aload_n 3, 1) := by decide +kernel
theorem dd_L_law_156 : decode code 156 = .ok (.invokestatic 62, 3) := by decide +kernel
theorem dd_L_law_159 : decode code 159 = .ok (.istore 5, 2) := by decide +kernel
theorem dd_L_law_161 : decode code 161 = .ok (.aload_n 2, 1) := by decide +kernel
theorem dd_L_law_162 : decode code 162 = .ok (.aload_n 0, 1) := by decide +kernel
theorem dd_L_law_163 : decode code 163 = .ok (.iload 4, 2) := by decide +kernel
theorem dd_L_law_165 : decode code 165 = .ok (.iconst 1, 1) := by decide +kernel
theorem dd_L_law_166 : decode code 166 = .ok (.iadd, 1) := by decide +kernel
theorem dd_L_law_167 : decode code 167 = .ok (.iaload, 1) := by decide +kernel
theorem dd_L_law_168 : decode code 168 = .ok (.aload_n 0, 1) := by decide +kernel
theorem dd_L_law_169 : decode code 169 = .ok (.iload 4, 2) := by decide +kernel
theorem dd_L_law_171 : decode code 171 = .ok (.iconst 2, 1) := by decide +kernel
theorem dd_L_law_172 : decode code 172 = .ok (.iadd, 1) := by decide +kernel
theorem dd_L_law_173 : decode code 173 = .ok (.iaload, 1) := by decide +kernel
theorem dd_L_law_174 : decode code 174 = .ok (.aload_n 0, 1) := by decide +kernel
theorem dd_L_law_175 : decode code 175 = .ok (.iload 4, 2) := by decide +kernel
theorem dd_L_law_177 : decode code 177 = .ok (.iconst 3, 1) := by decide +kernel
theorem dd_L_law_178 : decode code 178 = .ok (.iadd, 1) := by decide +kernel
theorem dd_L_law_179 : decode code 179 = .ok (.iaload, 1) := by decide +kernel
theorem dd_L_law_180 : decode code 180 = .ok (.aload_n 0, 1) := by decide +kernel
theorem dd_L_law_181 : decode code 181 = .ok (.iload 4, 2) := by decide +kernel
theorem dd_L_law_183 : decode code 183 = .ok (.iconst 4, 1) := by decide +kernel
theorem dd_L_law_184 : decode code 184 = .ok (.iadd, 1) := by decide +kernel
theorem dd_L_law_185 : decode code 185 = .ok (.iaload, 1) := by decide +kernel
theorem dd_L_law_186 : decode code 186 = .ok (.aload_n 0, 1) := by decide +kernel
theorem dd_L_law_187 : decode code 187 = .ok (.iload 4, 2) := by decide +kernel
theorem dd_L_law_189 : decode code 189 = .ok (.iconst 5, 1) := by decide +kernel
theorem dd_L_law_190 : decode code 190 = .ok (.iadd, 1) := by decide +kernel
theorem dd_L_law_191 : decode code 191 = .ok (.iaload, 1) := by decide +kernel
theorem dd_L_law_192 : decode code 192 = .ok (.invokevirtual 67, 3) := by decide +kernel
theorem dd_L_law_195 : decode code 195 = .ok (.istore 6, 2) := by decide +kernel
theorem dd_L_law_197 : decode code 197 = .ok (.aload_n 2, 1) := by decide +kernel
theorem dd_L_law_198 : decode code 198 = .ok (.invokevirtual 68, 3) := by decide +kernel
theorem dd_L_law_201 : decode code 201 = .ok (.iload 5, 2) := by decide +kernel
theorem dd_L_law_203 : decode code 203 = .ok (.if_icmp .eq 5, 3) := by decide +kernel
theorem dd_L_law_206 : decode code 206 = .ok (.iconst 0, 1) := by decide +kernel
theorem dd_L_law_207 : decode code 207 = .ok (.ireturn, 1) := by decide +kernel
theorem dd_L_law_208 : decode code 208 = .ok (.iload 5, 2) := by decide +kernel
theorem dd_L_law_210 : decode code 210 = .ok (.ifCond .ne 15, 3) := by decide +kernel
theorem dd_L_law_213 : decode code 213 = .ok (.aload_n 3, 1) := by decide +kernel
theorem dd_L_law_214 : decode code 214 = .ok (.iconst 0, 1) := by decide +kernel
theorem dd_L_law_215 : decode code 215 = .ok (.laload, 1) := by decide +kernel
theorem dd_L_law_216 : decode code 216 = .ok (.iload 6, 2) := by decide +kernel
theorem dd_L_law_218 : decode code 218 = .ok (.i2l, 1) := by decide +kernel
theorem dd_L_law_219 : decode code 219 = .ok (.lcmp, 1) := by decide +kernel
theorem dd_L_law_220 : decode code 220 = .ok (.ifCond .eq 5, 3) := by decide +kernel
theorem dd_L_law_223 : decode code 223 = .ok (.iconst 0, 1) := by decide +kernel
theorem dd_L_law_224 : decode code 224 = .ok (.ireturn, 1) := by decide +kernel
theorem dd_L_law_225 : decode code 225 = .ok (.goto 765, 3) := by decide +kernel
theorem dd_L_law_228 : decode code 228 = .ok (.aload_n 1, 1) := by decide +kernel
theorem dd_L_law_229 : decode code 229 = .ok (.aload_n 0, 1) := by decide +kernel
theorem dd_L_law_230 : decode code 230 = .ok (.iload 4, 2) := by decide +kernel
theorem dd_L_law_232 : decode code 232 = .ok (.iconst 1, 1) := by decide +kernel
theorem dd_L_law_233 : decode code 233 = .ok (.iadd, 1) := by decide +kernel
theorem dd_L_law_234 : decode code 234 = .ok (.iaload, 1) := by decide +kernel
theorem dd_L_law_235 : decode code 235 = .ok (.invokestatic 71, 3) := by decide +kernel
theorem dd_L_law_238 : decode code 238 = .ok (.istore 5, 2) := by decide +kernel
theorem dd_L_law_240 : decode code 240 = .ok (.aload_n 2, 1) := by decide +kernel
theorem dd_L_law_241 : decode code 241 = .ok (.aload_n 0, 1) := by decide +kernel
theorem dd_L_law_242 : decode code 242 = .ok (.iload 4, 2) := by decide +kernel
theorem dd_L_law_244 : decode code 244 = .ok (.iconst 1, 1) := by decide +kernel
theorem dd_L_law_245 : decode code 245 = .ok (.iadd, 1) := by decide +kernel
theorem dd_L_law_246 : decode code 246 = .ok (.iaload, 1) := by decide +kernel
theorem dd_L_law_247 : decode code 247 = .ok (.invokevirtual 74, 3) := by decide +kernel
theorem dd_L_law_250 : decode code 250 = .ok (.aload_n 2, 1) := by decide +kernel
theorem dd_L_law_251 : decode code 251 = .ok (.invokevirtual 68, 3) := by decide +kernel
theorem dd_L_law_254 : decode code 254 = .ok (.iload 5, 2) := by decide +kernel
theorem dd_L_law_256 : decode code 256 = .ok (.if_icmp .eq 5, 3) := by decide +kernel
theorem dd_L_law_259 : decode code 259 = .ok (.iconst 0, 1) := by decide +kernel
theorem dd_L_law_260 : decode code 260 = .ok (.ireturn, 1) := by decide +kernel
theorem dd_L_law_261 : decode code 261 = .ok (.goto 729, 3) := by decide +kernel
theorem dd_L_law_264 : decode code 264 = .ok (.aload_n 1, 1) := by decide +kernel
theorem dd_L_law_265 : decode code 265 = .ok (.aload_n 0, 1) := by decide +kernel
theorem dd_L_law_266 : decode code 266 = .ok (.iload 4, 2) := by decide +kernel
theorem dd_L_law_268 : decode code 268 = .ok (.iconst 1, 1) := by decide +kernel
theorem dd_L_law_269 : decode code 269 = .ok (.iadd, 1) := by decide +kernel
theorem dd_L_law_270 : decode code 270 = .ok (.iaload, 1) := by decide +kernel
theorem dd_L_law_271 : decode code 271 = .ok (.aload_n 0, 1) := by decide +kernel
theorem dd_L_law_272 : decode code 272 = .ok (.iload 4, 2) := by decide +kernel
theorem dd_L_law_274 : decode code 274 = .ok (.iconst 2, 1) := by decide +kernel
theorem dd_L_law_275 : decode code 275 = .ok (.iadd, 1) := by decide +kernel
theorem dd_L_law_276 : decode code 276 = .ok (.iaload, 1) := by decide +kernel
theorem dd_L_law_277 : decode code 277 = .ok (.ifCond .eq 7, 3) := by decide +kernel
theorem dd_L_law_280 : decode code 280 = .ok (.iconst 1, 1) := by decide +kernel
theorem dd_L_law_281 : decode code 281 = .ok (.goto 4, 3) := by decide +kernel
theorem dd_L_law_284 : decode code 284 = .ok (.iconst 0, 1) := by decide +kernel
theorem dd_L_law_285 : decode code 285 = .ok (.aload_n 0, 1) := by decide +kernel
theorem dd_L_law_286 : decode code 286 = .ok (.iload 4, 2) := by decide +kernel
theorem dd_L_law_288 : decode code 288 = .ok (.iconst 3, 1) := by decide +kernel
theorem dd_L_law_289 : decode code 289 = .ok (.iadd, 1) := by decide +kernel
theorem dd_L_law_290 : decode code 290 = .ok (.iaload, 1) := by decide +kernel
theorem dd_L_law_291 : decode code 291 = .ok (.ifCond .eq 7, 3) := by decide +kernel
theorem dd_L_law_294 : decode code 294 = .ok (.iconst 1, 1) := by decide +kernel
theorem dd_L_law_295 : decode code 295 = .ok (.goto 4, 3) := by decide +kernel
theorem dd_L_law_298 : decode code 298 = .ok (.iconst 0, 1) := by decide +kernel
theorem dd_L_law_299 : decode code 299 = .ok (.invokestatic 75, 3) := by decide +kernel
theorem dd_L_law_302 : decode code 302 = .ok (.istore 5, 2) := by decide +kernel
theorem dd_L_law_304 : decode code 304 = .ok (.aload_n 2, 1) := by decide +kernel
theorem dd_L_law_305 : decode code 305 = .ok (.aload_n 0, 1) := by decide +kernel
theorem dd_L_law_306 : decode code 306 = .ok (.iload 4, 2) := by decide +kernel
theorem dd_L_law_308 : decode code 308 = .ok (.iconst 1, 1) := by decide +kernel
theorem dd_L_law_309 : decode code 309 = .ok (.iadd, 1) := by decide +kernel
theorem dd_L_law_310 : decode code 310 = .ok (.iaload, 1) := by decide +kernel
theorem dd_L_law_311 : decode code 311 = .ok (.aload_n 0, 1) := by decide +kernel
theorem dd_L_law_312 : decode code 312 = .ok (.iload 4, 2) := by decide +kernel
theorem dd_L_law_314 : decode code 314 = .ok (.iconst 2, 1) := by decide +kernel
theorem dd_L_law_315 : decode code 315 = .ok (.iadd, 1) := by decide +kernel
theorem dd_L_law_316 : decode code 316 = .ok (.iaload, 1) := by decide +kernel
theorem dd_L_law_317 : decode code 317 = .ok (.ifCond .eq 7, 3) := by decide +kernel
theorem dd_L_law_320 : decode code 320 = .ok (.iconst 1, 1) := by decide +kernel
theorem dd_L_law_321 : decode code 321 = .ok (.goto 4, 3) := by decide +kernel
theorem dd_L_law_324 : decode code 324 = .ok (.iconst 0, 1) := by decide +kernel
theorem dd_L_law_325 : decode code 325 = .ok (.aload_n 0, 1) := by decide +kernel
theorem dd_L_law_326 : decode code 326 = .ok (.iload 4, 2) := by decide +kernel
theorem dd_L_law_328 : decode code 328 = .ok (.iconst 3, 1) := by decide +kernel
theorem dd_L_law_329 : decode code 329 = .ok (.iadd, 1) := by decide +kernel
theorem dd_L_law_330 : decode code 330 = .ok (.iaload, 1) := by decide +kernel
theorem dd_L_law_331 : decode code 331 = .ok (.ifCond .eq 7, 3) := by decide +kernel
theorem dd_L_law_334 : decode code 334 = .ok (.iconst 1, 1) := by decide +kernel
theorem dd_L_law_335 : decode code 335 = .ok (.goto 4, 3) := by decide +kernel
theorem dd_L_law_338 : decode code 338 = .ok (.iconst 0, 1) := by decide +kernel
theorem dd_L_law_339 : decode code 339 = .ok (.invokevirtual 78, 3) := by decide +kernel
theorem dd_L_law_342 : decode code 342 = .ok (.aload_n 2, 1) := by decide +kernel
theorem dd_L_law_343 : decode code 343 = .ok (.invokevirtual 68, 3) := by decide +kernel
theorem dd_L_law_346 : decode code 346 = .ok (.iload 5, 2) := by decide +kernel
theorem dd_L_law_348 : decode code 348 = .ok (.if_icmp .eq 5, 3) := by decide +kernel
theorem dd_L_law_351 : decode code 351 = .ok (.iconst 0, 1) := by decide +kernel
theorem dd_L_law_352 : decode code 352 = .ok (.ireturn, 1) := by decide +kernel
theorem dd_L_law_353 : decode code 353 = .ok (.goto 637, 3) := by decide +kernel
theorem dd_L_law_356 : decode code 356 = .ok (.aload_n 1, 1) := by decide +kernel
theorem dd_L_law_357 : decode code 357 = .ok (.aload_n 0, 1) := by decide +kernel
theorem dd_L_law_358 : decode code 358 = .ok (.iload 4, 2) := by decide +kernel
theorem dd_L_law_360 : decode code 360 = .ok (.iconst 1, 1) := by decide +kernel
theorem dd_L_law_361 : decode code 361 = .ok (.iadd, 1) := by decide +kernel
theorem dd_L_law_362 : decode code 362 = .ok (.iaload, 1) := by decide +kernel
theorem dd_L_law_363 : decode code 363 = .ok (.invokestatic 79, 3) := by decide +kernel
theorem dd_L_law_366 : decode code 366 = .ok (.istore 5, 2) := by decide +kernel
theorem dd_L_law_368 : decode code 368 = .ok (.aload_n 2, 1) := by decide +kernel
theorem dd_L_law_369 : decode code 369 = .ok (.aload_n 0, 1) := by decide +kernel
theorem dd_L_law_370 : decode code 370 = .ok (.iload 4, 2) := by decide +kernel
theorem dd_L_law_372 : decode code 372 = .ok (.iconst 1, 1) := by decide +kernel
theorem dd_L_law_373 : decode code 373 = .ok (.iadd, 1) := by decide +kernel
theorem dd_L_law_374 : decode code 374 = .ok (.iaload, 1) := by decide +kernel
theorem dd_L_law_375 : decode code 375 = .ok (.invokevirtual 81, 3) := by decide +kernel
theorem dd_L_law_378 : decode code 378 = .ok (.aload_n 2, 1) := by decide +kernel
theorem dd_L_law_379 : decode code 379 = .ok (.invokevirtual 68, 3) := by decide +kernel
theorem dd_L_law_382 : decode code 382 = .ok (.iload 5, 2) := by decide +kernel
theorem dd_L_law_384 : decode code 384 = .ok (.if_icmp .eq 5, 3) := by decide +kernel
theorem dd_L_law_387 : decode code 387 = .ok (.iconst 0, 1) := by decide +kernel
theorem dd_L_law_388 : decode code 388 = .ok (.ireturn, 1) := by decide +kernel
theorem dd_L_law_389 : decode code 389 = .ok (.goto 601, 3) := by decide +kernel
theorem dd_L_law_392 : decode code 392 = .ok (.aload_n 1, 1) := by decide +kernel
theorem dd_L_law_393 : decode code 393 = .ok (.aload_n 0, 1) := by decide +kernel
theorem dd_L_law_394 : decode code 394 = .ok (.iload 4, 2) := by decide +kernel
theorem dd_L_law_396 : decode code 396 = .ok (.iconst 1, 1) := by decide +kernel
theorem dd_L_law_397 : decode code 397 = .ok (.iadd, 1) := by decide +kernel
theorem dd_L_law_398 : decode code 398 = .ok (.iaload, 1) := by decide +kernel
theorem dd_L_law_399 : decode code 399 = .ok (.aload_n 0, 1) := by decide +kernel
theorem dd_L_law_400 : decode code 400 = .ok (.iload 4, 2) := by decide +kernel
theorem dd_L_law_402 : decode code 402 = .ok (.iconst 2, 1) := by decide +kernel
theorem dd_L_law_403 : decode code 403 = .ok (.iadd, 1) := by decide +kernel
theorem dd_L_law_404 : decode code 404 = .ok (.iaload, 1) := by decide +kernel
theorem dd_L_law_405 : decode code 405 = .ok (.aload_n 0, 1) := by decide +kernel
theorem dd_L_law_406 : decode code 406 = .ok (.iload 4, 2) := by decide +kernel
theorem dd_L_law_408 : decode code 408 = .ok (.iconst 3, 1) := by decide +kernel
theorem dd_L_law_409 : decode code 409 = .ok (.iadd, 1) := by decide +kernel
theorem dd_L_law_410 : decode code 410 = .ok (.iaload, 1) := by decide +kernel
theorem dd_L_law_411 : decode code 411 = .ok (.aload_n 0, 1) := by decide +kernel
theorem dd_L_law_412 : decode code 412 = .ok (.iload 4, 2) := by decide +kernel
theorem dd_L_law_414 : decode code 414 = .ok (.iconst 4, 1) := by decide +kernel
theorem dd_L_law_415 : decode code 415 = .ok (.iadd, 1) := by decide +kernel
theorem dd_L_law_416 : decode code 416 = .ok (.iaload, 1) := by decide +kernel
theorem dd_L_law_417 : decode code 417 = .ok (.aload_n 0, 1) := by decide +kernel
theorem dd_L_law_418 : decode code 418 = .ok (.iload 4, 2) := by decide +kernel
theorem dd_L_law_420 : decode code 420 = .ok (.iconst 5, 1) := by decide +kernel
theorem dd_L_law_421 : decode code 421 = .ok (.iadd, 1) := by decide +kernel
theorem dd_L_law_422 : decode code 422 = .ok (.iaload, 1) := by decide +kernel
theorem dd_L_law_423 : decode code 423 = .ok (.aload_n 3, 1) := by decide +kernel
theorem dd_L_law_424 : decode code 424 = .ok (.invokestatic 82, 3) := by decide +kernel
theorem dd_L_law_427 : decode code 427 = .ok (.istore 5, 2) := by decide +kernel
theorem dd_L_law_429 : decode code 429 = .ok (.aload_n 2, 1) := by decide +kernel
theorem dd_L_law_430 : decode code 430 = .ok (.aload_n 0, 1) := by decide +kernel
theorem dd_L_law_431 : decode code 431 = .ok (.iload 4, 2) := by decide +kernel
theorem dd_L_law_433 : decode code 433 = .ok (.iconst 1, 1) := by decide +kernel
theorem dd_L_law_434 : decode code 434 = .ok (.iadd, 1) := by decide +kernel
theorem dd_L_law_435 : decode code 435 = .ok (.iaload, 1) := by decide +kernel
theorem dd_L_law_436 : decode code 436 = .ok (.aload_n 0, 1) := by decide +kernel
theorem dd_L_law_437 : decode code 437 = .ok (.iload 4, 2) := by decide +kernel
theorem dd_L_law_439 : decode code 439 = .ok (.iconst 2, 1) := by decide +kernel
theorem dd_L_law_440 : decode code 440 = .ok (.iadd, 1) := by decide +kernel
theorem dd_L_law_441 : decode code 441 = .ok (.iaload, 1) := by decide +kernel
theorem dd_L_law_442 : decode code 442 = .ok (.aload_n 0, 1) := by decide +kernel
theorem dd_L_law_443 : decode code 443 = .ok (.iload 4, 2) := by decide +kernel
theorem dd_L_law_445 : decode code 445 = .ok (.iconst 3, 1) := by decide +kernel
theorem dd_L_law_446 : decode code 446 = .ok (.iadd, 1) := by decide +kernel
theorem dd_L_law_447 : decode code 447 = .ok (.iaload, 1) := by decide +kernel
theorem dd_L_law_448 : decode code 448 = .ok (.aload_n 0, 1) := by decide +kernel
theorem dd_L_law_449 : decode code 449 = .ok (.iload 4, 2) := by decide +kernel
theorem dd_L_law_451 : decode code 451 = .ok (.iconst 4, 1) := by decide +kernel
theorem dd_L_law_452 : decode code 452 = .ok (.iadd, 1) := by decide +kernel
theorem dd_L_law_453 : decode code 453 = .ok (.iaload, 1) := by decide +kernel
theorem dd_L_law_454 : decode code 454 = .ok (.aload_n 0, 1) := by decide +kernel
theorem dd_L_law_455 : decode code 455 = .ok (.iload 4, 2) := by decide +kernel
theorem dd_L_law_457 : decode code 457 = .ok (.iconst 5, 1) := by decide +kernel
theorem dd_L_law_458 : decode code 458 = .ok (.iadd, 1) := by decide +kernel
theorem dd_L_law_459 : decode code 459 = .ok (.iaload, 1) := by decide +kernel
theorem dd_L_law_460 : decode code 460 = .ok (.invokevirtual 84, 3) := by decide +kernel
theorem dd_L_law_463 : decode code 463 = .ok (.istore 6, 2) := by decide +kernel
theorem dd_L_law_465 : decode code 465 = .ok (.aload_n 2, 1) := by decide +kernel
theorem dd_L_law_466 : decode code 466 = .ok (.invokevirtual 68, 3) := by decide +kernel
theorem dd_L_law_469 : decode code 469 = .ok (.iload 5, 2) := by decide +kernel
theorem dd_L_law_471 : decode code 471 = .ok (.if_icmp .eq 5, 3) := by decide +kernel
theorem dd_L_law_474 : decode code 474 = .ok (.iconst 0, 1) := by decide +kernel
theorem dd_L_law_475 : decode code 475 = .ok (.ireturn, 1) := by decide +kernel
theorem dd_L_law_476 : decode code 476 = .ok (.iload 5, 2) := by decide +kernel
theorem dd_L_law_478 : decode code 478 = .ok (.ifCond .ne 15, 3) := by decide +kernel
theorem dd_L_law_481 : decode code 481 = .ok (.aload_n 3, 1) := by decide +kernel
theorem dd_L_law_482 : decode code 482 = .ok (.iconst 0, 1) := by decide +kernel
theorem dd_L_law_483 : decode code 483 = .ok (.laload, 1) := by decide +kernel
theorem dd_L_law_484 : decode code 484 = .ok (.iload 6, 2) := by decide +kernel
theorem dd_L_law_486 : decode code 486 = .ok (.i2l, 1) := by decide +kernel
theorem dd_L_law_487 : decode code 487 = .ok (.lcmp, 1) := by decide +kernel
theorem dd_L_law_488 : decode code 488 = .ok (.ifCond .eq 5, 3) := by decide +kernel
theorem dd_L_law_491 : decode code 491 = .ok (.iconst 0, 1) := by decide +kernel
theorem dd_L_law_492 : decode code 492 = .ok (.ireturn, 1) := by decide +kernel
theorem dd_L_law_493 : decode code 493 = .ok (.goto 497, 3) := by decide +kernel
theorem dd_L_law_496 : decode code 496 = .ok (.aload_n 1, 1) := by decide +kernel
theorem dd_L_law_497 : decode code 497 = .ok (.invokevirtual 85, 3) := by decide +kernel
theorem dd_L_law_500 : decode code 500 = .ok (.aload_n 2, 1) := by decide +kernel
theorem dd_L_law_501 : decode code 501 = .ok (.invokevirtual 88, 3) := by decide +kernel
theorem dd_L_law_504 : decode code 504 = .ok (.if_icmp .eq 486, 3) := by decide +kernel
theorem dd_L_law_507 : decode code 507 = .ok (.iconst 0, 1) := by decide +kernel
theorem dd_L_law_508 : decode code 508 = .ok (.ireturn, 1) := by decide +kernel
theorem dd_L_law_509 : decode code 509 = .ok (.aload_n 1, 1) := by decide +kernel
theorem dd_L_law_510 : decode code 510 = .ok (.aload_n 0, 1) := by decide +kernel
theorem dd_L_law_511 : decode code 511 = .ok (.iload 4, 2) := by decide +kernel
theorem dd_L_law_513 : decode code 513 = .ok (.iconst 1, 1) := by decide +kernel
theorem dd_L_law_514 : decode code 514 = .ok (.iadd, 1) := by decide +kernel
theorem dd_L_law_515 : decode code 515 = .ok (.iaload, 1) := by decide +kernel
theorem dd_L_law_516 : decode code 516 = .ok (.aload_n 0, 1) := by decide +kernel
theorem dd_L_law_517 : decode code 517 = .ok (.iload 4, 2) := by decide +kernel
theorem dd_L_law_519 : decode code 519 = .ok (.iconst 2, 1) := by decide +kernel
theorem dd_L_law_520 : decode code 520 = .ok (.iadd, 1) := by decide +kernel
theorem dd_L_law_521 : decode code 521 = .ok (.iaload, 1) := by decide +kernel
theorem dd_L_law_522 : decode code 522 = .ok (.invokestatic 89, 3) := by decide +kernel
theorem dd_L_law_525 : decode code 525 = .ok (.istore 5, 2) := by decide +kernel
theorem dd_L_law_527 : decode code 527 = .ok (.aload_n 2, 1) := by decide +kernel
theorem dd_L_law_528 : decode code 528 = .ok (.aload_n 0, 1) := by decide +kernel
theorem dd_L_law_529 : decode code 529 = .ok (.iload 4, 2) := by decide +kernel
theorem dd_L_law_531 : decode code 531 = .ok (.iconst 1, 1) := by decide +kernel
theorem dd_L_law_532 : decode code 532 = .ok (.iadd, 1) := by decide +kernel
theorem dd_L_law_533 : decode code 533 = .ok (.iaload, 1) := by decide +kernel
theorem dd_L_law_534 : decode code 534 = .ok (.aload_n 0, 1) := by decide +kernel
theorem dd_L_law_535 : decode code 535 = .ok (.iload 4, 2) := by decide +kernel
theorem dd_L_law_537 : decode code 537 = .ok (.iconst 2, 1) := by decide +kernel
theorem dd_L_law_538 : decode code 538 = .ok (.iadd, 1) := by decide +kernel
theorem dd_L_law_539 : decode code 539 = .ok (.iaload, 1) := by decide +kernel
theorem dd_L_law_540 : decode code 540 = .ok (.invokevirtual 92, 3) := by decide +kernel
theorem dd_L_law_543 : decode code 543 = .ok (.aload_n 2, 1) := by decide +kernel
theorem dd_L_law_544 : decode code 544 = .ok (.invokevirtual 68, 3) := by decide +kernel
theorem dd_L_law_547 : decode code 547 = .ok (.iload 5, 2) := by decide +kernel
theorem dd_L_law_549 : decode code 549 = .ok (.if_icmp .eq 5, 3) := by decide +kernel
theorem dd_L_law_552 : decode code 552 = .ok (.iconst 0, 1) := by decide +kernel
theorem dd_L_law_553 : decode code 553 = .ok (.ireturn, 1) := by decide +kernel
theorem dd_L_law_554 : decode code 554 = .ok (.goto 436, 3) := by decide +kernel
theorem dd_L_law_557 : decode code 557 = .ok (.aload_n 1, 1) := by decide +kernel
theorem dd_L_law_558 : decode code 558 = .ok (.invokevirtual 93, 3) := by decide +kernel
theorem dd_L_law_561 : decode code 561 = .ok (.aload_n 2, 1) := by decide +kernel
theorem dd_L_law_562 : decode code 562 = .ok (.invokevirtual 96, 3) := by decide +kernel
theorem dd_L_law_565 : decode code 565 = .ok (.if_icmp .eq 425, 3) := by decide +kernel
theorem dd_L_law_568 : decode code 568 = .ok (.iconst 0, 1) := by decide +kernel
theorem dd_L_law_569 : decode code 569 = .ok (.ireturn, 1) := by decide +kernel
theorem dd_L_law_570 : decode code 570 = .ok (.aload_n 1, 1) := by decide +kernel
theorem dd_L_law_571 : decode code 571 = .ok (.aload_n 0, 1) := by decide +kernel
theorem dd_L_law_572 : decode code 572 = .ok (.iload 4, 2) := by decide +kernel
theorem dd_L_law_574 : decode code 574 = .ok (.iconst 1, 1) := by decide +kernel
theorem dd_L_law_575 : decode code 575 = .ok (.iadd, 1) := by decide +kernel
theorem dd_L_law_576 : decode code 576 = .ok (.iaload, 1) := by decide +kernel
theorem dd_L_law_577 : decode code 577 = .ok (.aload_n 0, 1) := by decide +kernel
theorem dd_L_law_578 : decode code 578 = .ok (.iload 4, 2) := by decide +kernel
theorem dd_L_law_580 : decode code 580 = .ok (.iconst 2, 1) := by decide +kernel
theorem dd_L_law_581 : decode code 581 = .ok (.iadd, 1) := by decide +kernel
theorem dd_L_law_582 : decode code 582 = .ok (.iaload, 1) := by decide +kernel
theorem dd_L_law_583 : decode code 583 = .ok (.aload_n 0, 1) := by decide +kernel
theorem dd_L_law_584 : decode code 584 = .ok (.iload 4, 2) := by decide +kernel
theorem dd_L_law_586 : decode code 586 = .ok (.iconst 3, 1) := by decide +kernel
theorem dd_L_law_587 : decode code 587 = .ok (.iadd, 1) := by decide +kernel
theorem dd_L_law_588 : decode code 588 = .ok (.iaload, 1) := by decide +kernel
theorem dd_L_law_589 : decode code 589 = .ok (.ifCond .eq 7, 3) := by decide +kernel
theorem dd_L_law_592 : decode code 592 = .ok (.iconst 1, 1) := by decide +kernel
theorem dd_L_law_593 : decode code 593 = .ok (.goto 4, 3) := by decide +kernel
theorem dd_L_law_596 : decode code 596 = .ok (.iconst 0, 1) := by decide +kernel
theorem dd_L_law_597 : decode code 597 = .ok (.aload_n 3, 1) := by decide +kernel
theorem dd_L_law_598 : decode code 598 = .ok (.invokestatic 97, 3) := by decide +kernel
theorem dd_L_law_601 : decode code 601 = .ok (.istore 5, 2) := by decide +kernel
theorem dd_L_law_603 : decode code 603 = .ok (.aload_n 2, 1) := by decide +kernel
theorem dd_L_law_604 : decode code 604 = .ok (.aload_n 0, 1) := by decide +kernel
theorem dd_L_law_605 : decode code 605 = .ok (.iload 4, 2) := by decide +kernel
theorem dd_L_law_607 : decode code 607 = .ok (.iconst 1, 1) := by decide +kernel
theorem dd_L_law_608 : decode code 608 = .ok (.iadd, 1) := by decide +kernel
theorem dd_L_law_609 : decode code 609 = .ok (.iaload, 1) := by decide +kernel
theorem dd_L_law_610 : decode code 610 = .ok (.aload_n 0, 1) := by decide +kernel
theorem dd_L_law_611 : decode code 611 = .ok (.iload 4, 2) := by decide +kernel
theorem dd_L_law_613 : decode code 613 = .ok (.iconst 2, 1) := by decide +kernel
theorem dd_L_law_614 : decode code 614 = .ok (.iadd, 1) := by decide +kernel
theorem dd_L_law_615 : decode code 615 = .ok (.iaload, 1) := by decide +kernel
theorem dd_L_law_616 : decode code 616 = .ok (.aload_n 0, 1) := by decide +kernel
theorem dd_L_law_617 : decode code 617 = .ok (.iload 4, 2) := by decide +kernel
theorem dd_L_law_619 : decode code 619 = .ok (.iconst 3, 1) := by decide +kernel
theorem dd_L_law_620 : decode code 620 = .ok (.iadd, 1) := by decide +kernel
theorem dd_L_law_621 : decode code 621 = .ok (.iaload, 1) := by decide +kernel
theorem dd_L_law_622 : decode code 622 = .ok (.ifCond .eq 7, 3) := by decide +kernel
theorem dd_L_law_625 : decode code 625 = .ok (.iconst 1, 1) := by decide +kernel
theorem dd_L_law_626 : decode code 626 = .ok (.goto 4, 3) := by decide +kernel
theorem dd_L_law_629 : decode code 629 = .ok (.iconst 0, 1) := by decide +kernel
theorem dd_L_law_630 : decode code 630 = .ok (.invokevirtual 100, 3) := by decide +kernel
theorem dd_L_law_633 : decode code 633 = .ok (.istore 6, 2) := by decide +kernel
theorem dd_L_law_635 : decode code 635 = .ok (.aload_n 2, 1) := by decide +kernel
theorem dd_L_law_636 : decode code 636 = .ok (.invokevirtual 68, 3) := by decide +kernel
theorem dd_L_law_639 : decode code 639 = .ok (.iload 5, 2) := by decide +kernel
theorem dd_L_law_641 : decode code 641 = .ok (.if_icmp .eq 5, 3) := by decide +kernel
theorem dd_L_law_644 : decode code 644 = .ok (.iconst 0, 1) := by decide +kernel
theorem dd_L_law_645 : decode code 645 = .ok (.ireturn, 1) := by decide +kernel
theorem dd_L_law_646 : decode code 646 = .ok (.iload 5, 2) := by decide +kernel
theorem dd_L_law_648 : decode code 648 = .ok (.ifCond .ne 15, 3) := by decide +kernel
theorem dd_L_law_651 : decode code 651 = .ok (.aload_n 3, 1) := by decide +kernel
theorem dd_L_law_652 : decode code 652 = .ok (.iconst 0, 1) := by decide +kernel
theorem dd_L_law_653 : decode code 653 = .ok (.laload, 1) := by decide +kernel
theorem dd_L_law_654 : decode code 654 = .ok (.iload 6, 2) := by decide +kernel
theorem dd_L_law_656 : decode code 656 = .ok (.i2l, 1) := by decide +kernel
theorem dd_L_law_657 : decode code 657 = .ok (.lcmp, 1) := by decide +kernel
theorem dd_L_law_658 : decode code 658 = .ok (.ifCond .eq 5, 3) := by decide +kernel
theorem dd_L_law_661 : decode code 661 = .ok (.iconst 0, 1) := by decide +kernel
theorem dd_L_law_662 : decode code 662 = .ok (.ireturn, 1) := by decide +kernel
theorem dd_L_law_663 : decode code 663 = .ok (.goto 327, 3) := by decide +kernel
theorem dd_L_law_666 : decode code 666 = .ok (.aload_n 1, 1) := by decide +kernel
theorem dd_L_law_667 : decode code 667 = .ok (.aload_n 0, 1) := by decide +kernel
theorem dd_L_law_668 : decode code 668 = .ok (.iload 4, 2) := by decide +kernel
theorem dd_L_law_670 : decode code 670 = .ok (.iconst 1, 1) := by decide +kernel
theorem dd_L_law_671 : decode code 671 = .ok (.iadd, 1) := by decide +kernel
theorem dd_L_law_672 : decode code 672 = .ok (.iaload, 1) := by decide +kernel
theorem dd_L_law_673 : decode code 673 = .ok (.aload_n 0, 1) := by decide +kernel
theorem dd_L_law_674 : decode code 674 = .ok (.iload 4, 2) := by decide +kernel
theorem dd_L_law_676 : decode code 676 = .ok (.iconst 2, 1) := by decide +kernel
theorem dd_L_law_677 : decode code 677 = .ok (.iadd, 1) := by decide +kernel
theorem dd_L_law_678 : decode code 678 = .ok (.iaload, 1) := by decide +kernel
theorem dd_L_law_679 : decode code 679 = .ok (.aload_n 3, 1) := by decide +kernel
theorem dd_L_law_680 : decode code 680 = .ok (.invokestatic 101, 3) := by decide +kernel
theorem dd_L_law_683 : decode code 683 = .ok (.istore 5, 2) := by decide +kernel
theorem dd_L_law_685 : decode code 685 = .ok (.aload_n 2, 1) := by decide +kernel
theorem dd_L_law_686 : decode code 686 = .ok (.aload_n 0, 1) := by decide +kernel
theorem dd_L_law_687 : decode code 687 = .ok (.iload 4, 2) := by decide +kernel
theorem dd_L_law_689 : decode code 689 = .ok (.iconst 1, 1) := by decide +kernel
theorem dd_L_law_690 : decode code 690 = .ok (.iadd, 1) := by decide +kernel
theorem dd_L_law_691 : decode code 691 = .ok (.iaload, 1) := by decide +kernel
theorem dd_L_law_692 : decode code 692 = .ok (.aload_n 0, 1) := by decide +kernel
theorem dd_L_law_693 : decode code 693 = .ok (.iload 4, 2) := by decide +kernel
theorem dd_L_law_695 : decode code 695 = .ok (.iconst 2, 1) := by decide +kernel
theorem dd_L_law_696 : decode code 696 = .ok (.iadd, 1) := by decide +kernel
theorem dd_L_law_697 : decode code 697 = .ok (.iaload, 1) := by decide +kernel
theorem dd_L_law_698 : decode code 698 = .ok (.invokevirtual 104, 3) := by decide +kernel
theorem dd_L_law_701 : decode code 701 = .ok (.istore 6, 2) := by decide +kernel
theorem dd_L_law_703 : decode code 703 = .ok (.aload_n 2, 1) := by decide +kernel
theorem dd_L_law_704 : decode code 704 = .ok (.invokevirtual 68, 3) := by decide +kernel
theorem dd_L_law_707 : decode code 707 = .ok (.iload 5, 2) := by decide +kernel
theorem dd_L_law_709 : decode code 709 = .ok (.if_icmp .eq 5, 3) := by decide +kernel
theorem dd_L_law_712 : decode code 712 = .ok (.iconst 0, 1) := by decide +kernel
theorem dd_L_law_713 : decode code 713 = .ok (.ireturn, 1) := by decide +kernel
theorem dd_L_law_714 : decode code 714 = .ok (.iload 5, 2) := by decide +kernel
theorem dd_L_law_716 : decode code 716 = .ok (.ifCond .ne 15, 3) := by decide +kernel
theorem dd_L_law_719 : decode code 719 = .ok (.aload_n 3, 1) := by decide +kernel
theorem dd_L_law_720 : decode code 720 = .ok (.iconst 0, 1) := by decide +kernel
theorem dd_L_law_721 : decode code 721 = .ok (.laload, 1) := by decide +kernel
theorem dd_L_law_722 : decode code 722 = .ok (.iload 6, 2) := by decide +kernel
theorem dd_L_law_724 : decode code 724 = .ok (.i2l, 1) := by decide +kernel
theorem dd_L_law_725 : decode code 725 = .ok (.lcmp, 1) := by decide +kernel
theorem dd_L_law_726 : decode code 726 = .ok (.ifCond .eq 5, 3) := by decide +kernel
theorem dd_L_law_729 : decode code 729 = .ok (.iconst 0, 1) := by decide +kernel
theorem dd_L_law_730 : decode code 730 = .ok (.ireturn, 1) := by decide +kernel
theorem dd_L_law_731 : decode code 731 = .ok (.goto 259, 3) := by decide +kernel
theorem dd_L_law_734 : decode code 734 = .ok (.aload_n 1, 1) := by decide +kernel
theorem dd_L_law_735 : decode code 735 = .ok (.aload_n 3, 1) := by decide +kernel
theorem dd_L_law_736 : decode code 736 = .ok (.invokestatic 105, 3) := by decide +kernel
theorem dd_L_law_739 : decode code 739 = .ok (.istore 5, 2) := by decide +kernel
theorem dd_L_law_741 : decode code 741 = .ok (.aload_n 2, 1) := by decide +kernel
theorem dd_L_law_742 : decode code 742 = .ok (.invokevirtual 108, 3) := by decide +kernel
theorem dd_L_law_745 : decode code 745 = .ok (.istore 6, 2) := by decide +kernel
theorem dd_L_law_747 : decode code 747 = .ok (.aload_n 2, 1) := by decide +kernel
theorem dd_L_law_748 : decode code 748 = .ok (.invokevirtual 68, 3) := by decide +kernel
theorem dd_L_law_751 : decode code 751 = .ok (.iload 5, 2) := by decide +kernel
theorem dd_L_law_753 : decode code 753 = .ok (.if_icmp .eq 5, 3) := by decide +kernel
theorem dd_L_law_756 : decode code 756 = .ok (.iconst 0, 1) := by decide +kernel
theorem dd_L_law_757 : decode code 757 = .ok (.ireturn, 1) := by decide +kernel
theorem dd_L_law_758 : decode code 758 = .ok (.iload 5, 2) := by decide +kernel
theorem dd_L_law_760 : decode code 760 = .ok (.ifCond .ne 15, 3) := by decide +kernel
theorem dd_L_law_763 : decode code 763 = .ok (.aload_n 3, 1) := by decide +kernel
theorem dd_L_law_764 : decode code 764 = .ok (.iconst 0, 1) := by decide +kernel
theorem dd_L_law_765 : decode code 765 = .ok (.laload, 1) := by decide +kernel
theorem dd_L_law_766 : decode code 766 = .ok (.iload 6, 2) := by decide +kernel
theorem dd_L_law_768 : decode code 768 = .ok (.i2l, 1) := by decide +kernel
theorem dd_L_law_769 : decode code 769 = .ok (.lcmp, 1) := by decide +kernel
theorem dd_L_law_770 : decode code 770 = .ok (.ifCond .eq 5, 3) := by decide +kernel
theorem dd_L_law_773 : decode code 773 = .ok (.iconst 0, 1) := by decide +kernel
theorem dd_L_law_774 : decode code 774 = .ok (.ireturn, 1) := by decide +kernel
theorem dd_L_law_775 : decode code 775 = .ok (.goto 215, 3) := by decide +kernel
theorem dd_L_law_778 : decode code 778 = .ok (.aload_n 1, 1) := by decide +kernel
theorem dd_L_law_779 : decode code 779 = .ok (.invokevirtual 109, 3) := by decide +kernel
theorem dd_L_law_782 : decode code 782 = .ok (.aload_n 2, 1) := by decide +kernel
theorem dd_L_law_783 : decode code 783 = .ok (.invokevirtual 112, 3) := by decide +kernel
theorem dd_L_law_786 : decode code 786 = .ok (.if_icmp .eq 204, 3) := by decide +kernel
theorem dd_L_law_789 : decode code 789 = .ok (.iconst 0, 1) := by decide +kernel
theorem dd_L_law_790 : decode code 790 = .ok (.ireturn, 1) := by decide +kernel
theorem dd_L_law_791 : decode code 791 = .ok (.aload_n 1, 1) := by decide +kernel
theorem dd_L_law_792 : decode code 792 = .ok (.aload_n 0, 1) := by decide +kernel
theorem dd_L_law_793 : decode code 793 = .ok (.iload 4, 2) := by decide +kernel
theorem dd_L_law_795 : decode code 795 = .ok (.iconst 1, 1) := by decide +kernel
theorem dd_L_law_796 : decode code 796 = .ok (.iadd, 1) := by decide +kernel
theorem dd_L_law_797 : decode code 797 = .ok (.iaload, 1) := by decide +kernel
theorem dd_L_law_798 : decode code 798 = .ok (.aload_n 3, 1) := by decide +kernel
theorem dd_L_law_799 : decode code 799 = .ok (.invokestatic 113, 3) := by decide +kernel
theorem dd_L_law_802 : decode code 802 = .ok (.istore 5, 2) := by decide +kernel
theorem dd_L_law_804 : decode code 804 = .ok (.aload_n 2, 1) := by decide +kernel
theorem dd_L_law_805 : decode code 805 = .ok (.aload_n 0, 1) := by decide +kernel
theorem dd_L_law_806 : decode code 806 = .ok (.iload 4, 2) := by decide +kernel
theorem dd_L_law_808 : decode code 808 = .ok (.iconst 1, 1) := by decide +kernel
theorem dd_L_law_809 : decode code 809 = .ok (.iadd, 1) := by decide +kernel
theorem dd_L_law_810 : decode code 810 = .ok (.iaload, 1) := by decide +kernel
theorem dd_L_law_811 : decode code 811 = .ok (.invokevirtual 116, 3) := by decide +kernel
theorem dd_L_law_814 : decode code 814 = .ok (.istore 6, 2) := by decide +kernel
theorem dd_L_law_816 : decode code 816 = .ok (.aload_n 2, 1) := by decide +kernel
theorem dd_L_law_817 : decode code 817 = .ok (.invokevirtual 68, 3) := by decide +kernel
theorem dd_L_law_820 : decode code 820 = .ok (.iload 5, 2) := by decide +kernel
theorem dd_L_law_822 : decode code 822 = .ok (.if_icmp .eq 5, 3) := by decide +kernel
theorem dd_L_law_825 : decode code 825 = .ok (.iconst 0, 1) := by decide +kernel
theorem dd_L_law_826 : decode code 826 = .ok (.ireturn, 1) := by decide +kernel
theorem dd_L_law_827 : decode code 827 = .ok (.iload 5, 2) := by decide +kernel
theorem dd_L_law_829 : decode code 829 = .ok (.ifCond .ne 15, 3) := by decide +kernel
theorem dd_L_law_832 : decode code 832 = .ok (.aload_n 3, 1) := by decide +kernel
theorem dd_L_law_833 : decode code 833 = .ok (.iconst 0, 1) := by decide +kernel
theorem dd_L_law_834 : decode code 834 = .ok (.laload, 1) := by decide +kernel
theorem dd_L_law_835 : decode code 835 = .ok (.iload 6, 2) := by decide +kernel
theorem dd_L_law_837 : decode code 837 = .ok (.i2l, 1) := by decide +kernel
theorem dd_L_law_838 : decode code 838 = .ok (.lcmp, 1) := by decide +kernel
theorem dd_L_law_839 : decode code 839 = .ok (.ifCond .eq 5, 3) := by decide +kernel
theorem dd_L_law_842 : decode code 842 = .ok (.iconst 0, 1) := by decide +kernel
theorem dd_L_law_843 : decode code 843 = .ok (.ireturn, 1) := by decide +kernel
theorem dd_L_law_844 : decode code 844 = .ok (.goto 146, 3) := by decide +kernel
theorem dd_L_law_847 : decode code 847 = .ok (.aload_n 1, 1) := by decide +kernel
theorem dd_L_law_848 : decode code 848 = .ok (.aload_n 0, 1) := by decide +kernel
theorem dd_L_law_849 : decode code 849 = .ok (.iload 4, 2) := by decide +kernel
theorem dd_L_law_851 : decode code 851 = .ok (.iconst 1, 1) := by decide +kernel
theorem dd_L_law_852 : decode code 852 = .ok (.iadd, 1) := by decide +kernel
theorem dd_L_law_853 : decode code 853 = .ok (.iaload, 1) := by decide +kernel
theorem dd_L_law_854 : decode code 854 = .ok (.invokevirtual 117, 3) := by decide +kernel
theorem dd_L_law_857 : decode code 857 = .ok (.aload_n 2, 1) := by decide +kernel
theorem dd_L_law_858 : decode code 858 = .ok (.aload_n 0, 1) := by decide +kernel
theorem dd_L_law_859 : decode code 859 = .ok (.iload 4, 2) := by decide +kernel
theorem dd_L_law_861 : decode code 861 = .ok (.iconst 1, 1) := by decide +kernel
theorem dd_L_law_862 : decode code 862 = .ok (.iadd, 1) := by decide +kernel
theorem dd_L_law_863 : decode code 863 = .ok (.iaload, 1) := by decide +kernel
theorem dd_L_law_864 : decode code 864 = .ok (.invokevirtual 120, 3) := by decide +kernel
theorem dd_L_law_867 : decode code 867 = .ok (.if_icmp .eq 123, 3) := by decide +kernel
theorem dd_L_law_870 : decode code 870 = .ok (.iconst 0, 1) := by decide +kernel
theorem dd_L_law_871 : decode code 871 = .ok (.ireturn, 1) := by decide +kernel
theorem dd_L_law_872 : decode code 872 = .ok (.aload_n 1, 1) := by decide +kernel
theorem dd_L_law_873 : decode code 873 = .ok (.aload_n 0, 1) := by decide +kernel
theorem dd_L_law_874 : decode code 874 = .ok (.iload 4, 2) := by decide +kernel
theorem dd_L_law_876 : decode code 876 = .ok (.iconst 1, 1) := by decide +kernel
theorem dd_L_law_877 : decode code 877 = .ok (.iadd, 1) := by decide +kernel
theorem dd_L_law_878 : decode code 878 = .ok (.iaload, 1) := by decide +kernel
theorem dd_L_law_879 : decode code 879 = .ok (.aload_n 0, 1) := by decide +kernel
theorem dd_L_law_880 : decode code 880 = .ok (.iload 4, 2) := by decide +kernel
theorem dd_L_law_882 : decode code 882 = .ok (.iconst 2, 1) := by decide +kernel
theorem dd_L_law_883 : decode code 883 = .ok (.iadd, 1) := by decide +kernel
theorem dd_L_law_884 : decode code 884 = .ok (.iaload, 1) := by decide +kernel
theorem dd_L_law_885 : decode code 885 = .ok (.invokevirtual 121, 3) := by decide +kernel
theorem dd_L_law_888 : decode code 888 = .ok (.aload_n 2, 1) := by decide +kernel
theorem dd_L_law_889 : decode code 889 = .ok (.aload_n 0, 1) := by decide +kernel
theorem dd_L_law_890 : decode code 890 = .ok (.iload 4, 2) := by decide +kernel
theorem dd_L_law_892 : decode code 892 = .ok (.iconst 1, 1) := by decide +kernel
theorem dd_L_law_893 : decode code 893 = .ok (.iadd, 1) := by decide +kernel
theorem dd_L_law_894 : decode code 894 = .ok (.iaload, 1) := by decide +kernel
theorem dd_L_law_895 : decode code 895 = .ok (.aload_n 0, 1) := by decide +kernel
theorem dd_L_law_896 : decode code 896 = .ok (.iload 4, 2) := by decide +kernel
theorem dd_L_law_898 : decode code 898 = .ok (.iconst 2, 1) := by decide +kernel
theorem dd_L_law_899 : decode code 899 = .ok (.iadd, 1) := by decide +kernel
theorem dd_L_law_900 : decode code 900 = .ok (.iaload, 1) := by decide +kernel
theorem dd_L_law_901 : decode code 901 = .ok (.invokevirtual 124, 3) := by decide +kernel
theorem dd_L_law_904 : decode code 904 = .ok (.if_icmp .eq 86, 3) := by decide +kernel
theorem dd_L_law_907 : decode code 907 = .ok (.iconst 0, 1) := by decide +kernel
theorem dd_L_law_908 : decode code 908 = .ok (.ireturn, 1) := by decide +kernel
theorem dd_L_law_909 : decode code 909 = .ok (.aload_n 1, 1) := by decide +kernel
theorem dd_L_law_910 : decode code 910 = .ok (.aload_n 0, 1) := by decide +kernel
theorem dd_L_law_911 : decode code 911 = .ok (.iload 4, 2) := by decide +kernel
theorem dd_L_law_913 : decode code 913 = .ok (.iconst 1, 1) := by decide +kernel
theorem dd_L_law_914 : decode code 914 = .ok (.iadd, 1) := by decide +kernel
theorem dd_L_law_915 : decode code 915 = .ok (.iaload, 1) := by decide +kernel
theorem dd_L_law_916 : decode code 916 = .ok (.invokevirtual 125, 3) := by decide +kernel
theorem dd_L_law_919 : decode code 919 = .ok (.aload_n 2, 1) := by decide +kernel
theorem dd_L_law_920 : decode code 920 = .ok (.aload_n 0, 1) := by decide +kernel
theorem dd_L_law_921 : decode code 921 = .ok (.iload 4, 2) := by decide +kernel
theorem dd_L_law_923 : decode code 923 = .ok (.iconst 1, 1) := by decide +kernel
theorem dd_L_law_924 : decode code 924 = .ok (.iadd, 1) := by decide +kernel
theorem dd_L_law_925 : decode code 925 = .ok (.iaload, 1) := by decide +kernel
theorem dd_L_law_926 : decode code 926 = .ok (.invokevirtual 128, 3) := by decide +kernel
theorem dd_L_law_929 : decode code 929 = .ok (.if_icmp .eq 61, 3) := by decide +kernel
theorem dd_L_law_932 : decode code 932 = .ok (.iconst 0, 1) := by decide +kernel
theorem dd_L_law_933 : decode code 933 = .ok (.ireturn, 1) := by decide +kernel
theorem dd_L_law_934 : decode code 934 = .ok (.aload_n 1, 1) := by decide +kernel
theorem dd_L_law_935 : decode code 935 = .ok (.aload_n 0, 1) := by decide +kernel
theorem dd_L_law_936 : decode code 936 = .ok (.iload 4, 2) := by decide +kernel
theorem dd_L_law_938 : decode code 938 = .ok (.iconst 1, 1) := by decide +kernel
theorem dd_L_law_939 : decode code 939 = .ok (.iadd, 1) := by decide +kernel
theorem dd_L_law_940 : decode code 940 = .ok (.iaload, 1) := by decide +kernel
theorem dd_L_law_941 : decode code 941 = .ok (.aload_n 3, 1) := by decide +kernel
theorem dd_L_law_942 : decode code 942 = .ok (.invokestatic 129, 3) := by decide +kernel
theorem dd_L_law_945 : decode code 945 = .ok (.istore 5, 2) := by decide +kernel
theorem dd_L_law_947 : decode code 947 = .ok (.aload_n 2, 1) := by decide +kernel
theorem dd_L_law_948 : decode code 948 = .ok (.aload_n 0, 1) := by decide +kernel
theorem dd_L_law_949 : decode code 949 = .ok (.iload 4, 2) := by decide +kernel
theorem dd_L_law_951 : decode code 951 = .ok (.iconst 1, 1) := by decide +kernel
theorem dd_L_law_952 : decode code 952 = .ok (.iadd, 1) := by decide +kernel
theorem dd_L_law_953 : decode code 953 = .ok (.iaload, 1) := by decide +kernel
theorem dd_L_law_954 : decode code 954 = .ok (.invokevirtual 131, 3) := by decide +kernel
theorem dd_L_law_957 : decode code 957 = .ok (.istore 6, 2) := by decide +kernel
theorem dd_L_law_959 : decode code 959 = .ok (.aload_n 2, 1) := by decide +kernel
theorem dd_L_law_960 : decode code 960 = .ok (.invokevirtual 68, 3) := by decide +kernel
theorem dd_L_law_963 : decode code 963 = .ok (.iload 5, 2) := by decide +kernel
theorem dd_L_law_965 : decode code 965 = .ok (.if_icmp .eq 5, 3) := by decide +kernel
theorem dd_L_law_968 : decode code 968 = .ok (.iconst 0, 1) := by decide +kernel
theorem dd_L_law_969 : decode code 969 = .ok (.ireturn, 1) := by decide +kernel
theorem dd_L_law_970 : decode code 970 = .ok (.iload 5, 2) := by decide +kernel
theorem dd_L_law_972 : decode code 972 = .ok (.ifCond .ne 15, 3) := by decide +kernel
theorem dd_L_law_975 : decode code 975 = .ok (.aload_n 3, 1) := by decide +kernel
theorem dd_L_law_976 : decode code 976 = .ok (.iconst 0, 1) := by decide +kernel
theorem dd_L_law_977 : decode code 977 = .ok (.laload, 1) := by decide +kernel
theorem dd_L_law_978 : decode code 978 = .ok (.iload 6, 2) := by decide +kernel
theorem dd_L_law_980 : decode code 980 = .ok (.i2l, 1) := by decide +kernel
theorem dd_L_law_981 : decode code 981 = .ok (.lcmp, 1) := by decide +kernel
theorem dd_L_law_982 : decode code 982 = .ok (.ifCond .eq 5, 3) := by decide +kernel
theorem dd_L_law_985 : decode code 985 = .ok (.iconst 0, 1) := by decide +kernel
theorem dd_L_law_986 : decode code 986 = .ok (.ireturn, 1) := by decide +kernel
theorem dd_L_law_987 : decode code 987 = .ok (.goto 3, 3) := by decide +kernel
theorem dd_L_law_990 : decode code 990 = .ok (.iinc 4 6, 3) := by decide +kernel
theorem dd_L_law_993 : decode code 993 = .ok (.goto (-970), 3) := by decide +kernel
theorem dd_L_law_996 : decode code 996 = .ok (.iconst 1, 1) := by decide +kernel
theorem dd_L_law_997 : decode code 997 = .ok (.ireturn, 1) := by decide +kernel
