theorem dd_M_mergeFirst_0 : decode b_M_mergeFirst 0 = .ok (.aload_n 0, 1) := by decide +kernel
theorem dd_M_mergeFirst_1 : decode b_M_mergeFirst 1 = .ok (.getfield 27, 3) := by decide +kernel
theorem dd_M_mergeFirst_4 : decode b_M_mergeFirst 4 = .ok (.aload_n 0, 1) := by decide +kernel
theorem dd_M_mergeFirst_5 : decode b_M_mergeFirst 5 = .ok (.getfield 194, 3) := by decide +kernel
theorem dd_M_mergeFirst_8 : decode b_M_mergeFirst 8 = .ok (.if_icmp .ge 10, 3) := by decide +kernel
theorem dd_M_mergeFirst_11 : decode b_M_mergeFirst 11 = .ok (.aload_n 0, 1) := by decide +kernel
theorem dd_M_mergeFirst_12 : decode b_M_mergeFirst 12 = .ok (.getfield 27, 3) := by decide +kernel
theorem dd_M_mergeFirst_15 : decode b_M_mergeFirst 15 = .ok (.goto 7, 3) := by decide +kernel
theorem dd_M_mergeFirst_18 : decode b_M_mergeFirst 18 = .ok (.aload_n 0, 1) := by decide +kernel
theorem dd_M_mergeFirst_19 : decode b_M_mergeFirst 19 = .ok (.getfield 194, 3) := by decide +kernel
theorem dd_M_mergeFirst_22 : decode b_M_mergeFirst 22 = .ok (.istore_n 1, 1) := by decide +kernel
theorem dd_M_mergeFirst_23 : decode b_M_mergeFirst 23 = .ok (.iconst 0, 1) := by decide +kernel
theorem dd_M_mergeFirst_24 : decode b_M_mergeFirst 24 = .ok (.istore_n 2, 1) := by decide +kernel
theorem dd_M_mergeFirst_25 : decode b_M_mergeFirst 25 = .ok (.iconst 0, 1) := by decide +kernel
theorem dd_M_mergeFirst_26 : decode b_M_mergeFirst 26 = .ok (.istore_n 3, 1) := by decide +kernel
theorem dd_M_mergeFirst_27 : decode b_M_mergeFirst 27 = .ok (.iload_n 3, 1) := by decide +kernel
theorem dd_M_mergeFirst_28 : decode b_M_mergeFirst 28 = .ok (.iload_n 1, 1) := by decide +kernel
theorem dd_M_mergeFirst_29 : decode b_M_mergeFirst 29 = .ok (.if_icmp .ge 18, 3) := by decide +kernel
theorem dd_M_mergeFirst_32 : decode b_M_mergeFirst 32 = .ok (.iload_n 2, 1) := by decide +kernel
theorem dd_M_mergeFirst_33 : decode b_M_mergeFirst 33 = .ok (.aload_n 0, 1) := by decide +kernel
theorem dd_M_mergeFirst_34 : decode b_M_mergeFirst 34 = .ok (.getfield 42, 3) := by decide +kernel
theorem dd_M_mergeFirst_37 : decode b_M_mergeFirst 37 = .ok (.iload_n 3, 1) := by decide +kernel
theorem dd_M_mergeFirst_38 : decode b_M_mergeFirst 38 = .ok (.iaload, 1) := by decide +kernel
theorem dd_M_mergeFirst_39 : decode b_M_mergeFirst 39 = .ok (.iadd, 1) := by decide +kernel
theorem dd_M_mergeFirst_40 : decode b_M_mergeFirst 40 = .ok (.istore_n 2, 1) := by decide +kernel
theorem dd_M_mergeFirst_41 : decode b_M_mergeFirst 41 = .ok (.iinc 3 1, 3) := by decide +kernel
theorem dd_M_mergeFirst_44 : decode b_M_mergeFirst 44 = .ok (.goto (-17), 3) := by decide +kernel
theorem dd_M_mergeFirst_47 : decode b_M_mergeFirst 47 = .ok (.aload_n 0, 1) := by decide +kernel
theorem dd_M_mergeFirst_48 : decode b_M_mergeFirst 48 = .ok (.getfield 78, 3) := by decide +kernel
theorem dd_M_mergeFirst_51 : decode b_M_mergeFirst 51 = .ok (.iload_n 2, 1) := by decide +kernel
theorem dd_M_mergeFirst_52 : decode b_M_mergeFirst 52 = .ok (.isub, 1) := by decide +kernel
theorem dd_M_mergeFirst_53 : decode b_M_mergeFirst 53 = .ok (.istore_n 3, 1) := by decide +kernel
theorem dd_M_mergeFirst_54 : decode b_M_mergeFirst 54 = .ok (.iconst 0, 1) := by decide +kernel
theorem dd_M_mergeFirst_55 : decode b_M_mergeFirst 55 = .ok (.istore 4, 2) := by decide +kernel
theorem dd_M_mergeFirst_57 : decode b_M_mergeFirst 57 = .ok (.iload 4, 2) := by decide +kernel
theorem dd_M_mergeFirst_59 : decode b_M_mergeFirst 59 = .ok (.iload_n 3, 1) := by decide +kernel
theorem dd_M_mergeFirst_60 : decode b_M_mergeFirst 60 = .ok (.if_icmp .ge 25, 3) := by decide +kernel
theorem dd_M_mergeFirst_63 : decode b_M_mergeFirst 63 = .ok (.aload_n 0, 1) := by decide +kernel
theorem dd_M_mergeFirst_64 : decode b_M_mergeFirst 64 = .ok (.getfield 45, 3) := by decide +kernel
theorem dd_M_mergeFirst_67 : decode b_M_mergeFirst 67 = .ok (.iload 4, 2) := by decide +kernel
theorem dd_M_mergeFirst_69 : decode b_M_mergeFirst 69 = .ok (.aload_n 0, 1) := by decide +kernel
theorem dd_M_mergeFirst_70 : decode b_M_mergeFirst 70 = .ok (.getfield 39, 3) := by decide +kernel
theorem dd_M_mergeFirst_73 : decode b_M_mergeFirst 73 = .ok (.iload_n 2, 1) := by decide +kernel
theorem dd_M_mergeFirst_74 : decode b_M_mergeFirst 74 = .ok (.iload 4, 2) := by decide +kernel
theorem dd_M_mergeFirst_76 : decode b_M_mergeFirst 76 = .ok (.iadd, 1) := by decide +kernel
theorem dd_M_mergeFirst_77 : decode b_M_mergeFirst 77 = .ok (.iaload, 1) := by decide +kernel
theorem dd_M_mergeFirst_78 : decode b_M_mergeFirst 78 = .ok (.iastore, 1) := by decide +kernel
theorem dd_M_mergeFirst_79 : decode b_M_mergeFirst 79 = .ok (.iinc 4 1, 3) := by decide +kernel
theorem dd_M_mergeFirst_82 : decode b_M_mergeFirst 82 = .ok (.goto (-25), 3) := by decide +kernel
theorem dd_M_mergeFirst_85 : decode b_M_mergeFirst 85 = .ok (.iconst 0, 1) := by decide +kernel
theorem dd_M_mergeFirst_86 : decode b_M_mergeFirst 86 = .ok (.istore 4, 2) := by decide +kernel
theorem dd_M_mergeFirst_88 : decode b_M_mergeFirst 88 = .ok (.iload 4, 2) := by decide +kernel
theorem dd_M_mergeFirst_90 : decode b_M_mergeFirst 90 = .ok (.iload_n 2, 1) := by decide +kernel
theorem dd_M_mergeFirst_91 : decode b_M_mergeFirst 91 = .ok (.if_icmp .ge 137, 3) := by decide +kernel
theorem dd_M_mergeFirst_94 : decode b_M_mergeFirst 94 = .ok (.iconst (-1), 1) := by decide +kernel
theorem dd_M_mergeFirst_95 : decode b_M_mergeFirst 95 = .ok (.istore 5, 2) := by decide +kernel
theorem dd_M_mergeFirst_97 : decode b_M_mergeFirst 97 = .ok (.iconst 0, 1) := by decide +kernel
theorem dd_M_mergeFirst_98 : decode b_M_mergeFirst 98 = .ok (.istore 6, 2) := by decide +kernel
theorem dd_M_mergeFirst_100 : decode b_M_mergeFirst 100 = .ok (.iconst 0, 1) := by decide +kernel
theorem dd_M_mergeFirst_101 : decode b_M_mergeFirst 101 = .ok (.istore 7, 2) := by decide +kernel
theorem dd_M_mergeFirst_103 : decode b_M_mergeFirst 103 = .ok (.iload 7, 2) := by decide +kernel
theorem dd_M_mergeFirst_105 : decode b_M_mergeFirst 105 = .ok (.iload_n 1, 1) := by decide +kernel
theorem dd_M_mergeFirst_106 : decode b_M_mergeFirst 106 = .ok (.if_icmp .ge 85, 3) := by decide +kernel
theorem dd_M_mergeFirst_109 : decode b_M_mergeFirst 109 = .ok (.iload 6, 2) := by decide +kernel
theorem dd_M_mergeFirst_111 : decode b_M_mergeFirst 111 = .ok (.aload_n 0, 1) := by decide +kernel
theorem dd_M_mergeFirst_112 : decode b_M_mergeFirst 112 = .ok (.getfield 54, 3) := by decide +kernel
theorem dd_M_mergeFirst_115 : decode b_M_mergeFirst 115 = .ok (.iload 7, 2) := by decide +kernel
theorem dd_M_mergeFirst_117 : decode b_M_mergeFirst 117 = .ok (.iaload, 1) := by decide +kernel
theorem dd_M_mergeFirst_118 : decode b_M_mergeFirst 118 = .ok (.iadd, 1) := by decide +kernel
theorem dd_M_mergeFirst_119 : decode b_M_mergeFirst 119 = .ok (.istore 8, 2) := by decide +kernel
theorem dd_M_mergeFirst_121 : decode b_M_mergeFirst 121 = .ok (.aload_n 0, 1) := by decide +kernel
theorem dd_M_mergeFirst_122 : decode b_M_mergeFirst 122 = .ok (.getfield 54, 3) := by decide +kernel
theorem dd_M_mergeFirst_125 : decode b_M_mergeFirst 125 = .ok (.iload 7, 2) := by decide +kernel
theorem dd_M_mergeFirst_127 : decode b_M_mergeFirst 127 = .ok (.iaload, 1) := by decide +kernel
theorem dd_M_mergeFirst_128 : decode b_M_mergeFirst 128 = .ok (.aload_n 0, 1) := by decide +kernel
theorem dd_M_mergeFirst_129 : decode b_M_mergeFirst 129 = .ok (.getfield 42, 3) := by decide +kernel
theorem dd_M_mergeFirst_132 : decode b_M_mergeFirst 132 = .ok (.iload 7, 2) := by decide +kernel
theorem dd_M_mergeFirst_134 : decode b_M_mergeFirst 134 = .ok (.iaload, 1) := by decide +kernel
theorem dd_M_mergeFirst_135 : decode b_M_mergeFirst 135 = .ok (.if_icmp .ge 38, 3) := by decide +kernel
theorem dd_M_mergeFirst_138 : decode b_M_mergeFirst 138 = .ok (.iload 5, 2) := by decide +kernel
theorem dd_M_mergeFirst_140 : decode b_M_mergeFirst 140 = .ok (.iconst (-1), 1) := by decide +kernel
theorem dd_M_mergeFirst_141 : decode b_M_mergeFirst 141 = .ok (.if_icmp .eq 28, 3) := by decide +kernel
theorem dd_M_mergeFirst_144 : decode b_M_mergeFirst 144 = .ok (.aload_n 0, 1) := by decide +kernel
theorem dd_M_mergeFirst_145 : decode b_M_mergeFirst 145 = .ok (.aload_n 0, 1) := by decide +kernel
theorem dd_M_mergeFirst_146 : decode b_M_mergeFirst 146 = .ok (.getfield 39, 3) := by decide +kernel
theorem dd_M_mergeFirst_149 : decode b_M_mergeFirst 149 = .ok (.iload 8, 2) := by decide +kernel
theorem dd_M_mergeFirst_151 : decode b_M_mergeFirst 151 = .ok (.iaload, 1) := by decide +kernel
theorem dd_M_mergeFirst_152 : decode b_M_mergeFirst 152 = .ok (.aload_n 0, 1) := by decide +kernel
theorem dd_M_mergeFirst_153 : decode b_M_mergeFirst 153 = .ok (.getfield 39, 3) := by decide +kernel
theorem dd_M_mergeFirst_156 : decode b_M_mergeFirst 156 = .ok (.aload_n 0, 1) := by decide +kernel
theorem dd_M_mergeFirst_157 : decode b_M_mergeFirst 157 = .ok (.iload 5, 2) := by decide +kernel
theorem dd_M_mergeFirst_159 : decode b_M_mergeFirst 159 = .ok (.invokevirtual 200, 3) := by decide +kernel
theorem dd_M_mergeFirst_162 : decode b_M_mergeFirst 162 = .ok (.iaload, 1) := by decide +kernel
theorem dd_M_mergeFirst_163 : decode b_M_mergeFirst 163 = .ok (.invokevirtual 197, 3) := by decide +kernel
theorem dd_M_mergeFirst_166 : decode b_M_mergeFirst 166 = .ok (.ifCond .eq 7, 3) := by decide +kernel
theorem dd_M_mergeFirst_169 : decode b_M_mergeFirst 169 = .ok (.iload 7, 2) := by decide +kernel
theorem dd_M_mergeFirst_171 : decode b_M_mergeFirst 171 = .ok (.istore 5, 2) := by decide +kernel
theorem dd_M_mergeFirst_173 : decode b_M_mergeFirst 173 = .ok (.iload 6, 2) := by decide +kernel
theorem dd_M_mergeFirst_175 : decode b_M_mergeFirst 175 = .ok (.aload_n 0, 1) := by decide +kernel
theorem dd_M_mergeFirst_176 : decode b_M_mergeFirst 176 = .ok (.getfield 42, 3) := by decide +kernel
theorem dd_M_mergeFirst_179 : decode b_M_mergeFirst 179 = .ok (.iload 7, 2) := by decide +kernel
theorem dd_M_mergeFirst_181 : decode b_M_mergeFirst 181 = .ok (.iaload, 1) := by decide +kernel
theorem dd_M_mergeFirst_182 : decode b_M_mergeFirst 182 = .ok (.iadd, 1) := by decide +kernel
theorem dd_M_mergeFirst_183 : decode b_M_mergeFirst 183 = .ok (.istore 6, 2) := by decide +kernel
theorem dd_M_mergeFirst_185 : decode b_M_mergeFirst 185 = .ok (.iinc 7 1, 3) := by decide +kernel
theorem dd_M_mergeFirst_188 : decode b_M_mergeFirst 188 = .ok (.goto (-85), 3) := by decide +kernel
theorem dd_M_mergeFirst_191 : decode b_M_mergeFirst 191 = .ok (.aload_n 0, 1) := by decide +kernel
theorem dd_M_mergeFirst_192 : decode b_M_mergeFirst 192 = .ok (.getfield 45, 3) := by decide +kernel
theorem dd_M_mergeFirst_195 : decode b_M_mergeFirst 195 = .ok (.iload_n 3, 1) := by decide +kernel
theorem dd_M_mergeFirst_196 : decode b_M_mergeFirst 196 = .ok (.iload 4, 2) := by decide +kernel
theorem dd_M_mergeFirst_198 : decode b_M_mergeFirst 198 = .ok (.iadd, 1) := by decide +kernel
theorem dd_M_mergeFirst_199 : decode b_M_mergeFirst 199 = .ok (.aload_n 0, 1) := by decide +kernel
theorem dd_M_mergeFirst_200 : decode b_M_mergeFirst 200 = .ok (.getfield 39, 3) := by decide +kernel
theorem dd_M_mergeFirst_203 : decode b_M_mergeFirst 203 = .ok (.aload_n 0, 1) := by decide +kernel
theorem dd_M_mergeFirst_204 : decode b_M_mergeFirst 204 = .ok (.iload 5, 2) := by decide +kernel
theorem dd_M_mergeFirst_206 : decode b_M_mergeFirst 206 = .ok (.invokevirtual 200, 3) := by decide +kernel
theorem dd_M_mergeFirst_209 : decode b_M_mergeFirst 209 = .ok (.iaload, 1) := by decide +kernel
theorem dd_M_mergeFirst_210 : decode b_M_mergeFirst 210 = .ok (.iastore, 1) := by decide +kernel
theorem dd_M_mergeFirst_211 : decode b_M_mergeFirst 211 = .ok (.aload_n 0, 1) := by decide +kernel
theorem dd_M_mergeFirst_212 : decode b_M_mergeFirst 212 = .ok (.getfield 54, 3) := by decide +kernel
theorem dd_M_mergeFirst_215 : decode b_M_mergeFirst 215 = .ok (.iload 5, 2) := by decide +kernel
theorem dd_M_mergeFirst_217 : decode b_M_mergeFirst 217 = .ok (.dup2, 1) := by decide +kernel
theorem dd_M_mergeFirst_218 : decode b_M_mergeFirst 218 = .ok (.iaload, 1) := by decide +kernel
theorem dd_M_mergeFirst_219 : decode b_M_mergeFirst 219 = .ok (.iconst 1, 1) := by decide +kernel
theorem dd_M_mergeFirst_220 : decode b_M_mergeFirst 220 = .ok (.iadd, 1) := by decide +kernel
theorem dd_M_mergeFirst_221 : decode b_M_mergeFirst 221 = .ok (.iastore, 1) := by decide +kernel
theorem dd_M_mergeFirst_222 : decode b_M_mergeFirst 222 = .ok (.iinc 4 1, 3) := by decide +kernel
theorem dd_M_mergeFirst_225 : decode b_M_mergeFirst 225 = .ok (.goto (-137), 3) := by decide +kernel
theorem dd_M_mergeFirst_228 : decode b_M_mergeFirst 228 = .ok (.iconst 0, 1) := by decide +kernel
theorem dd_M_mergeFirst_229 : decode b_M_mergeFirst 229 = .ok (.istore 5, 2) := by decide +kernel
theorem dd_M_mergeFirst_231 : decode b_M_mergeFirst 231 = .ok (.iload 5, 2) := by decide +kernel
theorem dd_M_mergeFirst_233 : decode b_M_mergeFirst 233 = .ok (.iload_n 1, 1) := by decide +kernel
theorem dd_M_mergeFirst_234 : decode b_M_mergeFirst 234 = .ok (.if_icmp .ge 17, 3) := by decide +kernel
theorem dd_M_mergeFirst_237 : decode b_M_mergeFirst 237 = .ok (.aload_n 0, 1) := by decide +kernel
theorem dd_M_mergeFirst_238 : decode b_M_mergeFirst 238 = .ok (.getfield 54, 3) := by decide +kernel
theorem dd_M_mergeFirst_241 : decode b_M_mergeFirst 241 = .ok (.iload 5, 2) := by decide +kernel
theorem dd_M_mergeFirst_243 : decode b_M_mergeFirst 243 = .ok (.iconst 0, 1) := by decide +kernel
theorem dd_M_mergeFirst_244 : decode b_M_mergeFirst 244 = .ok (.iastore, 1) := by decide +kernel
theorem dd_M_mergeFirst_245 : decode b_M_mergeFirst 245 = .ok (.iinc 5 1, 3) := by decide +kernel
theorem dd_M_mergeFirst_248 : decode b_M_mergeFirst 248 = .ok (.goto (-17), 3) := by decide +kernel
theorem dd_M_mergeFirst_251 : decode b_M_mergeFirst 251 = .ok (.iconst 0, 1) := by decide +kernel
theorem dd_M_mergeFirst_252 : decode b_M_mergeFirst 252 = .ok (.istore 5, 2) := by decide +kernel
theorem dd_M_mergeFirst_254 : decode b_M_mergeFirst 254 = .ok (.iload 5, 2) := by decide +kernel
theorem dd_M_mergeFirst_256 : decode b_M_mergeFirst 256 = .ok (.aload_n 0, 1) := by decide +kernel
theorem dd_M_mergeFirst_257 : decode b_M_mergeFirst 257 = .ok (.getfield 78, 3) := by decide +kernel
theorem dd_M_mergeFirst_260 : decode b_M_mergeFirst 260 = .ok (.if_icmp .ge 23, 3) := by decide +kernel
theorem dd_M_mergeFirst_263 : decode b_M_mergeFirst 263 = .ok (.aload_n 0, 1) := by decide +kernel
theorem dd_M_mergeFirst_264 : decode b_M_mergeFirst 264 = .ok (.getfield 39, 3) := by decide +kernel
theorem dd_M_mergeFirst_267 : decode b_M_mergeFirst 267 = .ok (.iload 5, 2) := by decide +kernel
theorem dd_M_mergeFirst_269 : decode b_M_mergeFirst 269 = .ok (.aload_n 0, 1) := by decide +kernel
theorem dd_M_mergeFirst_270 : decode b_M_mergeFirst 270 = .ok (.getfield 45, 3) := by decide +kernel
theorem dd_M_mergeFirst_273 : decode b_M_mergeFirst 273 = .ok (.iload 5, 2) := by decide +kernel
theorem dd_M_mergeFirst_275 : decode b_M_mergeFirst 275 = .ok (.iaload, 1) := by decide +kernel
theorem dd_M_mergeFirst_276 : decode b_M_mergeFirst 276 = .ok (.iastore, 1) := by decide +kernel
theorem dd_M_mergeFirst_277 : decode b_M_mergeFirst 277 = .ok (.iinc 5 1, 3) := by decide +kernel
theorem dd_M_mergeFirst_280 : decode b_M_mergeFirst 280 = .ok (.goto (-26), 3) := by decide +kernel
theorem dd_M_mergeFirst_283 : decode b_M_mergeFirst 283 = .ok (.iload_n 1, 1) := by decide +kernel
theorem dd_M_mergeFirst_284 : decode b_M_mergeFirst 284 = .ok (.istore 5, 2) := by decide +kernel
theorem dd_M_mergeFirst_286 : decode b_M_mergeFirst 286 = .ok (.iload 5, 2) := by decide +kernel
theorem dd_M_mergeFirst_288 : decode b_M_mergeFirst 288 = .ok (.aload_n 0, 1) := by decide +kernel
theorem dd_M_mergeFirst_289 : decode b_M_mergeFirst 289 = .ok (.getfield 194, 3) := by decide +kernel
theorem dd_M_mergeFirst_292 : decode b_M_mergeFirst 292 = .ok (.if_icmp .ge 25, 3) := by decide +kernel
theorem dd_M_mergeFirst_295 : decode b_M_mergeFirst 295 = .ok (.aload_n 0, 1) := by decide +kernel
theorem dd_M_mergeFirst_296 : decode b_M_mergeFirst 296 = .ok (.getfield 42, 3) := by decide +kernel
theorem dd_M_mergeFirst_299 : decode b_M_mergeFirst 299 = .ok (.iload 5, 2) := by decide +kernel
theorem dd_M_mergeFirst_301 : decode b_M_mergeFirst 301 = .ok (.iload_n 1, 1) := by decide +kernel
theorem dd_M_mergeFirst_302 : decode b_M_mergeFirst 302 = .ok (.isub, 1) := by decide +kernel
theorem dd_M_mergeFirst_303 : decode b_M_mergeFirst 303 = .ok (.aload_n 0, 1) := by decide +kernel
theorem dd_M_mergeFirst_304 : decode b_M_mergeFirst 304 = .ok (.getfield 42, 3) := by decide +kernel
theorem dd_M_mergeFirst_307 : decode b_M_mergeFirst 307 = .ok (.iload 5, 2) := by decide +kernel
theorem dd_M_mergeFirst_309 : decode b_M_mergeFirst 309 = .ok (.iaload, 1) := by decide +kernel
theorem dd_M_mergeFirst_310 : decode b_M_mergeFirst 310 = .ok (.iastore, 1) := by decide +kernel
theorem dd_M_mergeFirst_311 : decode b_M_mergeFirst 311 = .ok (.iinc 5 1, 3) := by decide +kernel
theorem dd_M_mergeFirst_314 : decode b_M_mergeFirst 314 = .ok (.goto (-28), 3) := by decide +kernel
theorem dd_M_mergeFirst_317 : decode b_M_mergeFirst 317 = .ok (.aload_n 0, 1) := by decide +kernel
theorem dd_M_mergeFirst_318 : decode b_M_mergeFirst 318 = .ok (.dup, 1) := by decide +kernel
theorem dd_M_mergeFirst_319 : decode b_M_mergeFirst 319 = .ok (.getfield 194, 3) := by decide +kernel
theorem dd_M_mergeFirst_322 : decode b_M_mergeFirst 322 = .ok (.iload_n 1, 1) := by decide +kernel
theorem dd_M_mergeFirst_323 : decode b_M_mergeFirst 323 = .ok (.isub, 1) := by decide +kernel
theorem dd_M_mergeFirst_324 : decode b_M_mergeFirst 324 = .ok (.putfield 194, 3) := by decide +kernel
theorem dd_M_mergeFirst_327 : decode b_M_mergeFirst 327 = .ok (.aload_n 0, 1) := by decide +kernel
theorem dd_M_mergeFirst_328 : decode b_M_mergeFirst 328 = .ok (.getfield 42, 3) := by decide +kernel
theorem dd_M_mergeFirst_331 : decode b_M_mergeFirst 331 = .ok (.aload_n 0, 1) := by decide +kernel
theorem dd_M_mergeFirst_332 : decode b_M_mergeFirst 332 = .ok (.getfield 194, 3) := by decide +kernel
theorem dd_M_mergeFirst_335 : decode b_M_mergeFirst 335 = .ok (.iload_n 2, 1) := by decide +kernel
theorem dd_M_mergeFirst_336 : decode b_M_mergeFirst 336 = .ok (.iastore, 1) := by decide +kernel
theorem dd_M_mergeFirst_337 : decode b_M_mergeFirst 337 = .ok (.aload_n 0, 1) := by decide +kernel
theorem dd_M_mergeFirst_338 : decode b_M_mergeFirst 338 = .ok (.dup, 1) := by decide +kernel
theorem dd_M_mergeFirst_339 : decode b_M_mergeFirst 339 = .ok (.getfield 194, 3) := by decide +kernel
theorem dd_M_mergeFirst_342 : decode b_M_mergeFirst 342 = .ok (.iconst 1, 1) := by decide +kernel
theorem dd_M_mergeFirst_343 : decode b_M_mergeFirst 343 = .ok (.iadd, 1) := by decide +kernel
theorem dd_M_mergeFirst_344 : decode b_M_mergeFirst 344 = .ok (.putfield 194, 3) := by decide +kernel
theorem dd_M_mergeFirst_347 : decode b_M_mergeFirst 347 = .ok (.aload_n 0, 1) := by decide +kernel
theorem dd_M_mergeFirst_348 : decode b_M_mergeFirst 348 = .ok (.dup, 1) := by decide +kernel
theorem dd_M_mergeFirst_349 : decode b_M_mergeFirst 349 = .ok (.getfield 203, 3) := by decide +kernel
theorem dd_M_mergeFirst_352 : decode b_M_mergeFirst 352 = .ok (.iconst 1, 1) := by decide +kernel
theorem dd_M_mergeFirst_353 : decode b_M_mergeFirst 353 = .ok (.iadd, 1) := by decide +kernel
theorem dd_M_mergeFirst_354 : decode b_M_mergeFirst 354 = .ok (.putfield 203, 3) := by decide +kernel
theorem dd_M_mergeFirst_357 : decode b_M_mergeFirst 357 = .ok (.aload_n 0, 1) := by decide +kernel
theorem dd_M_mergeFirst_358 : decode b_M_mergeFirst 358 = .ok (.dup, 1) := by decide +kernel
theorem dd_M_mergeFirst_359 : decode b_M_mergeFirst 359 = .ok (.getfield 206, 3) := by decide +kernel
theorem dd_M_mergeFirst_362 : decode b_M_mergeFirst 362 = .ok (.iload_n 2, 1) := by decide +kernel
theorem dd_M_mergeFirst_363 : decode b_M_mergeFirst 363 = .ok (.iadd, 1) := by decide +kernel
theorem dd_M_mergeFirst_364 : decode b_M_mergeFirst 364 = .ok (.putfield 206, 3) := by decide +kernel
theorem dd_M_mergeFirst_367 : decode b_M_mergeFirst 367 = .ok (.return_, 1) := by decide +kernel
theorem dd_M_headOf_0 : decode b_M_headOf 0 = .ok (.iconst 0, 1) := by decide +kernel
theorem dd_M_headOf_1 : decode b_M_headOf 1 = .ok (.istore_n 2, 1) := by decide +kernel
theorem dd_M_headOf_2 : decode b_M_headOf 2 = .ok (.iconst 0, 1) := by decide +kernel
theorem dd_M_headOf_3 : decode b_M_headOf 3 = .ok (.istore_n 3, 1) := by decide +kernel
theorem dd_M_headOf_4 : decode b_M_headOf 4 = .ok (.iload_n 3, 1) := by decide +kernel
theorem dd_M_headOf_5 : decode b_M_headOf 5 = .ok (.iload_n 1, 1) := by decide +kernel
theorem dd_M_headOf_6 : decode b_M_headOf 6 = .ok (.if_icmp .ge 18, 3) := by decide +kernel
theorem dd_M_headOf_9 : decode b_M_headOf 9 = .ok (.iload_n 2, 1) := by decide +kernel
theorem dd_M_headOf_10 : decode b_M_headOf 10 = .ok (.aload_n 0, 1) := by decide +kernel
theorem dd_M_headOf_11 : decode b_M_headOf 11 = .ok (.getfield 42, 3) := by decide +kernel
theorem dd_M_headOf_14 : decode b_M_headOf 14 = .ok (.iload_n 3, 1) := by decide +kernel
theorem dd_M_headOf_15 : decode b_M_headOf 15 = .ok (.iaload, 1) := by decide +kernel
theorem dd_M_headOf_16 : decode b_M_headOf 16 = .ok (.iadd, 1) := by decide +kernel
theorem dd_M_headOf_17 : decode b_M_headOf 17 = .ok (.istore_n 2, 1) := by decide +kernel
theorem dd_M_headOf_18 : decode b_M_headOf 18 = .ok (.iinc 3 1, 3) := by decide +kernel
theorem dd_M_headOf_21 : decode b_M_headOf 21 = .ok (.goto (-17), 3) := by decide +kernel
theorem dd_M_headOf_24 : decode b_M_headOf 24 = .ok (.iload_n 2, 1) := by decide +kernel
theorem dd_M_headOf_25 : decode b_M_headOf 25 = .ok (.aload_n 0, 1) := by decide +kernel
theorem dd_M_headOf_26 : decode b_M_headOf 26 = .ok (.getfield 54, 3) := by decide +kernel
theorem dd_M_headOf_29 : decode b_M_headOf 29 = .ok (.iload_n 1, 1) := by decide +kernel
theorem dd_M_headOf_30 : decode b_M_headOf 30 = .ok (.iaload, 1) := by decide +kernel
theorem dd_M_headOf_31 : decode b_M_headOf 31 = .ok (.iadd, 1) := by decide +kernel
theorem dd_M_headOf_32 : decode b_M_headOf 32 = .ok (.ireturn, 1) := by decide +kernel
theorem dd_M_sort_0 : decode b_M_sort 0 = .ok (.aload_n 0, 1) := by decide +kernel
theorem dd_M_sort_1 : decode b_M_sort 1 = .ok (.invokevirtual 191, 3) := by decide +kernel
theorem dd_M_sort_4 : decode b_M_sort 4 = .ok (.aload_n 0, 1) := by decide +kernel
theorem dd_M_sort_5 : decode b_M_sort 5 = .ok (.aload_n 0, 1) := by decide +kernel
theorem dd_M_sort_6 : decode b_M_sort 6 = .ok (.getfield 78, 3) := by decide +kernel
theorem dd_M_sort_9 : decode b_M_sort 9 = .ok (.sipush 1000, 3) := by decide +kernel
theorem dd_M_sort_12 : decode b_M_sort 12 = .ok (.if_icmp .le 7, 3) := by decide +kernel
theorem dd_M_sort_15 : decode b_M_sort 15 = .ok (.iconst 1, 1) := by decide +kernel
theorem dd_M_sort_16 : decode b_M_sort 16 = .ok (.goto 4, 3) := by decide +kernel
theorem dd_M_sort_19 : decode b_M_sort 19 = .ok (.iconst 0, 1) := by decide +kernel
theorem dd_M_sort_20 : decode b_M_sort 20 = .ok (.iconst 1, 1) := by decide +kernel
theorem dd_M_sort_21 : decode b_M_sort 21 = .ok (.invokevirtual 70, 3) := by decide +kernel
theorem dd_M_sort_24 : decode b_M_sort 24 = .ok (.ifCond .eq 5, 3) := by decide +kernel
theorem dd_M_sort_27 : decode b_M_sort 27 = .ok (.iconst 0, 1) := by decide +kernel
theorem dd_M_sort_28 : decode b_M_sort 28 = .ok (.ireturn, 1) := by decide +kernel
theorem dd_M_sort_29 : decode b_M_sort 29 = .ok (.aload_n 0, 1) := by decide +kernel
theorem dd_M_sort_30 : decode b_M_sort 30 = .ok (.invokevirtual 209, 3) := by decide +kernel
theorem dd_M_sort_33 : decode b_M_sort 33 = .ok (.aload_n 0, 1) := by decide +kernel
theorem dd_M_sort_34 : decode b_M_sort 34 = .ok (.invokevirtual 212, 3) := by decide +kernel
theorem dd_M_sort_37 : decode b_M_sort 37 = .ok (.aload_n 0, 1) := by decide +kernel
theorem dd_M_sort_38 : decode b_M_sort 38 = .ok (.aload_n 0, 1) := by decide +kernel
theorem dd_M_sort_39 : decode b_M_sort 39 = .ok (.getfield 194, 3) := by decide +kernel
theorem dd_M_sort_42 : decode b_M_sort 42 = .ok (.putfield 215, 3) := by decide +kernel
theorem dd_M_sort_45 : decode b_M_sort 45 = .ok (.iconst 0, 1) := by decide +kernel
theorem dd_M_sort_46 : decode b_M_sort 46 = .ok (.istore_n 1, 1) := by decide +kernel
theorem dd_M_sort_47 : decode b_M_sort 47 = .ok (.iload_n 1, 1) := by decide +kernel
theorem dd_M_sort_48 : decode b_M_sort 48 = .ok (.aload_n 0, 1) := by decide +kernel
theorem dd_M_sort_49 : decode b_M_sort 49 = .ok (.getfield 194, 3) := by decide +kernel
theorem dd_M_sort_52 : decode b_M_sort 52 = .ok (.if_icmp .ge 21, 3) := by decide +kernel
theorem dd_M_sort_55 : decode b_M_sort 55 = .ok (.aload_n 0, 1) := by decide +kernel
theorem dd_M_sort_56 : decode b_M_sort 56 = .ok (.getfield 48, 3) := by decide +kernel
theorem dd_M_sort_59 : decode b_M_sort 59 = .ok (.iload_n 1, 1) := by decide +kernel
theorem dd_M_sort_60 : decode b_M_sort 60 = .ok (.aload_n 0, 1) := by decide +kernel
theorem dd_M_sort_61 : decode b_M_sort 61 = .ok (.getfield 42, 3) := by decide +kernel
theorem dd_M_sort_64 : decode b_M_sort 64 = .ok (.iload_n 1, 1) := by decide +kernel
theorem dd_M_sort_65 : decode b_M_sort 65 = .ok (.iaload, 1) := by decide +kernel
theorem dd_M_sort_66 : decode b_M_sort 66 = .ok (.iastore, 1) := by decide +kernel
theorem dd_M_sort_67 : decode b_M_sort 67 = .ok (.iinc 1 1, 3) := by decide +kernel
theorem dd_M_sort_70 : decode b_M_sort 70 = .ok (.goto (-23), 3) := by decide +kernel
theorem dd_M_sort_73 : decode b_M_sort 73 = .ok (.aload_n 0, 1) := by decide +kernel
theorem dd_M_sort_74 : decode b_M_sort 74 = .ok (.iconst 0, 1) := by decide +kernel
theorem dd_M_sort_75 : decode b_M_sort 75 = .ok (.putfield 203, 3) := by decide +kernel
theorem dd_M_sort_78 : decode b_M_sort 78 = .ok (.aload_n 0, 1) := by decide +kernel
theorem dd_M_sort_79 : decode b_M_sort 79 = .ok (.iconst 0, 1) := by decide +kernel
theorem dd_M_sort_80 : decode b_M_sort 80 = .ok (.putfield 206, 3) := by decide +kernel
theorem dd_M_sort_83 : decode b_M_sort 83 = .ok (.aload_n 0, 1) := by decide +kernel
theorem dd_M_sort_84 : decode b_M_sort 84 = .ok (.getfield 194, 3) := by decide +kernel
theorem dd_M_sort_87 : decode b_M_sort 87 = .ok (.iconst 1, 1) := by decide +kernel
theorem dd_M_sort_88 : decode b_M_sort 88 = .ok (.if_icmp .le 10, 3) := by decide +kernel
theorem dd_M_sort_91 : decode b_M_sort 91 = .ok (.aload_n 0, 1) := by decide +kernel
theorem dd_M_sort_92 : decode b_M_sort 92 = .ok (.invokevirtual 218, 3) := by decide +kernel
theorem dd_M_sort_95 : decode b_M_sort 95 = .ok (.goto (-12), 3) := by decide +kernel
theorem dd_M_sort_98 : decode b_M_sort 98 = .ok (.aload_n 0, 1) := by decide +kernel
theorem dd_M_sort_99 : decode b_M_sort 99 = .ok (.iconst 0, 1) := by decide +kernel
theorem dd_M_sort_100 : decode b_M_sort 100 = .ok (.putfield 67, 3) := by decide +kernel
theorem dd_M_sort_103 : decode b_M_sort 103 = .ok (.aload_n 0, 1) := by decide +kernel
theorem dd_M_sort_104 : decode b_M_sort 104 = .ok (.iconst 0, 1) := by decide +kernel
theorem dd_M_sort_105 : decode b_M_sort 105 = .ok (.putfield 221, 3) := by decide +kernel
theorem dd_M_sort_108 : decode b_M_sort 108 = .ok (.iconst 0, 1) := by decide +kernel
theorem dd_M_sort_109 : decode b_M_sort 109 = .ok (.istore_n 1, 1) := by decide +kernel
theorem dd_M_sort_110 : decode b_M_sort 110 = .ok (.iload_n 1, 1) := by decide +kernel
theorem dd_M_sort_111 : decode b_M_sort 111 = .ok (.aload_n 0, 1) := by decide +kernel
theorem dd_M_sort_112 : decode b_M_sort 112 = .ok (.getfield 78, 3) := by decide +kernel
theorem dd_M_sort_115 : decode b_M_sort 115 = .ok (.if_icmp .ge 79, 3) := by decide +kernel
theorem dd_M_sort_118 : decode b_M_sort 118 = .ok (.aload_n 0, 1) := by decide +kernel
theorem dd_M_sort_119 : decode b_M_sort 119 = .ok (.getfield 91, 3) := by decide +kernel
theorem dd_M_sort_122 : decode b_M_sort 122 = .ok (.ifCond .eq 41, 3) := by decide +kernel
theorem dd_M_sort_125 : decode b_M_sort 125 = .ok (.iload_n 1, 1) := by decide +kernel
theorem dd_M_sort_126 : decode b_M_sort 126 = .ok (.ifCond .le 37, 3) := by decide +kernel
theorem dd_M_sort_129 : decode b_M_sort 129 = .ok (.aload_n 0, 1) := by decide +kernel
theorem dd_M_sort_130 : decode b_M_sort 130 = .ok (.aload_n 0, 1) := by decide +kernel
theorem dd_M_sort_131 : decode b_M_sort 131 = .ok (.getfield 39, 3) := by decide +kernel
theorem dd_M_sort_134 : decode b_M_sort 134 = .ok (.iload_n 1, 1) := by decide +kernel
theorem dd_M_sort_135 : decode b_M_sort 135 = .ok (.iconst 1, 1) := by decide +kernel
theorem dd_M_sort_136 : decode b_M_sort 136 = .ok (.isub, 1) := by decide +kernel
theorem dd_M_sort_137 : decode b_M_sort 137 = .ok (.iaload, 1) := by decide +kernel
theorem dd_M_sort_138 : decode b_M_sort 138 = .ok (.aload_n 0, 1) := by decide +kernel
theorem dd_M_sort_139 : decode b_M_sort 139 = .ok (.getfield 39, 3) := by decide +kernel
theorem dd_M_sort_142 : decode b_M_sort 142 = .ok (.iload_n 1, 1) := by decide +kernel
theorem dd_M_sort_143 : decode b_M_sort 143 = .ok (.iaload, 1) := by decide +kernel
theorem dd_M_sort_144 : decode b_M_sort 144 = .ok (.invokevirtual 185, 3) := by decide +kernel
theorem dd_M_sort_147 : decode b_M_sort 147 = .ok (.ifCond .ne 16, 3) := by decide +kernel
theorem dd_M_sort_150 : decode b_M_sort 150 = .ok (.aload_n 0, 1) := by decide +kernel
theorem dd_M_sort_151 : decode b_M_sort 151 = .ok (.dup, 1) := by decide +kernel
theorem dd_M_sort_152 : decode b_M_sort 152 = .ok (.getfield 221, 3) := by decide +kernel
theorem dd_M_sort_155 : decode b_M_sort 155 = .ok (.iconst 1, 1) := by decide +kernel
theorem dd_M_sort_156 : decode b_M_sort 156 = .ok (.iadd, 1) := by decide +kernel
theorem dd_M_sort_157 : decode b_M_sort 157 = .ok (.putfield 221, 3) := by decide +kernel
theorem dd_M_sort_160 : decode b_M_sort 160 = .ok (.goto 28, 3) := by decide +kernel
theorem dd_M_sort_163 : decode b_M_sort 163 = .ok (.aload_n 0, 1) := by decide +kernel
theorem dd_M_sort_164 : decode b_M_sort 164 = .ok (.getfield 36, 3) := by decide +kernel
theorem dd_M_sort_167 : decode b_M_sort 167 = .ok (.aload_n 0, 1) := by decide +kernel
theorem dd_M_sort_168 : decode b_M_sort 168 = .ok (.getfield 67, 3) := by decide +kernel
theorem dd_M_sort_171 : decode b_M_sort 171 = .ok (.aload_n 0, 1) := by decide +kernel
theorem dd_M_sort_172 : decode b_M_sort 172 = .ok (.getfield 39, 3) := by decide +kernel
theorem dd_M_sort_175 : decode b_M_sort 175 = .ok (.iload_n 1, 1) := by decide +kernel
theorem dd_M_sort_176 : decode b_M_sort 176 = .ok (.iaload, 1) := by decide +kernel
theorem dd_M_sort_177 : decode b_M_sort 177 = .ok (.iastore, 1) := by decide +kernel
theorem dd_M_sort_178 : decode b_M_sort 178 = .ok (.aload_n 0, 1) := by decide +kernel
theorem dd_M_sort_179 : decode b_M_sort 179 = .ok (.dup, 1) := by decide +kernel
theorem dd_M_sort_180 : decode b_M_sort 180 = .ok (.getfield 67, 3) := by decide +kernel
theorem dd_M_sort_183 : decode b_M_sort 183 = .ok (.iconst 1, 1) := by decide +kernel
theorem dd_M_sort_184 : decode b_M_sort 184 = .ok (.iadd, 1) := by decide +kernel
theorem dd_M_sort_185 : decode b_M_sort 185 = .ok (.putfield 67, 3) := by decide +kernel
theorem dd_M_sort_188 : decode b_M_sort 188 = .ok (.iinc 1 1, 3) := by decide +kernel
theorem dd_M_sort_191 : decode b_M_sort 191 = .ok (.goto (-81), 3) := by decide +kernel
theorem dd_M_sort_194 : decode b_M_sort 194 = .ok (.aload_n 0, 1) := by decide +kernel
theorem dd_M_sort_195 : decode b_M_sort 195 = .ok (.iconst 0, 1) := by decide +kernel
theorem dd_M_sort_196 : decode b_M_sort 196 = .ok (.putfield 126, 3) := by decide +kernel
theorem dd_M_sort_199 : decode b_M_sort 199 = .ok (.aload_n 0, 1) := by decide +kernel
theorem dd_M_sort_200 : decode b_M_sort 200 = .ok (.getfield 67, 3) := by decide +kernel
theorem dd_M_sort_203 : decode b_M_sort 203 = .ok (.ireturn, 1) := by decide +kernel
theorem dd_M_check_0 : decode b_M_check 0 = .ok (.aload_n 0, 1) := by decide +kernel
theorem dd_M_check_1 : decode b_M_check 1 = .ok (.iconst 0, 1) := by decide +kernel
theorem dd_M_check_2 : decode b_M_check 2 = .ok (.putfield 57, 3) := by decide +kernel
theorem dd_M_check_5 : decode b_M_check 5 = .ok (.aload_n 0, 1) := by decide +kernel
theorem dd_M_check_6 : decode b_M_check 6 = .ok (.invokevirtual 191, 3) := by decide +kernel
theorem dd_M_check_9 : decode b_M_check 9 = .ok (.iconst 1, 1) := by decide +kernel
theorem dd_M_check_10 : decode b_M_check 10 = .ok (.istore_n 1, 1) := by decide +kernel
theorem dd_M_check_11 : decode b_M_check 11 = .ok (.iload_n 1, 1) := by decide +kernel
theorem dd_M_check_12 : decode b_M_check 12 = .ok (.aload_n 0, 1) := by decide +kernel
theorem dd_M_check_13 : decode b_M_check 13 = .ok (.getfield 78, 3) := by decide +kernel
theorem dd_M_check_16 : decode b_M_check 16 = .ok (.if_icmp .ge 35, 3) := by decide +kernel
theorem dd_M_check_19 : decode b_M_check 19 = .ok (.aload_n 0, 1) := by decide +kernel
theorem dd_M_check_20 : decode b_M_check 20 = .ok (.iload_n 1, 1) := by decide +kernel
theorem dd_M_check_21 : decode b_M_check 21 = .ok (.iconst 1, 1) := by decide +kernel
theorem dd_M_check_22 : decode b_M_check 22 = .ok (.isub, 1) := by decide +kernel
theorem dd_M_check_23 : decode b_M_check 23 = .ok (.iload_n 1, 1) := by decide +kernel
theorem dd_M_check_24 : decode b_M_check 24 = .ok (.invokevirtual 188, 3) := by decide +kernel
theorem dd_M_check_27 : decode b_M_check 27 = .ok (.istore_n 2, 1) := by decide +kernel
theorem dd_M_check_28 : decode b_M_check 28 = .ok (.iload_n 2, 1) := by decide +kernel
theorem dd_M_check_29 : decode b_M_check 29 = .ok (.ifCond .gt 14, 3) := by decide +kernel
theorem dd_M_check_32 : decode b_M_check 32 = .ok (.iload_n 2, 1) := by decide +kernel
theorem dd_M_check_33 : decode b_M_check 33 = .ok (.ifCond .ne 12, 3) := by decide +kernel
theorem dd_M_check_36 : decode b_M_check 36 = .ok (.aload_n 0, 1) := by decide +kernel
theorem dd_M_check_37 : decode b_M_check 37 = .ok (.getfield 91, 3) := by decide +kernel
theorem dd_M_check_40 : decode b_M_check 40 = .ok (.ifCond .eq 5, 3) := by decide +kernel
theorem dd_M_check_43 : decode b_M_check 43 = .ok (.iload_n 1, 1) := by decide +kernel
theorem dd_M_check_44 : decode b_M_check 44 = .ok (.ireturn, 1) := by decide +kernel
theorem dd_M_check_45 : decode b_M_check 45 = .ok (.iinc 1 1, 3) := by decide +kernel
theorem dd_M_check_48 : decode b_M_check 48 = .ok (.goto (-37), 3) := by decide +kernel
theorem dd_M_check_51 : decode b_M_check 51 = .ok (.iconst (-1), 1) := by decide +kernel
theorem dd_M_check_52 : decode b_M_check 52 = .ok (.ireturn, 1) := by decide +kernel
