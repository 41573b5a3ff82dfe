theorem dd_M_merge_0 : decode b_M_merge 0 = .ok (.aload_n 0, 1) := by decide +kernel
theorem dd_M_merge_1 : decode b_M_merge 1 = .ok (.invokevirtual 191, 3) := by decide +kernel
theorem dd_M_merge_4 : decode b_M_merge 4 = .ok (.aload_n 0, 1) := by decide +kernel
theorem dd_M_merge_5 : decode b_M_merge 5 = .ok (.iload_n 1, 1) := by decide +kernel
theorem dd_M_merge_6 : decode b_M_merge 6 = .ok (.iconst 1, 1) := by decide +kernel
theorem dd_M_merge_7 : decode b_M_merge 7 = .ok (.if_icmp .ge 7, 3) := by decide +kernel
theorem dd_M_merge_10 : decode b_M_merge 10 = .ok (.iconst 1, 1) := by decide +kernel
theorem dd_M_merge_11 : decode b_M_merge 11 = .ok (.goto 4, 3) := by decide +kernel
theorem dd_M_merge_14 : decode b_M_merge 14 = .ok (.iconst 0, 1) := by decide +kernel
theorem dd_M_merge_15 : decode b_M_merge 15 = .ok (.iconst 1, 1) := by decide +kernel
theorem dd_M_merge_16 : decode b_M_merge 16 = .ok (.invokevirtual 70, 3) := by decide +kernel
theorem dd_M_merge_19 : decode b_M_merge 19 = .ok (.ifCond .ne 26, 3) := by decide +kernel
theorem dd_M_merge_22 : decode b_M_merge 22 = .ok (.aload_n 0, 1) := by decide +kernel
theorem dd_M_merge_23 : decode b_M_merge 23 = .ok (.aload_n 0, 1) := by decide +kernel
theorem dd_M_merge_24 : decode b_M_merge 24 = .ok (.getfield 78, 3) := by decide +kernel
theorem dd_M_merge_27 : decode b_M_merge 27 = .ok (.sipush 1000, 3) := by decide +kernel
theorem dd_M_merge_30 : decode b_M_merge 30 = .ok (.if_icmp .le 7, 3) := by decide +kernel
theorem dd_M_merge_33 : decode b_M_merge 33 = .ok (.iconst 1, 1) := by decide +kernel
theorem dd_M_merge_34 : decode b_M_merge 34 = .ok (.goto 4, 3) := by decide +kernel
theorem dd_M_merge_37 : decode b_M_merge 37 = .ok (.iconst 0, 1) := by decide +kernel
theorem dd_M_merge_38 : decode b_M_merge 38 = .ok (.iconst 2, 1) := by decide +kernel
theorem dd_M_merge_39 : decode b_M_merge 39 = .ok (.invokevirtual 70, 3) := by decide +kernel
theorem dd_M_merge_42 : decode b_M_merge 42 = .ok (.ifCond .eq 5, 3) := by decide +kernel
theorem dd_M_merge_45 : decode b_M_merge 45 = .ok (.iconst 0, 1) := by decide +kernel
theorem dd_M_merge_46 : decode b_M_merge 46 = .ok (.ireturn, 1) := by decide +kernel
theorem dd_M_merge_47 : decode b_M_merge 47 = .ok (.aload_n 0, 1) := by decide +kernel
theorem dd_M_merge_48 : decode b_M_merge 48 = .ok (.invokevirtual 209, 3) := by decide +kernel
theorem dd_M_merge_51 : decode b_M_merge 51 = .ok (.aload_n 0, 1) := by decide +kernel
theorem dd_M_merge_52 : decode b_M_merge 52 = .ok (.getfield 78, 3) := by decide +kernel
theorem dd_M_merge_55 : decode b_M_merge 55 = .ok (.i2l, 1) := by decide +kernel
theorem dd_M_merge_56 : decode b_M_merge 56 = .ok (.iload_n 1, 1) := by decide +kernel
theorem dd_M_merge_57 : decode b_M_merge 57 = .ok (.i2l, 1) := by decide +kernel
theorem dd_M_merge_58 : decode b_M_merge 58 = .ok (.ladd, 1) := by decide +kernel
theorem dd_M_merge_59 : decode b_M_merge 59 = .ok (.lconst 1, 1) := by decide +kernel
theorem dd_M_merge_60 : decode b_M_merge 60 = .ok (.lsub, 1) := by decide +kernel
theorem dd_M_merge_61 : decode b_M_merge 61 = .ok (.iload_n 1, 1) := by decide +kernel
theorem dd_M_merge_62 : decode b_M_merge 62 = .ok (.i2l, 1) := by decide +kernel
theorem dd_M_merge_63 : decode b_M_merge 63 = .ok (.ldiv, 1) := by decide +kernel
theorem dd_M_merge_64 : decode b_M_merge 64 = .ok (.l2i, 1) := by decide +kernel
theorem dd_M_merge_65 : decode b_M_merge 65 = .ok (.istore_n 2, 1) := by decide +kernel
theorem dd_M_merge_66 : decode b_M_merge 66 = .ok (.iconst 0, 1) := by decide +kernel
theorem dd_M_merge_67 : decode b_M_merge 67 = .ok (.istore_n 3, 1) := by decide +kernel
theorem dd_M_merge_68 : decode b_M_merge 68 = .ok (.iload_n 3, 1) := by decide +kernel
theorem dd_M_merge_69 : decode b_M_merge 69 = .ok (.iload_n 2, 1) := by decide +kernel
theorem dd_M_merge_70 : decode b_M_merge 70 = .ok (.if_icmp .ge 16, 3) := by decide +kernel
theorem dd_M_merge_73 : decode b_M_merge 73 = .ok (.aload_n 0, 1) := by decide +kernel
theorem dd_M_merge_74 : decode b_M_merge 74 = .ok (.getfield 54, 3) := by decide +kernel
theorem dd_M_merge_77 : decode b_M_merge 77 = .ok (.iload_n 3, 1) := by decide +kernel
theorem dd_M_merge_78 : decode b_M_merge 78 = .ok (.iconst 0, 1) := by decide +kernel
theorem dd_M_merge_79 : decode b_M_merge 79 = .ok (.iastore, 1) := by decide +kernel
theorem dd_M_merge_80 : decode b_M_merge 80 = .ok (.iinc 3 1, 3) := by decide +kernel
theorem dd_M_merge_83 : decode b_M_merge 83 = .ok (.goto (-15), 3) := by decide +kernel
theorem dd_M_merge_86 : decode b_M_merge 86 = .ok (.aload_n 0, 1) := by decide +kernel
theorem dd_M_merge_87 : decode b_M_merge 87 = .ok (.iconst 0, 1) := by decide +kernel
theorem dd_M_merge_88 : decode b_M_merge 88 = .ok (.putfield 67, 3) := by decide +kernel
theorem dd_M_merge_91 : decode b_M_merge 91 = .ok (.iconst (-1), 1) := by decide +kernel
theorem dd_M_merge_92 : decode b_M_merge 92 = .ok (.istore_n 3, 1) := by decide +kernel
theorem dd_M_merge_93 : decode b_M_merge 93 = .ok (.iconst 0, 1) := by decide +kernel
theorem dd_M_merge_94 : decode b_M_merge 94 = .ok (.istore 4, 2) := by decide +kernel
theorem dd_M_merge_96 : decode b_M_merge 96 = .ok (.iload 4, 2) := by decide +kernel
theorem dd_M_merge_98 : decode b_M_merge 98 = .ok (.aload_n 0, 1) := by decide +kernel
theorem dd_M_merge_99 : decode b_M_merge 99 = .ok (.getfield 78, 3) := by decide +kernel
theorem dd_M_merge_102 : decode b_M_merge 102 = .ok (.if_icmp .ge 169, 3) := by decide +kernel
theorem dd_M_merge_105 : decode b_M_merge 105 = .ok (.iconst (-1), 1) := by decide +kernel
theorem dd_M_merge_106 : decode b_M_merge 106 = .ok (.istore 5, 2) := by decide +kernel
theorem dd_M_merge_108 : decode b_M_merge 108 = .ok (.iconst 0, 1) := by decide +kernel
theorem dd_M_merge_109 : decode b_M_merge 109 = .ok (.istore 6, 2) := by decide +kernel
theorem dd_M_merge_111 : decode b_M_merge 111 = .ok (.iload 6, 2) := by decide +kernel
theorem dd_M_merge_113 : decode b_M_merge 113 = .ok (.iload_n 2, 1) := by decide +kernel
theorem dd_M_merge_114 : decode b_M_merge 114 = .ok (.if_icmp .ge 77, 3) := by decide +kernel
theorem dd_M_merge_117 : decode b_M_merge 117 = .ok (.iload 6, 2) := by decide +kernel
theorem dd_M_merge_119 : decode b_M_merge 119 = .ok (.iload_n 1, 1) := by decide +kernel
theorem dd_M_merge_120 : decode b_M_merge 120 = .ok (.imul, 1) := by decide +kernel
theorem dd_M_merge_121 : decode b_M_merge 121 = .ok (.aload_n 0, 1) := by decide +kernel
theorem dd_M_merge_122 : decode b_M_merge 122 = .ok (.getfield 54, 3) := by decide +kernel
theorem dd_M_merge_125 : decode b_M_merge 125 = .ok (.iload 6, 2) := by decide +kernel
theorem dd_M_merge_127 : decode b_M_merge 127 = .ok (.iaload, 1) := by decide +kernel
theorem dd_M_merge_128 : decode b_M_merge 128 = .ok (.iadd, 1) := by decide +kernel
theorem dd_M_merge_129 : decode b_M_merge 129 = .ok (.istore 7, 2) := by decide +kernel
theorem dd_M_merge_131 : decode b_M_merge 131 = .ok (.aload_n 0, 1) := by decide +kernel
theorem dd_M_merge_132 : decode b_M_merge 132 = .ok (.getfield 54, 3) := by decide +kernel
theorem dd_M_merge_135 : decode b_M_merge 135 = .ok (.iload 6, 2) := by decide +kernel
theorem dd_M_merge_137 : decode b_M_merge 137 = .ok (.iaload, 1) := by decide +kernel
theorem dd_M_merge_138 : decode b_M_merge 138 = .ok (.iload_n 1, 1) := by decide +kernel
theorem dd_M_merge_139 : decode b_M_merge 139 = .ok (.if_icmp .eq 46, 3) := by decide +kernel
theorem dd_M_merge_142 : decode b_M_merge 142 = .ok (.iload 7, 2) := by decide +kernel
theorem dd_M_merge_144 : decode b_M_merge 144 = .ok (.aload_n 0, 1) := by decide +kernel
theorem dd_M_merge_145 : decode b_M_merge 145 = .ok (.getfield 78, 3) := by decide +kernel
theorem dd_M_merge_148 : decode b_M_merge 148 = .ok (.if_icmp .lt 6, 3) := by decide +kernel
theorem dd_M_merge_151 : decode b_M_merge 151 = .ok (.goto 34, 3) := by decide +kernel
theorem dd_M_merge_154 : decode b_M_merge 154 = .ok (.iload 5, 2) := by decide +kernel
theorem dd_M_merge_156 : decode b_M_merge 156 = .ok (.iconst (-1), 1) := by decide +kernel
theorem dd_M_merge_157 : decode b_M_merge 157 = .ok (.if_icmp .eq 24, 3) := by decide +kernel
theorem dd_M_merge_160 : decode b_M_merge 160 = .ok (.aload_n 0, 1) := by decide +kernel
theorem dd_M_merge_161 : decode b_M_merge 161 = .ok (.iload 7, 2) := by decide +kernel
theorem dd_M_merge_163 : decode b_M_merge 163 = .ok (.iload 5, 2) := by decide +kernel
theorem dd_M_merge_165 : decode b_M_merge 165 = .ok (.iload_n 1, 1) := by decide +kernel
theorem dd_M_merge_166 : decode b_M_merge 166 = .ok (.imul, 1) := by decide +kernel
theorem dd_M_merge_167 : decode b_M_merge 167 = .ok (.aload_n 0, 1) := by decide +kernel
theorem dd_M_merge_168 : decode b_M_merge 168 = .ok (.getfield 54, 3) := by decide +kernel
theorem dd_M_merge_171 : decode b_M_merge 171 = .ok (.iload 5, 2) := by decide +kernel
theorem dd_M_merge_173 : decode b_M_merge 173 = .ok (.iaload, 1) := by decide +kernel
theorem dd_M_merge_174 : decode b_M_merge 174 = .ok (.iadd, 1) := by decide +kernel
theorem dd_M_merge_175 : decode b_M_merge 175 = .ok (.invokevirtual 197, 3) := by decide +kernel
theorem dd_M_merge_178 : decode b_M_merge 178 = .ok (.ifCond .eq 7, 3) := by decide +kernel
theorem dd_M_merge_181 : decode b_M_merge 181 = .ok (.iload 6, 2) := by decide +kernel
theorem dd_M_merge_183 : decode b_M_merge 183 = .ok (.istore 5, 2) := by decide +kernel
theorem dd_M_merge_185 : decode b_M_merge 185 = .ok (.iinc 6 1, 3) := by decide +kernel
theorem dd_M_merge_188 : decode b_M_merge 188 = .ok (.goto (-77), 3) := by decide +kernel
theorem dd_M_merge_191 : decode b_M_merge 191 = .ok (.iload 5, 2) := by decide +kernel
theorem dd_M_merge_193 : decode b_M_merge 193 = .ok (.iload_n 1, 1) := by decide +kernel
theorem dd_M_merge_194 : decode b_M_merge 194 = .ok (.imul, 1) := by decide +kernel
theorem dd_M_merge_195 : decode b_M_merge 195 = .ok (.aload_n 0, 1) := by decide +kernel
theorem dd_M_merge_196 : decode b_M_merge 196 = .ok (.getfield 54, 3) := by decide +kernel
theorem dd_M_merge_199 : decode b_M_merge 199 = .ok (.iload 5, 2) := by decide +kernel
theorem dd_M_merge_201 : decode b_M_merge 201 = .ok (.iaload, 1) := by decide +kernel
theorem dd_M_merge_202 : decode b_M_merge 202 = .ok (.iadd, 1) := by decide +kernel
theorem dd_M_merge_203 : decode b_M_merge 203 = .ok (.istore 6, 2) := by decide +kernel
theorem dd_M_merge_205 : decode b_M_merge 205 = .ok (.aload_n 0, 1) := by decide +kernel
theorem dd_M_merge_206 : decode b_M_merge 206 = .ok (.getfield 54, 3) := by decide +kernel
theorem dd_M_merge_209 : decode b_M_merge 209 = .ok (.iload 5, 2) := by decide +kernel
theorem dd_M_merge_211 : decode b_M_merge 211 = .ok (.dup2, 1) := by decide +kernel
theorem dd_M_merge_212 : decode b_M_merge 212 = .ok (.iaload, 1) := by decide +kernel
theorem dd_M_merge_213 : decode b_M_merge 213 = .ok (.iconst 1, 1) := by decide +kernel
theorem dd_M_merge_214 : decode b_M_merge 214 = .ok (.iadd, 1) := by decide +kernel
theorem dd_M_merge_215 : decode b_M_merge 215 = .ok (.iastore, 1) := by decide +kernel
theorem dd_M_merge_216 : decode b_M_merge 216 = .ok (.aload_n 0, 1) := by decide +kernel
theorem dd_M_merge_217 : decode b_M_merge 217 = .ok (.getfield 91, 3) := by decide +kernel
theorem dd_M_merge_220 : decode b_M_merge 220 = .ok (.ifCond .eq 21, 3) := by decide +kernel
theorem dd_M_merge_223 : decode b_M_merge 223 = .ok (.iload_n 3, 1) := by decide +kernel
theorem dd_M_merge_224 : decode b_M_merge 224 = .ok (.iconst (-1), 1) := by decide +kernel
theorem dd_M_merge_225 : decode b_M_merge 225 = .ok (.if_icmp .eq 16, 3) := by decide +kernel
theorem dd_M_merge_228 : decode b_M_merge 228 = .ok (.aload_n 0, 1) := by decide +kernel
theorem dd_M_merge_229 : decode b_M_merge 229 = .ok (.iload_n 3, 1) := by decide +kernel
theorem dd_M_merge_230 : decode b_M_merge 230 = .ok (.iload 6, 2) := by decide +kernel
theorem dd_M_merge_232 : decode b_M_merge 232 = .ok (.invokevirtual 185, 3) := by decide +kernel
theorem dd_M_merge_235 : decode b_M_merge 235 = .ok (.ifCond .ne 6, 3) := by decide +kernel
theorem dd_M_merge_238 : decode b_M_merge 238 = .ok (.goto 27, 3) := by decide +kernel
theorem dd_M_merge_241 : decode b_M_merge 241 = .ok (.iload 6, 2) := by decide +kernel
theorem dd_M_merge_243 : decode b_M_merge 243 = .ok (.istore_n 3, 1) := by decide +kernel
theorem dd_M_merge_244 : decode b_M_merge 244 = .ok (.aload_n 0, 1) := by decide +kernel
theorem dd_M_merge_245 : decode b_M_merge 245 = .ok (.getfield 36, 3) := by decide +kernel
theorem dd_M_merge_248 : decode b_M_merge 248 = .ok (.aload_n 0, 1) := by decide +kernel
theorem dd_M_merge_249 : decode b_M_merge 249 = .ok (.getfield 67, 3) := by decide +kernel
theorem dd_M_merge_252 : decode b_M_merge 252 = .ok (.iload 6, 2) := by decide +kernel
theorem dd_M_merge_254 : decode b_M_merge 254 = .ok (.iastore, 1) := by decide +kernel
theorem dd_M_merge_255 : decode b_M_merge 255 = .ok (.aload_n 0, 1) := by decide +kernel
theorem dd_M_merge_256 : decode b_M_merge 256 = .ok (.dup, 1) := by decide +kernel
theorem dd_M_merge_257 : decode b_M_merge 257 = .ok (.getfield 67, 3) := by decide +kernel
theorem dd_M_merge_260 : decode b_M_merge 260 = .ok (.iconst 1, 1) := by decide +kernel
theorem dd_M_merge_261 : decode b_M_merge 261 = .ok (.iadd, 1) := by decide +kernel
theorem dd_M_merge_262 : decode b_M_merge 262 = .ok (.putfield 67, 3) := by decide +kernel
theorem dd_M_merge_265 : decode b_M_merge 265 = .ok (.iinc 4 1, 3) := by decide +kernel
theorem dd_M_merge_268 : decode b_M_merge 268 = .ok (.goto (-172), 3) := by decide +kernel
theorem dd_M_merge_271 : decode b_M_merge 271 = .ok (.iconst 0, 1) := by decide +kernel
theorem dd_M_merge_272 : decode b_M_merge 272 = .ok (.istore 4, 2) := by decide +kernel
theorem dd_M_merge_274 : decode b_M_merge 274 = .ok (.iload 4, 2) := by decide +kernel
theorem dd_M_merge_276 : decode b_M_merge 276 = .ok (.iload_n 2, 1) := by decide +kernel
theorem dd_M_merge_277 : decode b_M_merge 277 = .ok (.if_icmp .ge 17, 3) := by decide +kernel
theorem dd_M_merge_280 : decode b_M_merge 280 = .ok (.aload_n 0, 1) := by decide +kernel
theorem dd_M_merge_281 : decode b_M_merge 281 = .ok (.getfield 54, 3) := by decide +kernel
theorem dd_M_merge_284 : decode b_M_merge 284 = .ok (.iload 4, 2) := by decide +kernel
theorem dd_M_merge_286 : decode b_M_merge 286 = .ok (.iconst 0, 1) := by decide +kernel
theorem dd_M_merge_287 : decode b_M_merge 287 = .ok (.iastore, 1) := by decide +kernel
theorem dd_M_merge_288 : decode b_M_merge 288 = .ok (.iinc 4 1, 3) := by decide +kernel
theorem dd_M_merge_291 : decode b_M_merge 291 = .ok (.goto (-17), 3) := by decide +kernel
theorem dd_M_merge_294 : decode b_M_merge 294 = .ok (.aload_n 0, 1) := by decide +kernel
theorem dd_M_merge_295 : decode b_M_merge 295 = .ok (.iconst 0, 1) := by decide +kernel
theorem dd_M_merge_296 : decode b_M_merge 296 = .ok (.putfield 126, 3) := by decide +kernel
theorem dd_M_merge_299 : decode b_M_merge 299 = .ok (.aload_n 0, 1) := by decide +kernel
theorem dd_M_merge_300 : decode b_M_merge 300 = .ok (.getfield 67, 3) := by decide +kernel
theorem dd_M_merge_303 : decode b_M_merge 303 = .ok (.ireturn, 1) := by decide +kernel
theorem dd_M_result_0 : decode b_M_result 0 = .ok (.aload_n 0, 1) := by decide +kernel
theorem dd_M_result_1 : decode b_M_result 1 = .ok (.iconst 0, 1) := by decide +kernel
theorem dd_M_result_2 : decode b_M_result 2 = .ok (.putfield 57, 3) := by decide +kernel
theorem dd_M_result_5 : decode b_M_result 5 = .ok (.iload_n 1, 1) := by decide +kernel
theorem dd_M_result_6 : decode b_M_result 6 = .ok (.ifCond .lt 20, 3) := by decide +kernel
theorem dd_M_result_9 : decode b_M_result 9 = .ok (.iload_n 1, 1) := by decide +kernel
theorem dd_M_result_10 : decode b_M_result 10 = .ok (.aload_n 0, 1) := by decide +kernel
theorem dd_M_result_11 : decode b_M_result 11 = .ok (.getfield 67, 3) := by decide +kernel
theorem dd_M_result_14 : decode b_M_result 14 = .ok (.if_icmp .ge 12, 3) := by decide +kernel
theorem dd_M_result_17 : decode b_M_result 17 = .ok (.aload_n 0, 1) := by decide +kernel
theorem dd_M_result_18 : decode b_M_result 18 = .ok (.getfield 36, 3) := by decide +kernel
theorem dd_M_result_21 : decode b_M_result 21 = .ok (.iload_n 1, 1) := by decide +kernel
theorem dd_M_result_22 : decode b_M_result 22 = .ok (.iaload, 1) := by decide +kernel
theorem dd_M_result_23 : decode b_M_result 23 = .ok (.goto 4, 3) := by decide +kernel
theorem dd_M_result_26 : decode b_M_result 26 = .ok (.iconst (-1), 1) := by decide +kernel
theorem dd_M_result_27 : decode b_M_result 27 = .ok (.ireturn, 1) := by decide +kernel
theorem dd_M_byteAt_0 : decode b_M_byteAt 0 = .ok (.aload_n 0, 1) := by decide +kernel
theorem dd_M_byteAt_1 : decode b_M_byteAt 1 = .ok (.iconst 0, 1) := by decide +kernel
theorem dd_M_byteAt_2 : decode b_M_byteAt 2 = .ok (.putfield 57, 3) := by decide +kernel
theorem dd_M_byteAt_5 : decode b_M_byteAt 5 = .ok (.iload_n 1, 1) := by decide +kernel
theorem dd_M_byteAt_6 : decode b_M_byteAt 6 = .ok (.ifCond .lt 15, 3) := by decide +kernel
theorem dd_M_byteAt_9 : decode b_M_byteAt 9 = .ok (.iload_n 1, 1) := by decide +kernel
theorem dd_M_byteAt_10 : decode b_M_byteAt 10 = .ok (.aload_n 0, 1) := by decide +kernel
theorem dd_M_byteAt_11 : decode b_M_byteAt 11 = .ok (.getfield 67, 3) := by decide +kernel
theorem dd_M_byteAt_14 : decode b_M_byteAt 14 = .ok (.if_icmp .ge 7, 3) := by decide +kernel
theorem dd_M_byteAt_17 : decode b_M_byteAt 17 = .ok (.iload_n 2, 1) := by decide +kernel
theorem dd_M_byteAt_18 : decode b_M_byteAt 18 = .ok (.ifCond .ge 5, 3) := by decide +kernel
theorem dd_M_byteAt_21 : decode b_M_byteAt 21 = .ok (.iconst (-1), 1) := by decide +kernel
theorem dd_M_byteAt_22 : decode b_M_byteAt 22 = .ok (.ireturn, 1) := by decide +kernel
theorem dd_M_byteAt_23 : decode b_M_byteAt 23 = .ok (.aload_n 0, 1) := by decide +kernel
theorem dd_M_byteAt_24 : decode b_M_byteAt 24 = .ok (.getfield 36, 3) := by decide +kernel
theorem dd_M_byteAt_27 : decode b_M_byteAt 27 = .ok (.iload_n 1, 1) := by decide +kernel
theorem dd_M_byteAt_28 : decode b_M_byteAt 28 = .ok (.iaload, 1) := by decide +kernel
theorem dd_M_byteAt_29 : decode b_M_byteAt 29 = .ok (.istore_n 3, 1) := by decide +kernel
theorem dd_M_byteAt_30 : decode b_M_byteAt 30 = .ok (.iload_n 2, 1) := by decide +kernel
theorem dd_M_byteAt_31 : decode b_M_byteAt 31 = .ok (.aload_n 0, 1) := by decide +kernel
theorem dd_M_byteAt_32 : decode b_M_byteAt 32 = .ok (.iload_n 3, 1) := by decide +kernel
theorem dd_M_byteAt_33 : decode b_M_byteAt 33 = .ok (.invokevirtual 97, 3) := by decide +kernel
theorem dd_M_byteAt_36 : decode b_M_byteAt 36 = .ok (.aload_n 0, 1) := by decide +kernel
theorem dd_M_byteAt_37 : decode b_M_byteAt 37 = .ok (.iload_n 3, 1) := by decide +kernel
theorem dd_M_byteAt_38 : decode b_M_byteAt 38 = .ok (.invokevirtual 101, 3) := by decide +kernel
theorem dd_M_byteAt_41 : decode b_M_byteAt 41 = .ok (.isub, 1) := by decide +kernel
theorem dd_M_byteAt_42 : decode b_M_byteAt 42 = .ok (.if_icmp .ge 22, 3) := by decide +kernel
theorem dd_M_byteAt_45 : decode b_M_byteAt 45 = .ok (.aload_n 0, 1) := by decide +kernel
theorem dd_M_byteAt_46 : decode b_M_byteAt 46 = .ok (.getfield 7, 3) := by decide +kernel
theorem dd_M_byteAt_49 : decode b_M_byteAt 49 = .ok (.aload_n 0, 1) := by decide +kernel
theorem dd_M_byteAt_50 : decode b_M_byteAt 50 = .ok (.iload_n 3, 1) := by decide +kernel
theorem dd_M_byteAt_51 : decode b_M_byteAt 51 = .ok (.invokevirtual 101, 3) := by decide +kernel
theorem dd_M_byteAt_54 : decode b_M_byteAt 54 = .ok (.iload_n 2, 1) := by decide +kernel
theorem dd_M_byteAt_55 : decode b_M_byteAt 55 = .ok (.iadd, 1) := by decide +kernel
theorem dd_M_byteAt_56 : decode b_M_byteAt 56 = .ok (.baload, 1) := by decide +kernel
theorem dd_M_byteAt_57 : decode b_M_byteAt 57 = .ok (.sipush 255, 3) := by decide +kernel
theorem dd_M_byteAt_60 : decode b_M_byteAt 60 = .ok (.iand, 1) := by decide +kernel
theorem dd_M_byteAt_61 : decode b_M_byteAt 61 = .ok (.goto 4, 3) := by decide +kernel
theorem dd_M_byteAt_64 : decode b_M_byteAt 64 = .ok (.iconst (-1), 1) := by decide +kernel
theorem dd_M_byteAt_65 : decode b_M_byteAt 65 = .ok (.ireturn, 1) := by decide +kernel
theorem dd_M_run_0 : decode b_M_run 0 = .ok (.aload_n 0, 1) := by decide +kernel
theorem dd_M_run_1 : decode b_M_run 1 = .ok (.iconst 0, 1) := by decide +kernel
theorem dd_M_run_2 : decode b_M_run 2 = .ok (.putfield 57, 3) := by decide +kernel
theorem dd_M_run_5 : decode b_M_run 5 = .ok (.iload_n 1, 1) := by decide +kernel
theorem dd_M_run_6 : decode b_M_run 6 = .ok (.ifCond .lt 20, 3) := by decide +kernel
theorem dd_M_run_9 : decode b_M_run 9 = .ok (.iload_n 1, 1) := by decide +kernel
theorem dd_M_run_10 : decode b_M_run 10 = .ok (.aload_n 0, 1) := by decide +kernel
theorem dd_M_run_11 : decode b_M_run 11 = .ok (.getfield 215, 3) := by decide +kernel
theorem dd_M_run_14 : decode b_M_run 14 = .ok (.if_icmp .ge 12, 3) := by decide +kernel
theorem dd_M_run_17 : decode b_M_run 17 = .ok (.aload_n 0, 1) := by decide +kernel
theorem dd_M_run_18 : decode b_M_run 18 = .ok (.getfield 48, 3) := by decide +kernel
theorem dd_M_run_21 : decode b_M_run 21 = .ok (.iload_n 1, 1) := by decide +kernel
theorem dd_M_run_22 : decode b_M_run 22 = .ok (.iaload, 1) := by decide +kernel
theorem dd_M_run_23 : decode b_M_run 23 = .ok (.goto 4, 3) := by decide +kernel
theorem dd_M_run_26 : decode b_M_run 26 = .ok (.iconst (-1), 1) := by decide +kernel
theorem dd_M_run_27 : decode b_M_run 27 = .ok (.ireturn, 1) := by decide +kernel
theorem dd_M_about_0 : decode b_M_about 0 = .ok (.aload_n 0, 1) := by decide +kernel
theorem dd_M_about_1 : decode b_M_about 1 = .ok (.iload_n 1, 1) := by decide +kernel
theorem dd_M_about_2 : decode b_M_about 2 = .ok (.ifCond .lt 9, 3) := by decide +kernel
theorem dd_M_about_5 : decode b_M_about 5 = .ok (.iload_n 1, 1) := by decide +kernel
theorem dd_M_about_6 : decode b_M_about 6 = .ok (.bipush 6, 2) := by decide +kernel
theorem dd_M_about_8 : decode b_M_about 8 = .ok (.if_icmp .le 7, 3) := by decide +kernel
theorem dd_M_about_11 : decode b_M_about 11 = .ok (.iconst 1, 1) := by decide +kernel
theorem dd_M_about_12 : decode b_M_about 12 = .ok (.goto 4, 3) := by decide +kernel
theorem dd_M_about_15 : decode b_M_about 15 = .ok (.iconst 0, 1) := by decide +kernel
theorem dd_M_about_16 : decode b_M_about 16 = .ok (.iconst 1, 1) := by decide +kernel
theorem dd_M_about_17 : decode b_M_about 17 = .ok (.invokevirtual 70, 3) := by decide +kernel
theorem dd_M_about_20 : decode b_M_about 20 = .ok (.ifCond .eq 5, 3) := by decide +kernel
theorem dd_M_about_23 : decode b_M_about 23 = .ok (.iconst 0, 1) := by decide +kernel
theorem dd_M_about_24 : decode b_M_about 24 = .ok (.ireturn, 1) := by decide +kernel
theorem dd_M_about_25 : decode b_M_about 25 = .ok (.iload_n 1, 1) := by decide +kernel
theorem dd_M_about_26 : decode b_M_about 26 = .ok (.tableswitch 68 0 5 #[38, 43, 48, 53, 58, 63], 38) := by decide +kernel
theorem dd_M_about_64 : decode b_M_about 64 = .ok (.aload_n 0, 1) := by decide +kernel
theorem dd_M_about_65 : decode b_M_about 65 = .ok (.getfield 215, 3) := by decide +kernel
theorem dd_M_about_68 : decode b_M_about 68 = .ok (.ireturn, 1) := by decide +kernel
theorem dd_M_about_69 : decode b_M_about 69 = .ok (.aload_n 0, 1) := by decide +kernel
theorem dd_M_about_70 : decode b_M_about 70 = .ok (.getfield 203, 3) := by decide +kernel
theorem dd_M_about_73 : decode b_M_about 73 = .ok (.ireturn, 1) := by decide +kernel
theorem dd_M_about_74 : decode b_M_about 74 = .ok (.aload_n 0, 1) := by decide +kernel
theorem dd_M_about_75 : decode b_M_about 75 = .ok (.getfield 206, 3) := by decide +kernel
theorem dd_M_about_78 : decode b_M_about 78 = .ok (.ireturn, 1) := by decide +kernel
theorem dd_M_about_79 : decode b_M_about 79 = .ok (.aload_n 0, 1) := by decide +kernel
theorem dd_M_about_80 : decode b_M_about 80 = .ok (.getfield 221, 3) := by decide +kernel
theorem dd_M_about_83 : decode b_M_about 83 = .ok (.ireturn, 1) := by decide +kernel
theorem dd_M_about_84 : decode b_M_about 84 = .ok (.aload_n 0, 1) := by decide +kernel
theorem dd_M_about_85 : decode b_M_about 85 = .ok (.getfield 60, 3) := by decide +kernel
theorem dd_M_about_88 : decode b_M_about 88 = .ok (.ireturn, 1) := by decide +kernel
theorem dd_M_about_89 : decode b_M_about 89 = .ok (.aload_n 0, 1) := by decide +kernel
theorem dd_M_about_90 : decode b_M_about 90 = .ok (.getfield 94, 3) := by decide +kernel
theorem dd_M_about_93 : decode b_M_about 93 = .ok (.ireturn, 1) := by decide +kernel
theorem dd_M_about_94 : decode b_M_about 94 = .ok (.aload_n 0, 1) := by decide +kernel
theorem dd_M_about_95 : decode b_M_about 95 = .ok (.getfield 67, 3) := by decide +kernel
theorem dd_M_about_98 : decode b_M_about 98 = .ok (.ireturn, 1) := by decide +kernel
theorem dd_H_init_0 : decode b_H_init 0 = .ok (.aload_n 0, 1) := by decide +kernel
theorem dd_H_init_1 : decode b_H_init 1 = .ok (.invokespecial 3, 3) := by decide +kernel
theorem dd_H_init_4 : decode b_H_init 4 = .ok (.aload_n 0, 1) := by decide +kernel
theorem dd_H_init_5 : decode b_H_init 5 = .ok (.sipush 1000, 3) := by decide +kernel
theorem dd_H_init_8 : decode b_H_init 8 = .ok (.newarray .int, 2) := by decide +kernel
theorem dd_H_init_10 : decode b_H_init 10 = .ok (.putfield 9, 3) := by decide +kernel
theorem dd_H_init_13 : decode b_H_init 13 = .ok (.aload_n 0, 1) := by decide +kernel
theorem dd_H_init_14 : decode b_H_init 14 = .ok (.iconst 0, 1) := by decide +kernel
theorem dd_H_init_15 : decode b_H_init 15 = .ok (.putfield 15, 3) := by decide +kernel
theorem dd_H_init_18 : decode b_H_init 18 = .ok (.return_, 1) := by decide +kernel
theorem dd_H_clear_0 : decode b_H_clear 0 = .ok (.aload_n 0, 1) := by decide +kernel
theorem dd_H_clear_1 : decode b_H_clear 1 = .ok (.iconst 0, 1) := by decide +kernel
theorem dd_H_clear_2 : decode b_H_clear 2 = .ok (.putfield 15, 3) := by decide +kernel
theorem dd_H_clear_5 : decode b_H_clear 5 = .ok (.return_, 1) := by decide +kernel
theorem dd_H_put_0 : decode b_H_put 0 = .ok (.aload_n 0, 1) := by decide +kernel
theorem dd_H_put_1 : decode b_H_put 1 = .ok (.getfield 15, 3) := by decide +kernel
theorem dd_H_put_4 : decode b_H_put 4 = .ok (.sipush 1000, 3) := by decide +kernel
theorem dd_H_put_7 : decode b_H_put 7 = .ok (.if_icmp .ne 4, 3) := by decide +kernel
theorem dd_H_put_10 : decode b_H_put 10 = .ok (.return_, 1) := by decide +kernel
theorem dd_H_put_11 : decode b_H_put 11 = .ok (.aload_n 0, 1) := by decide +kernel
theorem dd_H_put_12 : decode b_H_put 12 = .ok (.getfield 15, 3) := by decide +kernel
theorem dd_H_put_15 : decode b_H_put 15 = .ok (.istore_n 2, 1) := by decide +kernel
theorem dd_H_put_16 : decode b_H_put 16 = .ok (.aload_n 0, 1) := by decide +kernel
theorem dd_H_put_17 : decode b_H_put 17 = .ok (.dup, 1) := by decide +kernel
theorem dd_H_put_18 : decode b_H_put 18 = .ok (.getfield 15, 3) := by decide +kernel
theorem dd_H_put_21 : decode b_H_put 21 = .ok (.iconst 1, 1) := by decide +kernel
theorem dd_H_put_22 : decode b_H_put 22 = .ok (.iadd, 1) := by decide +kernel
theorem dd_H_put_23 : decode b_H_put 23 = .ok (.putfield 15, 3) := by decide +kernel
theorem dd_H_put_26 : decode b_H_put 26 = .ok (.iload_n 2, 1) := by decide +kernel
theorem dd_H_put_27 : decode b_H_put 27 = .ok (.ifCond .le 42, 3) := by decide +kernel
theorem dd_H_put_30 : decode b_H_put 30 = .ok (.aload_n 0, 1) := by decide +kernel
theorem dd_H_put_31 : decode b_H_put 31 = .ok (.getfield 9, 3) := by decide +kernel
theorem dd_H_put_34 : decode b_H_put 34 = .ok (.iload_n 2, 1) := by decide +kernel
theorem dd_H_put_35 : decode b_H_put 35 = .ok (.iconst 1, 1) := by decide +kernel
theorem dd_H_put_36 : decode b_H_put 36 = .ok (.isub, 1) := by decide +kernel
theorem dd_H_put_37 : decode b_H_put 37 = .ok (.iconst 2, 1) := by decide +kernel
theorem dd_H_put_38 : decode b_H_put 38 = .ok (.idiv, 1) := by decide +kernel
theorem dd_H_put_39 : decode b_H_put 39 = .ok (.iaload, 1) := by decide +kernel
theorem dd_H_put_40 : decode b_H_put 40 = .ok (.iload_n 1, 1) := by decide +kernel
theorem dd_H_put_41 : decode b_H_put 41 = .ok (.if_icmp .le 28, 3) := by decide +kernel
theorem dd_H_put_44 : decode b_H_put 44 = .ok (.aload_n 0, 1) := by decide +kernel
theorem dd_H_put_45 : decode b_H_put 45 = .ok (.getfield 9, 3) := by decide +kernel
theorem dd_H_put_48 : decode b_H_put 48 = .ok (.iload_n 2, 1) := by decide +kernel
theorem dd_H_put_49 : decode b_H_put 49 = .ok (.aload_n 0, 1) := by decide +kernel
theorem dd_H_put_50 : decode b_H_put 50 = .ok (.getfield 9, 3) := by decide +kernel
theorem dd_H_put_53 : decode b_H_put 53 = .ok (.iload_n 2, 1) := by decide +kernel
theorem dd_H_put_54 : decode b_H_put 54 = .ok (.iconst 1, 1) := by decide +kernel
theorem dd_H_put_55 : decode b_H_put 55 = .ok (.isub, 1) := by decide +kernel
theorem dd_H_put_56 : decode b_H_put 56 = .ok (.iconst 2, 1) := by decide +kernel
theorem dd_H_put_57 : decode b_H_put 57 = .ok (.idiv, 1) := by decide +kernel
theorem dd_H_put_58 : decode b_H_put 58 = .ok (.iaload, 1) := by decide +kernel
theorem dd_H_put_59 : decode b_H_put 59 = .ok (.iastore, 1) := by decide +kernel
theorem dd_H_put_60 : decode b_H_put 60 = .ok (.iload_n 2, 1) := by decide +kernel
theorem dd_H_put_61 : decode b_H_put 61 = .ok (.iconst 1, 1) := by decide +kernel
theorem dd_H_put_62 : decode b_H_put 62 = .ok (.isub, 1) := by decide +kernel
theorem dd_H_put_63 : decode b_H_put 63 = .ok (.iconst 2, 1) := by decide +kernel
theorem dd_H_put_64 : decode b_H_put 64 = .ok (.idiv, 1) := by decide +kernel
theorem dd_H_put_65 : decode b_H_put 65 = .ok (.istore_n 2, 1) := by decide +kernel
theorem dd_H_put_66 : decode b_H_put 66 = .ok (.goto (-40), 3) := by decide +kernel
theorem dd_H_put_69 : decode b_H_put 69 = .ok (.aload_n 0, 1) := by decide +kernel
theorem dd_H_put_70 : decode b_H_put 70 = .ok (.getfield 9, 3) := by decide +kernel
theorem dd_H_put_73 : decode b_H_put 73 = .ok (.iload_n 2, 1) := by decide +kernel
theorem dd_H_put_74 : decode b_H_put 74 = .ok (.iload_n 1, 1) := by decide +kernel
theorem dd_H_put_75 : decode b_H_put 75 = .ok (.iastore, 1) := by decide +kernel
theorem dd_H_put_76 : decode b_H_put 76 = .ok (.return_, 1) := by decide +kernel
theorem dd_H_takeLeast_0 : decode b_H_takeLeast 0 = .ok (.aload_n 0, 1) := by decide +kernel
theorem dd_H_takeLeast_1 : decode b_H_takeLeast 1 = .ok (.getfield 9, 3) := by decide +kernel
theorem dd_H_takeLeast_4 : decode b_H_takeLeast 4 = .ok (.iconst 0, 1) := by decide +kernel
theorem dd_H_takeLeast_5 : decode b_H_takeLeast 5 = .ok (.iaload, 1) := by decide +kernel
theorem dd_H_takeLeast_6 : decode b_H_takeLeast 6 = .ok (.istore_n 1, 1) := by decide +kernel
theorem dd_H_takeLeast_7 : decode b_H_takeLeast 7 = .ok (.aload_n 0, 1) := by decide +kernel
theorem dd_H_takeLeast_8 : decode b_H_takeLeast 8 = .ok (.getfield 15, 3) := by decide +kernel
theorem dd_H_takeLeast_11 : decode b_H_takeLeast 11 = .ok (.ifCond .le 26, 3) := by decide +kernel
theorem dd_H_takeLeast_14 : decode b_H_takeLeast 14 = .ok (.aload_n 0, 1) := by decide +kernel
theorem dd_H_takeLeast_15 : decode b_H_takeLeast 15 = .ok (.dup, 1) := by decide +kernel
theorem dd_H_takeLeast_16 : decode b_H_takeLeast 16 = .ok (.getfield 15, 3) := by decide +kernel
theorem dd_H_takeLeast_19 : decode b_H_takeLeast 19 = .ok (.iconst 1, 1) := by decide +kernel
theorem dd_H_takeLeast_20 : decode b_H_takeLeast 20 = .ok (.isub, 1) := by decide +kernel
theorem dd_H_takeLeast_21 : decode b_H_takeLeast 21 = .ok (.putfield 15, 3) := by decide +kernel
theorem dd_H_takeLeast_24 : decode b_H_takeLeast 24 = .ok (.aload_n 0, 1) := by decide +kernel
theorem dd_H_takeLeast_25 : decode b_H_takeLeast 25 = .ok (.aload_n 0, 1) := by decide +kernel
theorem dd_H_takeLeast_26 : decode b_H_takeLeast 26 = .ok (.getfield 9, 3) := by decide +kernel
theorem dd_H_takeLeast_29 : decode b_H_takeLeast 29 = .ok (.aload_n 0, 1) := by decide +kernel
theorem dd_H_takeLeast_30 : decode b_H_takeLeast 30 = .ok (.getfield 15, 3) := by decide +kernel
theorem dd_H_takeLeast_33 : decode b_H_takeLeast 33 = .ok (.iaload, 1) := by decide +kernel
theorem dd_H_takeLeast_34 : decode b_H_takeLeast 34 = .ok (.invokevirtual 19, 3) := by decide +kernel
theorem dd_H_takeLeast_37 : decode b_H_takeLeast 37 = .ok (.iload_n 1, 1) := by decide +kernel
theorem dd_H_takeLeast_38 : decode b_H_takeLeast 38 = .ok (.ireturn, 1) := by decide +kernel
theorem dd_H_sinkFromTop_0 : decode b_H_sinkFromTop 0 = .ok (.iconst 0, 1) := by decide +kernel
theorem dd_H_sinkFromTop_1 : decode b_H_sinkFromTop 1 = .ok (.istore_n 2, 1) := by decide +kernel
theorem dd_H_sinkFromTop_2 : decode b_H_sinkFromTop 2 = .ok (.iconst 1, 1) := by decide +kernel
theorem dd_H_sinkFromTop_3 : decode b_H_sinkFromTop 3 = .ok (.istore_n 3, 1) := by decide +kernel
theorem dd_H_sinkFromTop_4 : decode b_H_sinkFromTop 4 = .ok (.iload_n 3, 1) := by decide +kernel
theorem dd_H_sinkFromTop_5 : decode b_H_sinkFromTop 5 = .ok (.aload_n 0, 1) := by decide +kernel
theorem dd_H_sinkFromTop_6 : decode b_H_sinkFromTop 6 = .ok (.getfield 15, 3) := by decide +kernel
theorem dd_H_sinkFromTop_9 : decode b_H_sinkFromTop 9 = .ok (.if_icmp .ge 69, 3) := by decide +kernel
theorem dd_H_sinkFromTop_12 : decode b_H_sinkFromTop 12 = .ok (.iload_n 3, 1) := by decide +kernel
theorem dd_H_sinkFromTop_13 : decode b_H_sinkFromTop 13 = .ok (.iconst 1, 1) := by decide +kernel
theorem dd_H_sinkFromTop_14 : decode b_H_sinkFromTop 14 = .ok (.iadd, 1) := by decide +kernel
theorem dd_H_sinkFromTop_15 : decode b_H_sinkFromTop 15 = .ok (.aload_n 0, 1) := by decide +kernel
theorem dd_H_sinkFromTop_16 : decode b_H_sinkFromTop 16 = .ok (.getfield 15, 3) := by decide +kernel
theorem dd_H_sinkFromTop_19 : decode b_H_sinkFromTop 19 = .ok (.if_icmp .ge 23, 3) := by decide +kernel
theorem dd_H_sinkFromTop_22 : decode b_H_sinkFromTop 22 = .ok (.aload_n 0, 1) := by decide +kernel
theorem dd_H_sinkFromTop_23 : decode b_H_sinkFromTop 23 = .ok (.getfield 9, 3) := by decide +kernel
theorem dd_H_sinkFromTop_26 : decode b_H_sinkFromTop 26 = .ok (.iload_n 3, 1) := by decide +kernel
theorem dd_H_sinkFromTop_27 : decode b_H_sinkFromTop 27 = .ok (.iconst 1, 1) := by decide +kernel
theorem dd_H_sinkFromTop_28 : decode b_H_sinkFromTop 28 = .ok (.iadd, 1) := by decide +kernel
theorem dd_H_sinkFromTop_29 : decode b_H_sinkFromTop 29 = .ok (.iaload, 1) := by decide +kernel
theorem dd_H_sinkFromTop_30 : decode b_H_sinkFromTop 30 = .ok (.aload_n 0, 1) := by decide +kernel
theorem dd_H_sinkFromTop_31 : decode b_H_sinkFromTop 31 = .ok (.getfield 9, 3) := by decide +kernel
theorem dd_H_sinkFromTop_34 : decode b_H_sinkFromTop 34 = .ok (.iload_n 3, 1) := by decide +kernel
theorem dd_H_sinkFromTop_35 : decode b_H_sinkFromTop 35 = .ok (.iaload, 1) := by decide +kernel
theorem dd_H_sinkFromTop_36 : decode b_H_sinkFromTop 36 = .ok (.if_icmp .ge 6, 3) := by decide +kernel
theorem dd_H_sinkFromTop_39 : decode b_H_sinkFromTop 39 = .ok (.iinc 3 1, 3) := by decide +kernel
theorem dd_H_sinkFromTop_42 : decode b_H_sinkFromTop 42 = .ok (.aload_n 0, 1) := by decide +kernel
theorem dd_H_sinkFromTop_43 : decode b_H_sinkFromTop 43 = .ok (.getfield 9, 3) := by decide +kernel
theorem dd_H_sinkFromTop_46 : decode b_H_sinkFromTop 46 = .ok (.iload_n 3, 1) := by decide +kernel
theorem dd_H_sinkFromTop_47 : decode b_H_sinkFromTop 47 = .ok (.iaload, 1) := by decide +kernel
theorem dd_H_sinkFromTop_48 : decode b_H_sinkFromTop 48 = .ok (.iload_n 1, 1) := by decide +kernel
theorem dd_H_sinkFromTop_49 : decode b_H_sinkFromTop 49 = .ok (.if_icmp .lt 6, 3) := by decide +kernel
theorem dd_H_sinkFromTop_52 : decode b_H_sinkFromTop 52 = .ok (.goto 26, 3) := by decide +kernel
theorem dd_H_sinkFromTop_55 : decode b_H_sinkFromTop 55 = .ok (.aload_n 0, 1) := by decide +kernel
theorem dd_H_sinkFromTop_56 : decode b_H_sinkFromTop 56 = .ok (.getfield 9, 3) := by decide +kernel
theorem dd_H_sinkFromTop_59 : decode b_H_sinkFromTop 59 = .ok (.iload_n 2, 1) := by decide +kernel
theorem dd_H_sinkFromTop_60 : decode b_H_sinkFromTop 60 = .ok (.aload_n 0, 1) := by decide +kernel
theorem dd_H_sinkFromTop_61 : decode b_H_sinkFromTop 61 = .ok (.getfield 9, 3) := by decide +kernel
theorem dd_H_sinkFromTop_64 : decode b_H_sinkFromTop 64 = .ok (.iload_n 3, 1) := by decide +kernel
theorem dd_H_sinkFromTop_65 : decode b_H_sinkFromTop 65 = .ok (.iaload, 1) := by decide +kernel
theorem dd_H_sinkFromTop_66 : decode b_H_sinkFromTop 66 = .ok (.iastore, 1) := by decide +kernel
theorem dd_H_sinkFromTop_67 : decode b_H_sinkFromTop 67 = .ok (.iload_n 3, 1) := by decide +kernel
theorem dd_H_sinkFromTop_68 : decode b_H_sinkFromTop 68 = .ok (.istore_n 2, 1) := by decide +kernel
theorem dd_H_sinkFromTop_69 : decode b_H_sinkFromTop 69 = .ok (.iconst 2, 1) := by decide +kernel
theorem dd_H_sinkFromTop_70 : decode b_H_sinkFromTop 70 = .ok (.iload_n 2, 1) := by decide +kernel
theorem dd_H_sinkFromTop_71 : decode b_H_sinkFromTop 71 = .ok (.imul, 1) := by decide +kernel
theorem dd_H_sinkFromTop_72 : decode b_H_sinkFromTop 72 = .ok (.iconst 1, 1) := by decide +kernel
theorem dd_H_sinkFromTop_73 : decode b_H_sinkFromTop 73 = .ok (.iadd, 1) := by decide +kernel
theorem dd_H_sinkFromTop_74 : decode b_H_sinkFromTop 74 = .ok (.istore_n 3, 1) := by decide +kernel
theorem dd_H_sinkFromTop_75 : decode b_H_sinkFromTop 75 = .ok (.goto (-71), 3) := by decide +kernel
theorem dd_H_sinkFromTop_78 : decode b_H_sinkFromTop 78 = .ok (.aload_n 0, 1) := by decide +kernel
theorem dd_H_sinkFromTop_79 : decode b_H_sinkFromTop 79 = .ok (.getfield 9, 3) := by decide +kernel
theorem dd_H_sinkFromTop_82 : decode b_H_sinkFromTop 82 = .ok (.iload_n 2, 1) := by decide +kernel
theorem dd_H_sinkFromTop_83 : decode b_H_sinkFromTop 83 = .ok (.iload_n 1, 1) := by decide +kernel
theorem dd_H_sinkFromTop_84 : decode b_H_sinkFromTop 84 = .ok (.iastore, 1) := by decide +kernel
theorem dd_H_sinkFromTop_85 : decode b_H_sinkFromTop 85 = .ok (.return_, 1) := by decide +kernel
theorem dd_K_init_0 : decode b_K_init 0 = .ok (.aload_n 0, 1) := by decide +kernel
theorem dd_K_init_1 : decode b_K_init 1 = .ok (.invokespecial 1, 3) := by decide +kernel
theorem dd_K_init_4 : decode b_K_init 4 = .ok (.aload_n 0, 1) := by decide +kernel
theorem dd_K_init_5 : decode b_K_init 5 = .ok (.iload_n 1, 1) := by decide +kernel
theorem dd_K_init_6 : decode b_K_init 6 = .ok (.putfield 7, 3) := by decide +kernel
theorem dd_K_init_9 : decode b_K_init 9 = .ok (.aload_n 0, 1) := by decide +kernel
theorem dd_K_init_10 : decode b_K_init 10 = .ok (.iload_n 2, 1) := by decide +kernel
theorem dd_K_init_11 : decode b_K_init 11 = .ok (.putfield 13, 3) := by decide +kernel
theorem dd_K_init_14 : decode b_K_init 14 = .ok (.aload_n 0, 1) := by decide +kernel
theorem dd_K_init_15 : decode b_K_init 15 = .ok (.iload_n 3, 1) := by decide +kernel
theorem dd_K_init_16 : decode b_K_init 16 = .ok (.putfield 16, 3) := by decide +kernel
theorem dd_K_init_19 : decode b_K_init 19 = .ok (.aload_n 0, 1) := by decide +kernel
theorem dd_K_init_20 : decode b_K_init 20 = .ok (.iload 4, 2) := by decide +kernel
theorem dd_K_init_22 : decode b_K_init 22 = .ok (.putfield 19, 3) := by decide +kernel
theorem dd_K_init_25 : decode b_K_init 25 = .ok (.aload_n 0, 1) := by decide +kernel
theorem dd_K_init_26 : decode b_K_init 26 = .ok (.iload 5, 2) := by decide +kernel
theorem dd_K_init_28 : decode b_K_init 28 = .ok (.putfield 22, 3) := by decide +kernel
theorem dd_K_init_31 : decode b_K_init 31 = .ok (.return_, 1) := by decide +kernel
theorem dd_N_init_0 : decode b_N_init 0 = .ok (.aload_n 0, 1) := by decide +kernel
theorem dd_N_init_1 : decode b_N_init 1 = .ok (.invokespecial 1, 3) := by decide +kernel
theorem dd_N_init_4 : decode b_N_init 4 = .ok (.return_, 1) := by decide +kernel
