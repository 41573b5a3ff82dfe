theorem dd_N_read_0 : decode b_N_read 0 = .ok (.iload_n 2, 1) := by decide +kernel
theorem dd_N_read_1 : decode b_N_read 1 = .ok (.istore 4, 2) := by decide +kernel
theorem dd_N_read_3 : decode b_N_read 3 = .ok (.iload 4, 2) := by decide +kernel
theorem dd_N_read_5 : decode b_N_read 5 = .ok (.iload_n 3, 1) := by decide +kernel
theorem dd_N_read_6 : decode b_N_read 6 = .ok (.if_icmp .ge 18, 3) := by decide +kernel
theorem dd_N_read_9 : decode b_N_read 9 = .ok (.aload_n 1, 1) := by decide +kernel
theorem dd_N_read_10 : decode b_N_read 10 = .ok (.iload 4, 2) := by decide +kernel
theorem dd_N_read_12 : decode b_N_read 12 = .ok (.invokevirtual 7, 3) := by decide +kernel
theorem dd_N_read_15 : decode b_N_read 15 = .ok (.ifCond .eq 9, 3) := by decide +kernel
theorem dd_N_read_18 : decode b_N_read 18 = .ok (.iinc 4 1, 3) := by decide +kernel
theorem dd_N_read_21 : decode b_N_read 21 = .ok (.goto (-18), 3) := by decide +kernel
theorem dd_N_read_24 : decode b_N_read 24 = .ok (.iload 4, 2) := by decide +kernel
theorem dd_N_read_26 : decode b_N_read 26 = .ok (.iload_n 3, 1) := by decide +kernel
theorem dd_N_read_27 : decode b_N_read 27 = .ok (.if_icmp .ge 18, 3) := by decide +kernel
theorem dd_N_read_30 : decode b_N_read 30 = .ok (.aload_n 1, 1) := by decide +kernel
theorem dd_N_read_31 : decode b_N_read 31 = .ok (.iload 4, 2) := by decide +kernel
theorem dd_N_read_33 : decode b_N_read 33 = .ok (.invokevirtual 13, 3) := by decide +kernel
theorem dd_N_read_36 : decode b_N_read 36 = .ok (.bipush 45, 2) := by decide +kernel
theorem dd_N_read_38 : decode b_N_read 38 = .ok (.if_icmp .ne 7, 3) := by decide +kernel
theorem dd_N_read_41 : decode b_N_read 41 = .ok (.iconst 1, 1) := by decide +kernel
theorem dd_N_read_42 : decode b_N_read 42 = .ok (.goto 4, 3) := by decide +kernel
theorem dd_N_read_45 : decode b_N_read 45 = .ok (.iconst 0, 1) := by decide +kernel
theorem dd_N_read_46 : decode b_N_read 46 = .ok (.istore 5, 2) := by decide +kernel
theorem dd_N_read_48 : decode b_N_read 48 = .ok (.iload 5, 2) := by decide +kernel
theorem dd_N_read_50 : decode b_N_read 50 = .ok (.ifCond .eq 6, 3) := by decide +kernel
theorem dd_N_read_53 : decode b_N_read 53 = .ok (.iinc 4 1, 3) := by decide +kernel
theorem dd_N_read_56 : decode b_N_read 56 = .ok (.iload 4, 2) := by decide +kernel
theorem dd_N_read_58 : decode b_N_read 58 = .ok (.iload_n 3, 1) := by decide +kernel
theorem dd_N_read_59 : decode b_N_read 59 = .ok (.if_icmp .ge 20, 3) := by decide +kernel
theorem dd_N_read_62 : decode b_N_read 62 = .ok (.aload_n 1, 1) := by decide +kernel
theorem dd_N_read_63 : decode b_N_read 63 = .ok (.iload 4, 2) := by decide +kernel
theorem dd_N_read_65 : decode b_N_read 65 = .ok (.invokevirtual 13, 3) := by decide +kernel
theorem dd_N_read_68 : decode b_N_read 68 = .ok (.bipush 48, 2) := by decide +kernel
theorem dd_N_read_70 : decode b_N_read 70 = .ok (.if_icmp .ne 9, 3) := by decide +kernel
theorem dd_N_read_73 : decode b_N_read 73 = .ok (.iinc 4 1, 3) := by decide +kernel
theorem dd_N_read_76 : decode b_N_read 76 = .ok (.goto (-20), 3) := by decide +kernel
theorem dd_N_read_79 : decode b_N_read 79 = .ok (.aload_n 0, 1) := by decide +kernel
theorem dd_N_read_80 : decode b_N_read 80 = .ok (.iload 4, 2) := by decide +kernel
theorem dd_N_read_82 : decode b_N_read 82 = .ok (.putfield 17, 3) := by decide +kernel
theorem dd_N_read_85 : decode b_N_read 85 = .ok (.aload_n 0, 1) := by decide +kernel
theorem dd_N_read_86 : decode b_N_read 86 = .ok (.aload_n 1, 1) := by decide +kernel
theorem dd_N_read_87 : decode b_N_read 87 = .ok (.aload_n 0, 1) := by decide +kernel
theorem dd_N_read_88 : decode b_N_read 88 = .ok (.getfield 17, 3) := by decide +kernel
theorem dd_N_read_91 : decode b_N_read 91 = .ok (.iload_n 3, 1) := by decide +kernel
theorem dd_N_read_92 : decode b_N_read 92 = .ok (.invokevirtual 23, 3) := by decide +kernel
theorem dd_N_read_95 : decode b_N_read 95 = .ok (.putfield 27, 3) := by decide +kernel
theorem dd_N_read_98 : decode b_N_read 98 = .ok (.aload_n 0, 1) := by decide +kernel
theorem dd_N_read_99 : decode b_N_read 99 = .ok (.getfield 27, 3) := by decide +kernel
theorem dd_N_read_102 : decode b_N_read 102 = .ok (.iload_n 3, 1) := by decide +kernel
theorem dd_N_read_103 : decode b_N_read 103 = .ok (.if_icmp .ge 20, 3) := by decide +kernel
theorem dd_N_read_106 : decode b_N_read 106 = .ok (.aload_n 1, 1) := by decide +kernel
theorem dd_N_read_107 : decode b_N_read 107 = .ok (.aload_n 0, 1) := by decide +kernel
theorem dd_N_read_108 : decode b_N_read 108 = .ok (.getfield 27, 3) := by decide +kernel
theorem dd_N_read_111 : decode b_N_read 111 = .ok (.invokevirtual 13, 3) := by decide +kernel
theorem dd_N_read_114 : decode b_N_read 114 = .ok (.bipush 46, 2) := by decide +kernel
theorem dd_N_read_116 : decode b_N_read 116 = .ok (.if_icmp .ne 7, 3) := by decide +kernel
theorem dd_N_read_119 : decode b_N_read 119 = .ok (.iconst 1, 1) := by decide +kernel
theorem dd_N_read_120 : decode b_N_read 120 = .ok (.goto 4, 3) := by decide +kernel
theorem dd_N_read_123 : decode b_N_read 123 = .ok (.iconst 0, 1) := by decide +kernel
theorem dd_N_read_124 : decode b_N_read 124 = .ok (.istore 6, 2) := by decide +kernel
theorem dd_N_read_126 : decode b_N_read 126 = .ok (.aload_n 0, 1) := by decide +kernel
theorem dd_N_read_127 : decode b_N_read 127 = .ok (.iload 6, 2) := by decide +kernel
theorem dd_N_read_129 : decode b_N_read 129 = .ok (.ifCond .eq 12, 3) := by decide +kernel
theorem dd_N_read_132 : decode b_N_read 132 = .ok (.aload_n 0, 1) := by decide +kernel
theorem dd_N_read_133 : decode b_N_read 133 = .ok (.getfield 27, 3) := by decide +kernel
theorem dd_N_read_136 : decode b_N_read 136 = .ok (.iconst 1, 1) := by decide +kernel
theorem dd_N_read_137 : decode b_N_read 137 = .ok (.iadd, 1) := by decide +kernel
theorem dd_N_read_138 : decode b_N_read 138 = .ok (.goto 7, 3) := by decide +kernel
theorem dd_N_read_141 : decode b_N_read 141 = .ok (.aload_n 0, 1) := by decide +kernel
theorem dd_N_read_142 : decode b_N_read 142 = .ok (.getfield 27, 3) := by decide +kernel
theorem dd_N_read_145 : decode b_N_read 145 = .ok (.putfield 30, 3) := by decide +kernel
theorem dd_N_read_148 : decode b_N_read 148 = .ok (.aload_n 0, 1) := by decide +kernel
theorem dd_N_read_149 : decode b_N_read 149 = .ok (.iload 6, 2) := by decide +kernel
theorem dd_N_read_151 : decode b_N_read 151 = .ok (.ifCond .eq 15, 3) := by decide +kernel
theorem dd_N_read_154 : decode b_N_read 154 = .ok (.aload_n 1, 1) := by decide +kernel
theorem dd_N_read_155 : decode b_N_read 155 = .ok (.aload_n 0, 1) := by decide +kernel
theorem dd_N_read_156 : decode b_N_read 156 = .ok (.getfield 30, 3) := by decide +kernel
theorem dd_N_read_159 : decode b_N_read 159 = .ok (.iload_n 3, 1) := by decide +kernel
theorem dd_N_read_160 : decode b_N_read 160 = .ok (.invokevirtual 23, 3) := by decide +kernel
theorem dd_N_read_163 : decode b_N_read 163 = .ok (.goto 7, 3) := by decide +kernel
theorem dd_N_read_166 : decode b_N_read 166 = .ok (.aload_n 0, 1) := by decide +kernel
theorem dd_N_read_167 : decode b_N_read 167 = .ok (.getfield 30, 3) := by decide +kernel
theorem dd_N_read_170 : decode b_N_read 170 = .ok (.putfield 33, 3) := by decide +kernel
theorem dd_N_read_173 : decode b_N_read 173 = .ok (.aload_n 0, 1) := by decide +kernel
theorem dd_N_read_174 : decode b_N_read 174 = .ok (.getfield 33, 3) := by decide +kernel
theorem dd_N_read_177 : decode b_N_read 177 = .ok (.aload_n 0, 1) := by decide +kernel
theorem dd_N_read_178 : decode b_N_read 178 = .ok (.getfield 30, 3) := by decide +kernel
theorem dd_N_read_181 : decode b_N_read 181 = .ok (.if_icmp .le 31, 3) := by decide +kernel
theorem dd_N_read_184 : decode b_N_read 184 = .ok (.aload_n 1, 1) := by decide +kernel
theorem dd_N_read_185 : decode b_N_read 185 = .ok (.aload_n 0, 1) := by decide +kernel
theorem dd_N_read_186 : decode b_N_read 186 = .ok (.getfield 33, 3) := by decide +kernel
theorem dd_N_read_189 : decode b_N_read 189 = .ok (.iconst 1, 1) := by decide +kernel
theorem dd_N_read_190 : decode b_N_read 190 = .ok (.isub, 1) := by decide +kernel
theorem dd_N_read_191 : decode b_N_read 191 = .ok (.invokevirtual 13, 3) := by decide +kernel
theorem dd_N_read_194 : decode b_N_read 194 = .ok (.bipush 48, 2) := by decide +kernel
theorem dd_N_read_196 : decode b_N_read 196 = .ok (.if_icmp .ne 16, 3) := by decide +kernel
theorem dd_N_read_199 : decode b_N_read 199 = .ok (.aload_n 0, 1) := by decide +kernel
theorem dd_N_read_200 : decode b_N_read 200 = .ok (.dup, 1) := by decide +kernel
theorem dd_N_read_201 : decode b_N_read 201 = .ok (.getfield 33, 3) := by decide +kernel
theorem dd_N_read_204 : decode b_N_read 204 = .ok (.iconst 1, 1) := by decide +kernel
theorem dd_N_read_205 : decode b_N_read 205 = .ok (.isub, 1) := by decide +kernel
theorem dd_N_read_206 : decode b_N_read 206 = .ok (.putfield 33, 3) := by decide +kernel
theorem dd_N_read_209 : decode b_N_read 209 = .ok (.goto (-36), 3) := by decide +kernel
theorem dd_N_read_212 : decode b_N_read 212 = .ok (.aload_n 0, 1) := by decide +kernel
theorem dd_N_read_213 : decode b_N_read 213 = .ok (.getfield 17, 3) := by decide +kernel
theorem dd_N_read_216 : decode b_N_read 216 = .ok (.aload_n 0, 1) := by decide +kernel
theorem dd_N_read_217 : decode b_N_read 217 = .ok (.getfield 27, 3) := by decide +kernel
theorem dd_N_read_220 : decode b_N_read 220 = .ok (.if_icmp .ne 18, 3) := by decide +kernel
theorem dd_N_read_223 : decode b_N_read 223 = .ok (.aload_n 0, 1) := by decide +kernel
theorem dd_N_read_224 : decode b_N_read 224 = .ok (.getfield 30, 3) := by decide +kernel
theorem dd_N_read_227 : decode b_N_read 227 = .ok (.aload_n 0, 1) := by decide +kernel
theorem dd_N_read_228 : decode b_N_read 228 = .ok (.getfield 33, 3) := by decide +kernel
theorem dd_N_read_231 : decode b_N_read 231 = .ok (.if_icmp .ne 7, 3) := by decide +kernel
theorem dd_N_read_234 : decode b_N_read 234 = .ok (.iconst 1, 1) := by decide +kernel
theorem dd_N_read_235 : decode b_N_read 235 = .ok (.goto 4, 3) := by decide +kernel
theorem dd_N_read_238 : decode b_N_read 238 = .ok (.iconst 0, 1) := by decide +kernel
theorem dd_N_read_239 : decode b_N_read 239 = .ok (.istore 7, 2) := by decide +kernel
theorem dd_N_read_241 : decode b_N_read 241 = .ok (.aload_n 0, 1) := by decide +kernel
theorem dd_N_read_242 : decode b_N_read 242 = .ok (.iload 7, 2) := by decide +kernel
theorem dd_N_read_244 : decode b_N_read 244 = .ok (.ifCond .eq 7, 3) := by decide +kernel
theorem dd_N_read_247 : decode b_N_read 247 = .ok (.iconst 0, 1) := by decide +kernel
theorem dd_N_read_248 : decode b_N_read 248 = .ok (.goto 13, 3) := by decide +kernel
theorem dd_N_read_251 : decode b_N_read 251 = .ok (.iload 5, 2) := by decide +kernel
theorem dd_N_read_253 : decode b_N_read 253 = .ok (.ifCond .eq 7, 3) := by decide +kernel
theorem dd_N_read_256 : decode b_N_read 256 = .ok (.iconst (-1), 1) := by decide +kernel
theorem dd_N_read_257 : decode b_N_read 257 = .ok (.goto 4, 3) := by decide +kernel
theorem dd_N_read_260 : decode b_N_read 260 = .ok (.iconst 1, 1) := by decide +kernel
theorem dd_N_read_261 : decode b_N_read 261 = .ok (.putfield 36, 3) := by decide +kernel
theorem dd_N_read_264 : decode b_N_read 264 = .ok (.return_, 1) := by decide +kernel
theorem dd_N_wholeLength_0 : decode b_N_wholeLength 0 = .ok (.aload_n 0, 1) := by decide +kernel
theorem dd_N_wholeLength_1 : decode b_N_wholeLength 1 = .ok (.getfield 27, 3) := by decide +kernel
theorem dd_N_wholeLength_4 : decode b_N_wholeLength 4 = .ok (.aload_n 0, 1) := by decide +kernel
theorem dd_N_wholeLength_5 : decode b_N_wholeLength 5 = .ok (.getfield 17, 3) := by decide +kernel
theorem dd_N_wholeLength_8 : decode b_N_wholeLength 8 = .ok (.isub, 1) := by decide +kernel
theorem dd_N_wholeLength_9 : decode b_N_wholeLength 9 = .ok (.ireturn, 1) := by decide +kernel
theorem dd_O_init_0 : decode b_O_init 0 = .ok (.aload_n 0, 1) := by decide +kernel
theorem dd_O_init_1 : decode b_O_init 1 = .ok (.invokespecial 3, 3) := by decide +kernel
theorem dd_O_init_4 : decode b_O_init 4 = .ok (.aload_n 0, 1) := by decide +kernel
theorem dd_O_init_5 : decode b_O_init 5 = .ok (.aload_n 1, 1) := by decide +kernel
theorem dd_O_init_6 : decode b_O_init 6 = .ok (.putfield 9, 3) := by decide +kernel
theorem dd_O_init_9 : decode b_O_init 9 = .ok (.aload_n 0, 1) := by decide +kernel
theorem dd_O_init_10 : decode b_O_init 10 = .ok (.aload_n 2, 1) := by decide +kernel
theorem dd_O_init_11 : decode b_O_init 11 = .ok (.putfield 15, 3) := by decide +kernel
theorem dd_O_init_14 : decode b_O_init 14 = .ok (.aload_n 0, 1) := by decide +kernel
theorem dd_O_init_15 : decode b_O_init 15 = .ok (.new 19, 3) := by decide +kernel
theorem dd_O_init_18 : decode b_O_init 18 = .ok (.dup, 1) := by decide +kernel
theorem dd_O_init_19 : decode b_O_init 19 = .ok (.iconst 1, 1) := by decide +kernel
theorem dd_O_init_20 : decode b_O_init 20 = .ok (.iconst 1, 1) := by decide +kernel
theorem dd_O_init_21 : decode b_O_init 21 = .ok (.iconst 0, 1) := by decide +kernel
theorem dd_O_init_22 : decode b_O_init 22 = .ok (.iconst 0, 1) := by decide +kernel
theorem dd_O_init_23 : decode b_O_init 23 = .ok (.iconst 0, 1) := by decide +kernel
theorem dd_O_init_24 : decode b_O_init 24 = .ok (.invokespecial 21, 3) := by decide +kernel
theorem dd_O_init_27 : decode b_O_init 27 = .ok (.putfield 24, 3) := by decide +kernel
theorem dd_O_init_30 : decode b_O_init 30 = .ok (.aload_n 0, 1) := by decide +kernel
theorem dd_O_init_31 : decode b_O_init 31 = .ok (.bipush 6, 2) := by decide +kernel
theorem dd_O_init_33 : decode b_O_init 33 = .ok (.anewarray 19, 3) := by decide +kernel
theorem dd_O_init_36 : decode b_O_init 36 = .ok (.putfield 28, 3) := by decide +kernel
theorem dd_O_init_39 : decode b_O_init 39 = .ok (.iconst 0, 1) := by decide +kernel
theorem dd_O_init_40 : decode b_O_init 40 = .ok (.istore_n 3, 1) := by decide +kernel
theorem dd_O_init_41 : decode b_O_init 41 = .ok (.iload_n 3, 1) := by decide +kernel
theorem dd_O_init_42 : decode b_O_init 42 = .ok (.bipush 6, 2) := by decide +kernel
theorem dd_O_init_44 : decode b_O_init 44 = .ok (.if_icmp .ge 19, 3) := by decide +kernel
theorem dd_O_init_47 : decode b_O_init 47 = .ok (.aload_n 0, 1) := by decide +kernel
theorem dd_O_init_48 : decode b_O_init 48 = .ok (.getfield 28, 3) := by decide +kernel
theorem dd_O_init_51 : decode b_O_init 51 = .ok (.iload_n 3, 1) := by decide +kernel
theorem dd_O_init_52 : decode b_O_init 52 = .ok (.aload_n 0, 1) := by decide +kernel
theorem dd_O_init_53 : decode b_O_init 53 = .ok (.getfield 24, 3) := by decide +kernel
theorem dd_O_init_56 : decode b_O_init 56 = .ok (.aastore, 1) := by decide +kernel
theorem dd_O_init_57 : decode b_O_init 57 = .ok (.iinc 3 1, 3) := by decide +kernel
theorem dd_O_init_60 : decode b_O_init 60 = .ok (.goto (-19), 3) := by decide +kernel
theorem dd_O_init_63 : decode b_O_init 63 = .ok (.aload_n 0, 1) := by decide +kernel
theorem dd_O_init_64 : decode b_O_init 64 = .ok (.new 32, 3) := by decide +kernel
theorem dd_O_init_67 : decode b_O_init 67 = .ok (.dup, 1) := by decide +kernel
theorem dd_O_init_68 : decode b_O_init 68 = .ok (.invokespecial 34, 3) := by decide +kernel
theorem dd_O_init_71 : decode b_O_init 71 = .ok (.putfield 35, 3) := by decide +kernel
theorem dd_O_init_74 : decode b_O_init 74 = .ok (.aload_n 0, 1) := by decide +kernel
theorem dd_O_init_75 : decode b_O_init 75 = .ok (.new 32, 3) := by decide +kernel
theorem dd_O_init_78 : decode b_O_init 78 = .ok (.dup, 1) := by decide +kernel
theorem dd_O_init_79 : decode b_O_init 79 = .ok (.invokespecial 34, 3) := by decide +kernel
theorem dd_O_init_82 : decode b_O_init 82 = .ok (.putfield 39, 3) := by decide +kernel
theorem dd_O_init_85 : decode b_O_init 85 = .ok (.aload_n 0, 1) := by decide +kernel
theorem dd_O_init_86 : decode b_O_init 86 = .ok (.iconst 0, 1) := by decide +kernel
theorem dd_O_init_87 : decode b_O_init 87 = .ok (.putfield 42, 3) := by decide +kernel
theorem dd_O_init_90 : decode b_O_init 90 = .ok (.aload_n 0, 1) := by decide +kernel
theorem dd_O_init_91 : decode b_O_init 91 = .ok (.iconst 0, 1) := by decide +kernel
theorem dd_O_init_92 : decode b_O_init 92 = .ok (.putfield 46, 3) := by decide +kernel
theorem dd_O_init_95 : decode b_O_init 95 = .ok (.aload_n 0, 1) := by decide +kernel
theorem dd_O_init_96 : decode b_O_init 96 = .ok (.iconst 0, 1) := by decide +kernel
theorem dd_O_init_97 : decode b_O_init 97 = .ok (.putfield 49, 3) := by decide +kernel
theorem dd_O_init_100 : decode b_O_init 100 = .ok (.aload_n 0, 1) := by decide +kernel
theorem dd_O_init_101 : decode b_O_init 101 = .ok (.iconst 0, 1) := by decide +kernel
theorem dd_O_init_102 : decode b_O_init 102 = .ok (.putfield 53, 3) := by decide +kernel
theorem dd_O_init_105 : decode b_O_init 105 = .ok (.return_, 1) := by decide +kernel
theorem dd_O_addKey_0 : decode b_O_addKey 0 = .ok (.aload_n 0, 1) := by decide +kernel
theorem dd_O_addKey_1 : decode b_O_addKey 1 = .ok (.getfield 42, 3) := by decide +kernel
theorem dd_O_addKey_4 : decode b_O_addKey 4 = .ok (.bipush 6, 2) := by decide +kernel
theorem dd_O_addKey_6 : decode b_O_addKey 6 = .ok (.if_icmp .ge 23, 3) := by decide +kernel
theorem dd_O_addKey_9 : decode b_O_addKey 9 = .ok (.aload_n 0, 1) := by decide +kernel
theorem dd_O_addKey_10 : decode b_O_addKey 10 = .ok (.getfield 28, 3) := by decide +kernel
theorem dd_O_addKey_13 : decode b_O_addKey 13 = .ok (.aload_n 0, 1) := by decide +kernel
theorem dd_O_addKey_14 : decode b_O_addKey 14 = .ok (.getfield 42, 3) := by decide +kernel
theorem dd_O_addKey_17 : decode b_O_addKey 17 = .ok (.aload_n 1, 1) := by decide +kernel
theorem dd_O_addKey_18 : decode b_O_addKey 18 = .ok (.aastore, 1) := by decide +kernel
theorem dd_O_addKey_19 : decode b_O_addKey 19 = .ok (.aload_n 0, 1) := by decide +kernel
theorem dd_O_addKey_20 : decode b_O_addKey 20 = .ok (.dup, 1) := by decide +kernel
theorem dd_O_addKey_21 : decode b_O_addKey 21 = .ok (.getfield 42, 3) := by decide +kernel
theorem dd_O_addKey_24 : decode b_O_addKey 24 = .ok (.iconst 1, 1) := by decide +kernel
theorem dd_O_addKey_25 : decode b_O_addKey 25 = .ok (.iadd, 1) := by decide +kernel
theorem dd_O_addKey_26 : decode b_O_addKey 26 = .ok (.putfield 42, 3) := by decide +kernel
theorem dd_O_addKey_29 : decode b_O_addKey 29 = .ok (.return_, 1) := by decide +kernel
theorem dd_O_keysInUse_0 : decode b_O_keysInUse 0 = .ok (.iconst 1, 1) := by decide +kernel
theorem dd_O_keysInUse_1 : decode b_O_keysInUse 1 = .ok (.aload_n 0, 1) := by decide +kernel
theorem dd_O_keysInUse_2 : decode b_O_keysInUse 2 = .ok (.getfield 42, 3) := by decide +kernel
theorem dd_O_keysInUse_5 : decode b_O_keysInUse 5 = .ok (.invokestatic 56, 3) := by decide +kernel
theorem dd_O_keysInUse_8 : decode b_O_keysInUse 8 = .ok (.ireturn, 1) := by decide +kernel
theorem dd_O_keyInUse_0 : decode b_O_keyInUse 0 = .ok (.iload_n 1, 1) := by decide +kernel
theorem dd_O_keyInUse_1 : decode b_O_keyInUse 1 = .ok (.aload_n 0, 1) := by decide +kernel
theorem dd_O_keyInUse_2 : decode b_O_keyInUse 2 = .ok (.getfield 42, 3) := by decide +kernel
theorem dd_O_keyInUse_5 : decode b_O_keyInUse 5 = .ok (.if_icmp .ge 12, 3) := by decide +kernel
theorem dd_O_keyInUse_8 : decode b_O_keyInUse 8 = .ok (.aload_n 0, 1) := by decide +kernel
theorem dd_O_keyInUse_9 : decode b_O_keyInUse 9 = .ok (.getfield 28, 3) := by decide +kernel
theorem dd_O_keyInUse_12 : decode b_O_keyInUse 12 = .ok (.iload_n 1, 1) := by decide +kernel
theorem dd_O_keyInUse_13 : decode b_O_keyInUse 13 = .ok (.aaload, 1) := by decide +kernel
theorem dd_O_keyInUse_14 : decode b_O_keyInUse 14 = .ok (.goto 7, 3) := by decide +kernel
theorem dd_O_keyInUse_17 : decode b_O_keyInUse 17 = .ok (.aload_n 0, 1) := by decide +kernel
theorem dd_O_keyInUse_18 : decode b_O_keyInUse 18 = .ok (.getfield 24, 3) := by decide +kernel
theorem dd_O_keyInUse_21 : decode b_O_keyInUse 21 = .ok (.areturn, 1) := by decide +kernel
theorem dd_O_flagsOf_0 : decode b_O_flagsOf 0 = .ok (.aload_n 1, 1) := by decide +kernel
theorem dd_O_flagsOf_1 : decode b_O_flagsOf 1 = .ok (.getfield 62, 3) := by decide +kernel
theorem dd_O_flagsOf_4 : decode b_O_flagsOf 4 = .ok (.ifCond .ne 10, 3) := by decide +kernel
theorem dd_O_flagsOf_7 : decode b_O_flagsOf 7 = .ok (.aload_n 0, 1) := by decide +kernel
theorem dd_O_flagsOf_8 : decode b_O_flagsOf 8 = .ok (.getfield 46, 3) := by decide +kernel
theorem dd_O_flagsOf_11 : decode b_O_flagsOf 11 = .ok (.goto 7, 3) := by decide +kernel
theorem dd_O_flagsOf_14 : decode b_O_flagsOf 14 = .ok (.aload_n 1, 1) := by decide +kernel
theorem dd_O_flagsOf_15 : decode b_O_flagsOf 15 = .ok (.getfield 62, 3) := by decide +kernel
theorem dd_O_flagsOf_18 : decode b_O_flagsOf 18 = .ok (.ireturn, 1) := by decide +kernel
theorem dd_O_comparedNumbersAside_0 : decode b_O_comparedNumbersAside 0 = .ok (.aload_n 0, 1) := by decide +kernel
theorem dd_O_comparedNumbersAside_1 : decode b_O_comparedNumbersAside 1 = .ok (.iload_n 1, 1) := by decide +kernel
theorem dd_O_comparedNumbersAside_2 : decode b_O_comparedNumbersAside 2 = .ok (.iload_n 2, 1) := by decide +kernel
theorem dd_O_comparedNumbersAside_3 : decode b_O_comparedNumbersAside 3 = .ok (.invokevirtual 65, 3) := by decide +kernel
theorem dd_O_comparedNumbersAside_6 : decode b_O_comparedNumbersAside 6 = .ok (.istore_n 3, 1) := by decide +kernel
theorem dd_O_comparedNumbersAside_7 : decode b_O_comparedNumbersAside 7 = .ok (.iload_n 3, 1) := by decide +kernel
theorem dd_O_comparedNumbersAside_8 : decode b_O_comparedNumbersAside 8 = .ok (.ifCond .ne 17, 3) := by decide +kernel
theorem dd_O_comparedNumbersAside_11 : decode b_O_comparedNumbersAside 11 = .ok (.aload_n 0, 1) := by decide +kernel
theorem dd_O_comparedNumbersAside_12 : decode b_O_comparedNumbersAside 12 = .ok (.getfield 49, 3) := by decide +kernel
theorem dd_O_comparedNumbersAside_15 : decode b_O_comparedNumbersAside 15 = .ok (.ifCond .ne 10, 3) := by decide +kernel
theorem dd_O_comparedNumbersAside_18 : decode b_O_comparedNumbersAside 18 = .ok (.aload_n 0, 1) := by decide +kernel
theorem dd_O_comparedNumbersAside_19 : decode b_O_comparedNumbersAside 19 = .ok (.getfield 53, 3) := by decide +kernel
theorem dd_O_comparedNumbersAside_22 : decode b_O_comparedNumbersAside 22 = .ok (.ifCond .eq 5, 3) := by decide +kernel
theorem dd_O_comparedNumbersAside_25 : decode b_O_comparedNumbersAside 25 = .ok (.iload_n 3, 1) := by decide +kernel
theorem dd_O_comparedNumbersAside_26 : decode b_O_comparedNumbersAside 26 = .ok (.ireturn, 1) := by decide +kernel
theorem dd_O_comparedNumbersAside_27 : decode b_O_comparedNumbersAside 27 = .ok (.aload_n 0, 1) := by decide +kernel
theorem dd_O_comparedNumbersAside_28 : decode b_O_comparedNumbersAside 28 = .ok (.getfield 9, 3) := by decide +kernel
theorem dd_O_comparedNumbersAside_31 : decode b_O_comparedNumbersAside 31 = .ok (.aload_n 0, 1) := by decide +kernel
theorem dd_O_comparedNumbersAside_32 : decode b_O_comparedNumbersAside 32 = .ok (.getfield 9, 3) := by decide +kernel
theorem dd_O_comparedNumbersAside_35 : decode b_O_comparedNumbersAside 35 = .ok (.iload_n 1, 1) := by decide +kernel
theorem dd_O_comparedNumbersAside_36 : decode b_O_comparedNumbersAside 36 = .ok (.invokevirtual 68, 3) := by decide +kernel
theorem dd_O_comparedNumbersAside_39 : decode b_O_comparedNumbersAside 39 = .ok (.aload_n 0, 1) := by decide +kernel
theorem dd_O_comparedNumbersAside_40 : decode b_O_comparedNumbersAside 40 = .ok (.getfield 9, 3) := by decide +kernel
theorem dd_O_comparedNumbersAside_43 : decode b_O_comparedNumbersAside 43 = .ok (.iload_n 1, 1) := by decide +kernel
theorem dd_O_comparedNumbersAside_44 : decode b_O_comparedNumbersAside 44 = .ok (.invokevirtual 74, 3) := by decide +kernel
theorem dd_O_comparedNumbersAside_47 : decode b_O_comparedNumbersAside 47 = .ok (.aload_n 0, 1) := by decide +kernel
theorem dd_O_comparedNumbersAside_48 : decode b_O_comparedNumbersAside 48 = .ok (.getfield 9, 3) := by decide +kernel
theorem dd_O_comparedNumbersAside_51 : decode b_O_comparedNumbersAside 51 = .ok (.iload_n 2, 1) := by decide +kernel
theorem dd_O_comparedNumbersAside_52 : decode b_O_comparedNumbersAside 52 = .ok (.invokevirtual 68, 3) := by decide +kernel
theorem dd_O_comparedNumbersAside_55 : decode b_O_comparedNumbersAside 55 = .ok (.aload_n 0, 1) := by decide +kernel
theorem dd_O_comparedNumbersAside_56 : decode b_O_comparedNumbersAside 56 = .ok (.getfield 9, 3) := by decide +kernel
theorem dd_O_comparedNumbersAside_59 : decode b_O_comparedNumbersAside 59 = .ok (.iload_n 2, 1) := by decide +kernel
theorem dd_O_comparedNumbersAside_60 : decode b_O_comparedNumbersAside 60 = .ok (.invokevirtual 74, 3) := by decide +kernel
theorem dd_O_comparedNumbersAside_63 : decode b_O_comparedNumbersAside 63 = .ok (.iconst 0, 1) := by decide +kernel
theorem dd_O_comparedNumbersAside_64 : decode b_O_comparedNumbersAside 64 = .ok (.invokevirtual 77, 3) := by decide +kernel
theorem dd_O_comparedNumbersAside_67 : decode b_O_comparedNumbersAside 67 = .ok (.istore 4, 2) := by decide +kernel
theorem dd_O_comparedNumbersAside_69 : decode b_O_comparedNumbersAside 69 = .ok (.aload_n 0, 1) := by decide +kernel
theorem dd_O_comparedNumbersAside_70 : decode b_O_comparedNumbersAside 70 = .ok (.getfield 46, 3) := by decide +kernel
theorem dd_O_comparedNumbersAside_73 : decode b_O_comparedNumbersAside 73 = .ok (.bipush 32, 2) := by decide +kernel
theorem dd_O_comparedNumbersAside_75 : decode b_O_comparedNumbersAside 75 = .ok (.iand, 1) := by decide +kernel
theorem dd_O_comparedNumbersAside_76 : decode b_O_comparedNumbersAside 76 = .ok (.ifCond .eq 9, 3) := by decide +kernel
theorem dd_O_comparedNumbersAside_79 : decode b_O_comparedNumbersAside 79 = .ok (.iload 4, 2) := by decide +kernel
theorem dd_O_comparedNumbersAside_81 : decode b_O_comparedNumbersAside 81 = .ok (.ineg, 1) := by decide +kernel
theorem dd_O_comparedNumbersAside_82 : decode b_O_comparedNumbersAside 82 = .ok (.goto 5, 3) := by decide +kernel
theorem dd_O_comparedNumbersAside_85 : decode b_O_comparedNumbersAside 85 = .ok (.iload 4, 2) := by decide +kernel
theorem dd_O_comparedNumbersAside_87 : decode b_O_comparedNumbersAside 87 = .ok (.ireturn, 1) := by decide +kernel
theorem dd_O_comparedByKeys_0 : decode b_O_comparedByKeys 0 = .ok (.aload_n 0, 1) := by decide +kernel
theorem dd_O_comparedByKeys_1 : decode b_O_comparedByKeys 1 = .ok (.invokevirtual 81, 3) := by decide +kernel
theorem dd_O_comparedByKeys_4 : decode b_O_comparedByKeys 4 = .ok (.istore_n 3, 1) := by decide +kernel
theorem dd_O_comparedByKeys_5 : decode b_O_comparedByKeys 5 = .ok (.iconst 0, 1) := by decide +kernel
theorem dd_O_comparedByKeys_6 : decode b_O_comparedByKeys 6 = .ok (.istore 4, 2) := by decide +kernel
theorem dd_O_comparedByKeys_8 : decode b_O_comparedByKeys 8 = .ok (.iload 4, 2) := by decide +kernel
theorem dd_O_comparedByKeys_10 : decode b_O_comparedByKeys 10 = .ok (.iload_n 3, 1) := by decide +kernel
theorem dd_O_comparedByKeys_11 : decode b_O_comparedByKeys 11 = .ok (.if_icmp .ge 145, 3) := by decide +kernel
theorem dd_O_comparedByKeys_14 : decode b_O_comparedByKeys 14 = .ok (.aload_n 0, 1) := by decide +kernel
theorem dd_O_comparedByKeys_15 : decode b_O_comparedByKeys 15 = .ok (.iload 4, 2) := by decide +kernel
theorem dd_O_comparedByKeys_17 : decode b_O_comparedByKeys 17 = .ok (.invokevirtual 85, 3) := by decide +kernel
theorem dd_O_comparedByKeys_20 : decode b_O_comparedByKeys 20 = .ok (.astore 5, 2) := by decide +kernel
theorem dd_O_comparedByKeys_22 : decode b_O_comparedByKeys 22 = .ok (.aload_n 0, 1) := by decide +kernel
theorem dd_O_comparedByKeys_23 : decode b_O_comparedByKeys 23 = .ok (.aload 5, 2) := by decide +kernel
theorem dd_O_comparedByKeys_25 : decode b_O_comparedByKeys 25 = .ok (.invokevirtual 89, 3) := by decide +kernel
theorem dd_O_comparedByKeys_28 : decode b_O_comparedByKeys 28 = .ok (.istore 6, 2) := by decide +kernel
theorem dd_O_comparedByKeys_30 : decode b_O_comparedByKeys 30 = .ok (.aload_n 0, 1) := by decide +kernel
theorem dd_O_comparedByKeys_31 : decode b_O_comparedByKeys 31 = .ok (.getfield 15, 3) := by decide +kernel
theorem dd_O_comparedByKeys_34 : decode b_O_comparedByKeys 34 = .ok (.aload 5, 2) := by decide +kernel
theorem dd_O_comparedByKeys_36 : decode b_O_comparedByKeys 36 = .ok (.iload 6, 2) := by decide +kernel
theorem dd_O_comparedByKeys_38 : decode b_O_comparedByKeys 38 = .ok (.iload_n 1, 1) := by decide +kernel
theorem dd_O_comparedByKeys_39 : decode b_O_comparedByKeys 39 = .ok (.invokevirtual 93, 3) := by decide +kernel
theorem dd_O_comparedByKeys_42 : decode b_O_comparedByKeys 42 = .ok (.istore 7, 2) := by decide +kernel
theorem dd_O_comparedByKeys_44 : decode b_O_comparedByKeys 44 = .ok (.aload_n 0, 1) := by decide +kernel
theorem dd_O_comparedByKeys_45 : decode b_O_comparedByKeys 45 = .ok (.getfield 15, 3) := by decide +kernel
theorem dd_O_comparedByKeys_48 : decode b_O_comparedByKeys 48 = .ok (.aload 5, 2) := by decide +kernel
theorem dd_O_comparedByKeys_50 : decode b_O_comparedByKeys 50 = .ok (.iload 6, 2) := by decide +kernel
theorem dd_O_comparedByKeys_52 : decode b_O_comparedByKeys 52 = .ok (.iload_n 1, 1) := by decide +kernel
theorem dd_O_comparedByKeys_53 : decode b_O_comparedByKeys 53 = .ok (.invokevirtual 99, 3) := by decide +kernel
theorem dd_O_comparedByKeys_56 : decode b_O_comparedByKeys 56 = .ok (.istore 8, 2) := by decide +kernel
theorem dd_O_comparedByKeys_58 : decode b_O_comparedByKeys 58 = .ok (.aload_n 0, 1) := by decide +kernel
theorem dd_O_comparedByKeys_59 : decode b_O_comparedByKeys 59 = .ok (.getfield 15, 3) := by decide +kernel
theorem dd_O_comparedByKeys_62 : decode b_O_comparedByKeys 62 = .ok (.aload 5, 2) := by decide +kernel
theorem dd_O_comparedByKeys_64 : decode b_O_comparedByKeys 64 = .ok (.iload 6, 2) := by decide +kernel
theorem dd_O_comparedByKeys_66 : decode b_O_comparedByKeys 66 = .ok (.iload_n 2, 1) := by decide +kernel
theorem dd_O_comparedByKeys_67 : decode b_O_comparedByKeys 67 = .ok (.invokevirtual 93, 3) := by decide +kernel
theorem dd_O_comparedByKeys_70 : decode b_O_comparedByKeys 70 = .ok (.istore 9, 2) := by decide +kernel
theorem dd_O_comparedByKeys_72 : decode b_O_comparedByKeys 72 = .ok (.aload_n 0, 1) := by decide +kernel
theorem dd_O_comparedByKeys_73 : decode b_O_comparedByKeys 73 = .ok (.getfield 15, 3) := by decide +kernel
theorem dd_O_comparedByKeys_76 : decode b_O_comparedByKeys 76 = .ok (.aload 5, 2) := by decide +kernel
theorem dd_O_comparedByKeys_78 : decode b_O_comparedByKeys 78 = .ok (.iload 6, 2) := by decide +kernel
theorem dd_O_comparedByKeys_80 : decode b_O_comparedByKeys 80 = .ok (.iload_n 2, 1) := by decide +kernel
theorem dd_O_comparedByKeys_81 : decode b_O_comparedByKeys 81 = .ok (.invokevirtual 99, 3) := by decide +kernel
theorem dd_O_comparedByKeys_84 : decode b_O_comparedByKeys 84 = .ok (.istore 10, 2) := by decide +kernel
theorem dd_O_comparedByKeys_86 : decode b_O_comparedByKeys 86 = .ok (.iload 6, 2) := by decide +kernel
theorem dd_O_comparedByKeys_88 : decode b_O_comparedByKeys 88 = .ok (.bipush 16, 2) := by decide +kernel
theorem dd_O_comparedByKeys_90 : decode b_O_comparedByKeys 90 = .ok (.iand, 1) := by decide +kernel
theorem dd_O_comparedByKeys_91 : decode b_O_comparedByKeys 91 = .ok (.ifCond .eq 18, 3) := by decide +kernel
theorem dd_O_comparedByKeys_94 : decode b_O_comparedByKeys 94 = .ok (.aload_n 0, 1) := by decide +kernel
theorem dd_O_comparedByKeys_95 : decode b_O_comparedByKeys 95 = .ok (.iload 7, 2) := by decide +kernel
theorem dd_O_comparedByKeys_97 : decode b_O_comparedByKeys 97 = .ok (.iload 8, 2) := by decide +kernel
theorem dd_O_comparedByKeys_99 : decode b_O_comparedByKeys 99 = .ok (.iload 9, 2) := by decide +kernel
theorem dd_O_comparedByKeys_101 : decode b_O_comparedByKeys 101 = .ok (.iload 10, 2) := by decide +kernel
theorem dd_O_comparedByKeys_103 : decode b_O_comparedByKeys 103 = .ok (.invokevirtual 102, 3) := by decide +kernel
theorem dd_O_comparedByKeys_106 : decode b_O_comparedByKeys 106 = .ok (.goto 20, 3) := by decide +kernel
theorem dd_O_comparedByKeys_109 : decode b_O_comparedByKeys 109 = .ok (.aload_n 0, 1) := by decide +kernel
theorem dd_O_comparedByKeys_110 : decode b_O_comparedByKeys 110 = .ok (.getfield 9, 3) := by decide +kernel
theorem dd_O_comparedByKeys_113 : decode b_O_comparedByKeys 113 = .ok (.iload 7, 2) := by decide +kernel
theorem dd_O_comparedByKeys_115 : decode b_O_comparedByKeys 115 = .ok (.iload 8, 2) := by decide +kernel
theorem dd_O_comparedByKeys_117 : decode b_O_comparedByKeys 117 = .ok (.iload 9, 2) := by decide +kernel
theorem dd_O_comparedByKeys_119 : decode b_O_comparedByKeys 119 = .ok (.iload 10, 2) := by decide +kernel
theorem dd_O_comparedByKeys_121 : decode b_O_comparedByKeys 121 = .ok (.iload 6, 2) := by decide +kernel
theorem dd_O_comparedByKeys_123 : decode b_O_comparedByKeys 123 = .ok (.invokevirtual 77, 3) := by decide +kernel
theorem dd_O_comparedByKeys_126 : decode b_O_comparedByKeys 126 = .ok (.istore 11, 2) := by decide +kernel
theorem dd_O_comparedByKeys_128 : decode b_O_comparedByKeys 128 = .ok (.iload 11, 2) := by decide +kernel
theorem dd_O_comparedByKeys_130 : decode b_O_comparedByKeys 130 = .ok (.ifCond .eq 20, 3) := by decide +kernel
theorem dd_O_comparedByKeys_133 : decode b_O_comparedByKeys 133 = .ok (.iload 6, 2) := by decide +kernel
theorem dd_O_comparedByKeys_135 : decode b_O_comparedByKeys 135 = .ok (.bipush 32, 2) := by decide +kernel
theorem dd_O_comparedByKeys_137 : decode b_O_comparedByKeys 137 = .ok (.iand, 1) := by decide +kernel
theorem dd_O_comparedByKeys_138 : decode b_O_comparedByKeys 138 = .ok (.ifCond .eq 9, 3) := by decide +kernel
theorem dd_O_comparedByKeys_141 : decode b_O_comparedByKeys 141 = .ok (.iload 11, 2) := by decide +kernel
theorem dd_O_comparedByKeys_143 : decode b_O_comparedByKeys 143 = .ok (.ineg, 1) := by decide +kernel
theorem dd_O_comparedByKeys_144 : decode b_O_comparedByKeys 144 = .ok (.goto 5, 3) := by decide +kernel
theorem dd_O_comparedByKeys_147 : decode b_O_comparedByKeys 147 = .ok (.iload 11, 2) := by decide +kernel
theorem dd_O_comparedByKeys_149 : decode b_O_comparedByKeys 149 = .ok (.ireturn, 1) := by decide +kernel
theorem dd_O_comparedByKeys_150 : decode b_O_comparedByKeys 150 = .ok (.iinc 4 1, 3) := by decide +kernel
theorem dd_O_comparedByKeys_153 : decode b_O_comparedByKeys 153 = .ok (.goto (-145), 3) := by decide +kernel
theorem dd_O_comparedByKeys_156 : decode b_O_comparedByKeys 156 = .ok (.iconst 0, 1) := by decide +kernel
theorem dd_O_comparedByKeys_157 : decode b_O_comparedByKeys 157 = .ok (.ireturn, 1) := by decide +kernel
theorem dd_O_comparedAsNumbers_0 : decode b_O_comparedAsNumbers 0 = .ok (.aload_n 0, 1) := by decide +kernel
theorem dd_O_comparedAsNumbers_1 : decode b_O_comparedAsNumbers 1 = .ok (.getfield 35, 3) := by decide +kernel
theorem dd_O_comparedAsNumbers_4 : decode b_O_comparedAsNumbers 4 = .ok (.aload_n 0, 1) := by decide +kernel
theorem dd_O_comparedAsNumbers_5 : decode b_O_comparedAsNumbers 5 = .ok (.getfield 9, 3) := by decide +kernel
theorem dd_O_comparedAsNumbers_8 : decode b_O_comparedAsNumbers 8 = .ok (.iload_n 1, 1) := by decide +kernel
theorem dd_O_comparedAsNumbers_9 : decode b_O_comparedAsNumbers 9 = .ok (.iload_n 2, 1) := by decide +kernel
theorem dd_O_comparedAsNumbers_10 : decode b_O_comparedAsNumbers 10 = .ok (.invokevirtual 106, 3) := by decide +kernel
theorem dd_O_comparedAsNumbers_13 : decode b_O_comparedAsNumbers 13 = .ok (.aload_n 0, 1) := by decide +kernel
theorem dd_O_comparedAsNumbers_14 : decode b_O_comparedAsNumbers 14 = .ok (.getfield 39, 3) := by decide +kernel
theorem dd_O_comparedAsNumbers_17 : decode b_O_comparedAsNumbers 17 = .ok (.aload_n 0, 1) := by decide +kernel
theorem dd_O_comparedAsNumbers_18 : decode b_O_comparedAsNumbers 18 = .ok (.getfield 9, 3) := by decide +kernel
theorem dd_O_comparedAsNumbers_21 : decode b_O_comparedAsNumbers 21 = .ok (.iload_n 3, 1) := by decide +kernel
theorem dd_O_comparedAsNumbers_22 : decode b_O_comparedAsNumbers 22 = .ok (.iload 4, 2) := by decide +kernel
theorem dd_O_comparedAsNumbers_24 : decode b_O_comparedAsNumbers 24 = .ok (.invokevirtual 106, 3) := by decide +kernel
theorem dd_O_comparedAsNumbers_27 : decode b_O_comparedAsNumbers 27 = .ok (.aload_n 0, 1) := by decide +kernel
theorem dd_O_comparedAsNumbers_28 : decode b_O_comparedAsNumbers 28 = .ok (.getfield 35, 3) := by decide +kernel
theorem dd_O_comparedAsNumbers_31 : decode b_O_comparedAsNumbers 31 = .ok (.getfield 110, 3) := by decide +kernel
theorem dd_O_comparedAsNumbers_34 : decode b_O_comparedAsNumbers 34 = .ok (.aload_n 0, 1) := by decide +kernel
theorem dd_O_comparedAsNumbers_35 : decode b_O_comparedAsNumbers 35 = .ok (.getfield 39, 3) := by decide +kernel
theorem dd_O_comparedAsNumbers_38 : decode b_O_comparedAsNumbers 38 = .ok (.getfield 110, 3) := by decide +kernel
theorem dd_O_comparedAsNumbers_41 : decode b_O_comparedAsNumbers 41 = .ok (.if_icmp .eq 21, 3) := by decide +kernel
theorem dd_O_comparedAsNumbers_44 : decode b_O_comparedAsNumbers 44 = .ok (.aload_n 0, 1) := by decide +kernel
theorem dd_O_comparedAsNumbers_45 : decode b_O_comparedAsNumbers 45 = .ok (.getfield 35, 3) := by decide +kernel
theorem dd_O_comparedAsNumbers_48 : decode b_O_comparedAsNumbers 48 = .ok (.getfield 110, 3) := by decide +kernel
theorem dd_O_comparedAsNumbers_51 : decode b_O_comparedAsNumbers 51 = .ok (.aload_n 0, 1) := by decide +kernel
theorem dd_O_comparedAsNumbers_52 : decode b_O_comparedAsNumbers 52 = .ok (.getfield 39, 3) := by decide +kernel
theorem dd_O_comparedAsNumbers_55 : decode b_O_comparedAsNumbers 55 = .ok (.getfield 110, 3) := by decide +kernel
theorem dd_O_comparedAsNumbers_58 : decode b_O_comparedAsNumbers 58 = .ok (.invokestatic 113, 3) := by decide +kernel
theorem dd_O_comparedAsNumbers_61 : decode b_O_comparedAsNumbers 61 = .ok (.ireturn, 1) := by decide +kernel
theorem dd_O_comparedAsNumbers_62 : decode b_O_comparedAsNumbers 62 = .ok (.aload_n 0, 1) := by decide +kernel
theorem dd_O_comparedAsNumbers_63 : decode b_O_comparedAsNumbers 63 = .ok (.getfield 35, 3) := by decide +kernel
theorem dd_O_comparedAsNumbers_66 : decode b_O_comparedAsNumbers 66 = .ok (.invokevirtual 118, 3) := by decide +kernel
theorem dd_O_comparedAsNumbers_69 : decode b_O_comparedAsNumbers 69 = .ok (.aload_n 0, 1) := by decide +kernel
theorem dd_O_comparedAsNumbers_70 : decode b_O_comparedAsNumbers 70 = .ok (.getfield 39, 3) := by decide +kernel
theorem dd_O_comparedAsNumbers_73 : decode b_O_comparedAsNumbers 73 = .ok (.invokevirtual 118, 3) := by decide +kernel
theorem dd_O_comparedAsNumbers_76 : decode b_O_comparedAsNumbers 76 = .ok (.invokestatic 113, 3) := by decide +kernel
theorem dd_O_comparedAsNumbers_79 : decode b_O_comparedAsNumbers 79 = .ok (.istore 5, 2) := by decide +kernel
theorem dd_O_comparedAsNumbers_81 : decode b_O_comparedAsNumbers 81 = .ok (.iload 5, 2) := by decide +kernel
theorem dd_O_comparedAsNumbers_83 : decode b_O_comparedAsNumbers 83 = .ok (.ifCond .ne 41, 3) := by decide +kernel
theorem dd_O_comparedAsNumbers_86 : decode b_O_comparedAsNumbers 86 = .ok (.aload_n 0, 1) := by decide +kernel
theorem dd_O_comparedAsNumbers_87 : decode b_O_comparedAsNumbers 87 = .ok (.getfield 9, 3) := by decide +kernel
theorem dd_O_comparedAsNumbers_90 : decode b_O_comparedAsNumbers 90 = .ok (.aload_n 0, 1) := by decide +kernel
theorem dd_O_comparedAsNumbers_91 : decode b_O_comparedAsNumbers 91 = .ok (.getfield 35, 3) := by decide +kernel
theorem dd_O_comparedAsNumbers_94 : decode b_O_comparedAsNumbers 94 = .ok (.getfield 121, 3) := by decide +kernel
theorem dd_O_comparedAsNumbers_97 : decode b_O_comparedAsNumbers 97 = .ok (.aload_n 0, 1) := by decide +kernel
theorem dd_O_comparedAsNumbers_98 : decode b_O_comparedAsNumbers 98 = .ok (.getfield 35, 3) := by decide +kernel
theorem dd_O_comparedAsNumbers_101 : decode b_O_comparedAsNumbers 101 = .ok (.getfield 124, 3) := by decide +kernel
theorem dd_O_comparedAsNumbers_104 : decode b_O_comparedAsNumbers 104 = .ok (.aload_n 0, 1) := by decide +kernel
theorem dd_O_comparedAsNumbers_105 : decode b_O_comparedAsNumbers 105 = .ok (.getfield 39, 3) := by decide +kernel
theorem dd_O_comparedAsNumbers_108 : decode b_O_comparedAsNumbers 108 = .ok (.getfield 121, 3) := by decide +kernel
theorem dd_O_comparedAsNumbers_111 : decode b_O_comparedAsNumbers 111 = .ok (.aload_n 0, 1) := by decide +kernel
theorem dd_O_comparedAsNumbers_112 : decode b_O_comparedAsNumbers 112 = .ok (.getfield 39, 3) := by decide +kernel
theorem dd_O_comparedAsNumbers_115 : decode b_O_comparedAsNumbers 115 = .ok (.getfield 124, 3) := by decide +kernel
theorem dd_O_comparedAsNumbers_118 : decode b_O_comparedAsNumbers 118 = .ok (.iconst 0, 1) := by decide +kernel
theorem dd_O_comparedAsNumbers_119 : decode b_O_comparedAsNumbers 119 = .ok (.invokevirtual 77, 3) := by decide +kernel
theorem dd_O_comparedAsNumbers_122 : decode b_O_comparedAsNumbers 122 = .ok (.istore 5, 2) := by decide +kernel
theorem dd_O_comparedAsNumbers_124 : decode b_O_comparedAsNumbers 124 = .ok (.iload 5, 2) := by decide +kernel
theorem dd_O_comparedAsNumbers_126 : decode b_O_comparedAsNumbers 126 = .ok (.ifCond .ne 41, 3) := by decide +kernel
theorem dd_O_comparedAsNumbers_129 : decode b_O_comparedAsNumbers 129 = .ok (.aload_n 0, 1) := by decide +kernel
theorem dd_O_comparedAsNumbers_130 : decode b_O_comparedAsNumbers 130 = .ok (.getfield 9, 3) := by decide +kernel
theorem dd_O_comparedAsNumbers_133 : decode b_O_comparedAsNumbers 133 = .ok (.aload_n 0, 1) := by decide +kernel
theorem dd_O_comparedAsNumbers_134 : decode b_O_comparedAsNumbers 134 = .ok (.getfield 35, 3) := by decide +kernel
theorem dd_O_comparedAsNumbers_137 : decode b_O_comparedAsNumbers 137 = .ok (.getfield 127, 3) := by decide +kernel
theorem dd_O_comparedAsNumbers_140 : decode b_O_comparedAsNumbers 140 = .ok (.aload_n 0, 1) := by decide +kernel
theorem dd_O_comparedAsNumbers_141 : decode b_O_comparedAsNumbers 141 = .ok (.getfield 35, 3) := by decide +kernel
theorem dd_O_comparedAsNumbers_144 : decode b_O_comparedAsNumbers 144 = .ok (.getfield 130, 3) := by decide +kernel
theorem dd_O_comparedAsNumbers_147 : decode b_O_comparedAsNumbers 147 = .ok (.aload_n 0, 1) := by decide +kernel
theorem dd_O_comparedAsNumbers_148 : decode b_O_comparedAsNumbers 148 = .ok (.getfield 39, 3) := by decide +kernel
theorem dd_O_comparedAsNumbers_151 : decode b_O_comparedAsNumbers 151 = .ok (.getfield 127, 3) := by decide +kernel
theorem dd_O_comparedAsNumbers_154 : decode b_O_comparedAsNumbers 154 = .ok (.aload_n 0, 1) := by decide +kernel
theorem dd_O_comparedAsNumbers_155 : decode b_O_comparedAsNumbers 155 = .ok (.getfield 39, 3) := by decide +kernel
theorem dd_O_comparedAsNumbers_158 : decode b_O_comparedAsNumbers 158 = .ok (.getfield 130, 3) := by decide +kernel
theorem dd_O_comparedAsNumbers_161 : decode b_O_comparedAsNumbers 161 = .ok (.iconst 0, 1) := by decide +kernel
theorem dd_O_comparedAsNumbers_162 : decode b_O_comparedAsNumbers 162 = .ok (.invokevirtual 77, 3) := by decide +kernel
theorem dd_O_comparedAsNumbers_165 : decode b_O_comparedAsNumbers 165 = .ok (.istore 5, 2) := by decide +kernel
theorem dd_O_comparedAsNumbers_167 : decode b_O_comparedAsNumbers 167 = .ok (.aload_n 0, 1) := by decide +kernel
theorem dd_O_comparedAsNumbers_168 : decode b_O_comparedAsNumbers 168 = .ok (.getfield 35, 3) := by decide +kernel
theorem dd_O_comparedAsNumbers_171 : decode b_O_comparedAsNumbers 171 = .ok (.getfield 110, 3) := by decide +kernel
theorem dd_O_comparedAsNumbers_174 : decode b_O_comparedAsNumbers 174 = .ok (.ifCond .ge 9, 3) := by decide +kernel
theorem dd_O_comparedAsNumbers_177 : decode b_O_comparedAsNumbers 177 = .ok (.iload 5, 2) := by decide +kernel
theorem dd_O_comparedAsNumbers_179 : decode b_O_comparedAsNumbers 179 = .ok (.ineg, 1) := by decide +kernel
theorem dd_O_comparedAsNumbers_180 : decode b_O_comparedAsNumbers 180 = .ok (.goto 5, 3) := by decide +kernel
theorem dd_O_comparedAsNumbers_183 : decode b_O_comparedAsNumbers 183 = .ok (.iload 5, 2) := by decide +kernel
theorem dd_O_comparedAsNumbers_185 : decode b_O_comparedAsNumbers 185 = .ok (.ireturn, 1) := by decide +kernel
theorem dd_P_init_0 : decode b_P_init 0 = .ok (.aload_n 0, 1) := by decide +kernel
theorem dd_P_init_1 : decode b_P_init 1 = .ok (.invokespecial 3, 3) := by decide +kernel
theorem dd_P_init_4 : decode b_P_init 4 = .ok (.aload_n 0, 1) := by decide +kernel
theorem dd_P_init_5 : decode b_P_init 5 = .ok (.aload_n 1, 1) := by decide +kernel
theorem dd_P_init_6 : decode b_P_init 6 = .ok (.putfield 9, 3) := by decide +kernel
theorem dd_P_init_9 : decode b_P_init 9 = .ok (.aload_n 0, 1) := by decide +kernel
theorem dd_P_init_10 : decode b_P_init 10 = .ok (.iconst (-1), 1) := by decide +kernel
theorem dd_P_init_11 : decode b_P_init 11 = .ok (.putfield 15, 3) := by decide +kernel
theorem dd_P_init_14 : decode b_P_init 14 = .ok (.return_, 1) := by decide +kernel
theorem dd_P_beginOf_0 : decode b_P_beginOf 0 = .ok (.aload_n 0, 1) := by decide +kernel
theorem dd_P_beginOf_1 : decode b_P_beginOf 1 = .ok (.getfield 9, 3) := by decide +kernel
theorem dd_P_beginOf_4 : decode b_P_beginOf 4 = .ok (.iload_n 3, 1) := by decide +kernel
theorem dd_P_beginOf_5 : decode b_P_beginOf 5 = .ok (.invokevirtual 19, 3) := by decide +kernel
theorem dd_P_beginOf_8 : decode b_P_beginOf 8 = .ok (.istore 4, 2) := by decide +kernel
theorem dd_P_beginOf_10 : decode b_P_beginOf 10 = .ok (.aload_n 0, 1) := by decide +kernel
theorem dd_P_beginOf_11 : decode b_P_beginOf 11 = .ok (.aload_n 1, 1) := by decide +kernel
theorem dd_P_beginOf_12 : decode b_P_beginOf 12 = .ok (.getfield 25, 3) := by decide +kernel
theorem dd_P_beginOf_15 : decode b_P_beginOf 15 = .ok (.aload_n 0, 1) := by decide +kernel
theorem dd_P_beginOf_16 : decode b_P_beginOf 16 = .ok (.getfield 9, 3) := by decide +kernel
theorem dd_P_beginOf_19 : decode b_P_beginOf 19 = .ok (.iload_n 3, 1) := by decide +kernel
theorem dd_P_beginOf_20 : decode b_P_beginOf 20 = .ok (.invokevirtual 30, 3) := by decide +kernel
theorem dd_P_beginOf_23 : decode b_P_beginOf 23 = .ok (.iload 4, 2) := by decide +kernel
theorem dd_P_beginOf_25 : decode b_P_beginOf 25 = .ok (.invokevirtual 33, 3) := by decide +kernel
theorem dd_P_beginOf_28 : decode b_P_beginOf 28 = .ok (.istore 5, 2) := by decide +kernel
theorem dd_P_beginOf_30 : decode b_P_beginOf 30 = .ok (.iload 5, 2) := by decide +kernel
theorem dd_P_beginOf_32 : decode b_P_beginOf 32 = .ok (.iconst (-1), 1) := by decide +kernel
theorem dd_P_beginOf_33 : decode b_P_beginOf 33 = .ok (.if_icmp .ne 6, 3) := by decide +kernel
theorem dd_P_beginOf_36 : decode b_P_beginOf 36 = .ok (.iload 4, 2) := by decide +kernel
theorem dd_P_beginOf_38 : decode b_P_beginOf 38 = .ok (.ireturn, 1) := by decide +kernel
theorem dd_P_beginOf_39 : decode b_P_beginOf 39 = .ok (.iload_n 2, 1) := by decide +kernel
theorem dd_P_beginOf_40 : decode b_P_beginOf 40 = .ok (.iconst 1, 1) := by decide +kernel
theorem dd_P_beginOf_41 : decode b_P_beginOf 41 = .ok (.iand, 1) := by decide +kernel
theorem dd_P_beginOf_42 : decode b_P_beginOf 42 = .ok (.ifCond .eq 13, 3) := by decide +kernel
theorem dd_P_beginOf_45 : decode b_P_beginOf 45 = .ok (.aload_n 0, 1) := by decide +kernel
theorem dd_P_beginOf_46 : decode b_P_beginOf 46 = .ok (.iload 5, 2) := by decide +kernel
theorem dd_P_beginOf_48 : decode b_P_beginOf 48 = .ok (.iload 4, 2) := by decide +kernel
theorem dd_P_beginOf_50 : decode b_P_beginOf 50 = .ok (.invokevirtual 37, 3) := by decide +kernel
theorem dd_P_beginOf_53 : decode b_P_beginOf 53 = .ok (.istore 5, 2) := by decide +kernel
theorem dd_P_beginOf_55 : decode b_P_beginOf 55 = .ok (.iload 4, 2) := by decide +kernel
theorem dd_P_beginOf_57 : decode b_P_beginOf 57 = .ok (.iload 5, 2) := by decide +kernel
theorem dd_P_beginOf_59 : decode b_P_beginOf 59 = .ok (.aload_n 1, 1) := by decide +kernel
theorem dd_P_beginOf_60 : decode b_P_beginOf 60 = .ok (.getfield 41, 3) := by decide +kernel
theorem dd_P_beginOf_63 : decode b_P_beginOf 63 = .ok (.iadd, 1) := by decide +kernel
theorem dd_P_beginOf_64 : decode b_P_beginOf 64 = .ok (.iconst 1, 1) := by decide +kernel
theorem dd_P_beginOf_65 : decode b_P_beginOf 65 = .ok (.isub, 1) := by decide +kernel
theorem dd_P_beginOf_66 : decode b_P_beginOf 66 = .ok (.invokestatic 44, 3) := by decide +kernel
theorem dd_P_beginOf_69 : decode b_P_beginOf 69 = .ok (.ireturn, 1) := by decide +kernel
