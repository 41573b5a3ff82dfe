theorem dd_M_endOf_0 : decode b_M_endOf 0 = .ok (.aload_n 0, 1) := by decide +kernel
theorem dd_M_endOf_1 : decode b_M_endOf 1 = .ok (.getfield 13, 3) := by decide +kernel
theorem dd_M_endOf_4 : decode b_M_endOf 4 = .ok (.iload_n 1, 1) := by decide +kernel
theorem dd_M_endOf_5 : decode b_M_endOf 5 = .ok (.iconst 1, 1) := by decide +kernel
theorem dd_M_endOf_6 : decode b_M_endOf 6 = .ok (.iadd, 1) := by decide +kernel
theorem dd_M_endOf_7 : decode b_M_endOf 7 = .ok (.iaload, 1) := by decide +kernel
theorem dd_M_endOf_8 : decode b_M_endOf 8 = .ok (.iconst 1, 1) := by decide +kernel
theorem dd_M_endOf_9 : decode b_M_endOf 9 = .ok (.isub, 1) := by decide +kernel
theorem dd_M_endOf_10 : decode b_M_endOf 10 = .ok (.aload_n 0, 1) := by decide +kernel
theorem dd_M_endOf_11 : decode b_M_endOf 11 = .ok (.getfield 60, 3) := by decide +kernel
theorem dd_M_endOf_14 : decode b_M_endOf 14 = .ok (.if_icmp .ge 16, 3) := by decide +kernel
theorem dd_M_endOf_17 : decode b_M_endOf 17 = .ok (.aload_n 0, 1) := by decide +kernel
theorem dd_M_endOf_18 : decode b_M_endOf 18 = .ok (.getfield 13, 3) := by decide +kernel
theorem dd_M_endOf_21 : decode b_M_endOf 21 = .ok (.iload_n 1, 1) := by decide +kernel
theorem dd_M_endOf_22 : decode b_M_endOf 22 = .ok (.iconst 1, 1) := by decide +kernel
theorem dd_M_endOf_23 : decode b_M_endOf 23 = .ok (.iadd, 1) := by decide +kernel
theorem dd_M_endOf_24 : decode b_M_endOf 24 = .ok (.iaload, 1) := by decide +kernel
theorem dd_M_endOf_25 : decode b_M_endOf 25 = .ok (.iconst 1, 1) := by decide +kernel
theorem dd_M_endOf_26 : decode b_M_endOf 26 = .ok (.isub, 1) := by decide +kernel
theorem dd_M_endOf_27 : decode b_M_endOf 27 = .ok (.goto 7, 3) := by decide +kernel
theorem dd_M_endOf_30 : decode b_M_endOf 30 = .ok (.aload_n 0, 1) := by decide +kernel
theorem dd_M_endOf_31 : decode b_M_endOf 31 = .ok (.getfield 60, 3) := by decide +kernel
theorem dd_M_endOf_34 : decode b_M_endOf 34 = .ok (.ireturn, 1) := by decide +kernel
theorem dd_M_within_0 : decode b_M_within 0 = .ok (.iload_n 0, 1) := by decide +kernel
theorem dd_M_within_1 : decode b_M_within 1 = .ok (.iload_n 1, 1) := by decide +kernel
theorem dd_M_within_2 : decode b_M_within 2 = .ok (.if_icmp .lt 12, 3) := by decide +kernel
theorem dd_M_within_5 : decode b_M_within 5 = .ok (.iload_n 0, 1) := by decide +kernel
theorem dd_M_within_6 : decode b_M_within 6 = .ok (.iload_n 2, 1) := by decide +kernel
theorem dd_M_within_7 : decode b_M_within 7 = .ok (.if_icmp .gt 7, 3) := by decide +kernel
theorem dd_M_within_10 : decode b_M_within 10 = .ok (.iconst 1, 1) := by decide +kernel
theorem dd_M_within_11 : decode b_M_within 11 = .ok (.goto 4, 3) := by decide +kernel
theorem dd_M_within_14 : decode b_M_within 14 = .ok (.iconst 0, 1) := by decide +kernel
theorem dd_M_within_15 : decode b_M_within 15 = .ok (.ireturn, 1) := by decide +kernel
theorem dd_M_ways_0 : decode b_M_ways 0 = .ok (.aload_n 0, 1) := by decide +kernel
theorem dd_M_ways_1 : decode b_M_ways 1 = .ok (.iload_n 1, 1) := by decide +kernel
theorem dd_M_ways_2 : decode b_M_ways 2 = .ok (.iconst 0, 1) := by decide +kernel
theorem dd_M_ways_3 : decode b_M_ways 3 = .ok (.bipush 127, 2) := by decide +kernel
theorem dd_M_ways_5 : decode b_M_ways 5 = .ok (.invokestatic 81, 3) := by decide +kernel
theorem dd_M_ways_8 : decode b_M_ways 8 = .ok (.ifCond .ne 7, 3) := by decide +kernel
theorem dd_M_ways_11 : decode b_M_ways 11 = .ok (.iconst 1, 1) := by decide +kernel
theorem dd_M_ways_12 : decode b_M_ways 12 = .ok (.goto 4, 3) := by decide +kernel
theorem dd_M_ways_15 : decode b_M_ways 15 = .ok (.iconst 0, 1) := by decide +kernel
theorem dd_M_ways_16 : decode b_M_ways 16 = .ok (.iconst 1, 1) := by decide +kernel
theorem dd_M_ways_17 : decode b_M_ways 17 = .ok (.invokevirtual 70, 3) := by decide +kernel
theorem dd_M_ways_20 : decode b_M_ways 20 = .ok (.ifCond .eq 4, 3) := by decide +kernel
theorem dd_M_ways_23 : decode b_M_ways 23 = .ok (.return_, 1) := by decide +kernel
theorem dd_M_ways_24 : decode b_M_ways 24 = .ok (.aload_n 0, 1) := by decide +kernel
theorem dd_M_ways_25 : decode b_M_ways 25 = .ok (.iload_n 1, 1) := by decide +kernel
theorem dd_M_ways_26 : decode b_M_ways 26 = .ok (.putfield 85, 3) := by decide +kernel
theorem dd_M_ways_29 : decode b_M_ways 29 = .ok (.aload_n 0, 1) := by decide +kernel
theorem dd_M_ways_30 : decode b_M_ways 30 = .ok (.iload_n 2, 1) := by decide +kernel
theorem dd_M_ways_31 : decode b_M_ways 31 = .ok (.putfield 88, 3) := by decide +kernel
theorem dd_M_ways_34 : decode b_M_ways 34 = .ok (.aload_n 0, 1) := by decide +kernel
theorem dd_M_ways_35 : decode b_M_ways 35 = .ok (.iload_n 3, 1) := by decide +kernel
theorem dd_M_ways_36 : decode b_M_ways 36 = .ok (.putfield 91, 3) := by decide +kernel
theorem dd_M_ways_39 : decode b_M_ways 39 = .ok (.return_, 1) := by decide +kernel
theorem dd_M_separator_0 : decode b_M_separator 0 = .ok (.aload_n 0, 1) := by decide +kernel
theorem dd_M_separator_1 : decode b_M_separator 1 = .ok (.iload_n 1, 1) := by decide +kernel
theorem dd_M_separator_2 : decode b_M_separator 2 = .ok (.iconst (-1), 1) := by decide +kernel
theorem dd_M_separator_3 : decode b_M_separator 3 = .ok (.sipush 255, 3) := by decide +kernel
theorem dd_M_separator_6 : decode b_M_separator 6 = .ok (.invokestatic 81, 3) := by decide +kernel
theorem dd_M_separator_9 : decode b_M_separator 9 = .ok (.ifCond .eq 9, 3) := by decide +kernel
theorem dd_M_separator_12 : decode b_M_separator 12 = .ok (.iload_n 1, 1) := by decide +kernel
theorem dd_M_separator_13 : decode b_M_separator 13 = .ok (.bipush 10, 2) := by decide +kernel
theorem dd_M_separator_15 : decode b_M_separator 15 = .ok (.if_icmp .ne 7, 3) := by decide +kernel
theorem dd_M_separator_18 : decode b_M_separator 18 = .ok (.iconst 1, 1) := by decide +kernel
theorem dd_M_separator_19 : decode b_M_separator 19 = .ok (.goto 4, 3) := by decide +kernel
theorem dd_M_separator_22 : decode b_M_separator 22 = .ok (.iconst 0, 1) := by decide +kernel
theorem dd_M_separator_23 : decode b_M_separator 23 = .ok (.iconst 1, 1) := by decide +kernel
theorem dd_M_separator_24 : decode b_M_separator 24 = .ok (.invokevirtual 70, 3) := by decide +kernel
theorem dd_M_separator_27 : decode b_M_separator 27 = .ok (.ifCond .eq 4, 3) := by decide +kernel
theorem dd_M_separator_30 : decode b_M_separator 30 = .ok (.return_, 1) := by decide +kernel
theorem dd_M_separator_31 : decode b_M_separator 31 = .ok (.aload_n 0, 1) := by decide +kernel
theorem dd_M_separator_32 : decode b_M_separator 32 = .ok (.iload_n 1, 1) := by decide +kernel
theorem dd_M_separator_33 : decode b_M_separator 33 = .ok (.putfield 17, 3) := by decide +kernel
theorem dd_M_separator_36 : decode b_M_separator 36 = .ok (.return_, 1) := by decide +kernel
theorem dd_M_key_0 : decode b_M_key 0 = .ok (.iload_n 1, 1) := by decide +kernel
theorem dd_M_key_1 : decode b_M_key 1 = .ok (.iconst 1, 1) := by decide +kernel
theorem dd_M_key_2 : decode b_M_key 2 = .ok (.sipush 1000, 3) := by decide +kernel
theorem dd_M_key_5 : decode b_M_key 5 = .ok (.invokestatic 81, 3) := by decide +kernel
theorem dd_M_key_8 : decode b_M_key 8 = .ok (.ifCond .eq 52, 3) := by decide +kernel
theorem dd_M_key_11 : decode b_M_key 11 = .ok (.iload_n 2, 1) := by decide +kernel
theorem dd_M_key_12 : decode b_M_key 12 = .ok (.iconst 1, 1) := by decide +kernel
theorem dd_M_key_13 : decode b_M_key 13 = .ok (.sipush 1000, 3) := by decide +kernel
theorem dd_M_key_16 : decode b_M_key 16 = .ok (.invokestatic 81, 3) := by decide +kernel
theorem dd_M_key_19 : decode b_M_key 19 = .ok (.ifCond .eq 41, 3) := by decide +kernel
theorem dd_M_key_22 : decode b_M_key 22 = .ok (.iload_n 3, 1) := by decide +kernel
theorem dd_M_key_23 : decode b_M_key 23 = .ok (.iconst 0, 1) := by decide +kernel
theorem dd_M_key_24 : decode b_M_key 24 = .ok (.sipush 1000, 3) := by decide +kernel
theorem dd_M_key_27 : decode b_M_key 27 = .ok (.invokestatic 81, 3) := by decide +kernel
theorem dd_M_key_30 : decode b_M_key 30 = .ok (.ifCond .eq 30, 3) := by decide +kernel
theorem dd_M_key_33 : decode b_M_key 33 = .ok (.iload 4, 2) := by decide +kernel
theorem dd_M_key_35 : decode b_M_key 35 = .ok (.iconst 0, 1) := by decide +kernel
theorem dd_M_key_36 : decode b_M_key 36 = .ok (.sipush 1000, 3) := by decide +kernel
theorem dd_M_key_39 : decode b_M_key 39 = .ok (.invokestatic 81, 3) := by decide +kernel
theorem dd_M_key_42 : decode b_M_key 42 = .ok (.ifCond .eq 18, 3) := by decide +kernel
theorem dd_M_key_45 : decode b_M_key 45 = .ok (.iload 5, 2) := by decide +kernel
theorem dd_M_key_47 : decode b_M_key 47 = .ok (.iconst 0, 1) := by decide +kernel
theorem dd_M_key_48 : decode b_M_key 48 = .ok (.bipush 127, 2) := by decide +kernel
theorem dd_M_key_50 : decode b_M_key 50 = .ok (.invokestatic 81, 3) := by decide +kernel
theorem dd_M_key_53 : decode b_M_key 53 = .ok (.ifCond .eq 7, 3) := by decide +kernel
theorem dd_M_key_56 : decode b_M_key 56 = .ok (.iconst 1, 1) := by decide +kernel
theorem dd_M_key_57 : decode b_M_key 57 = .ok (.goto 4, 3) := by decide +kernel
theorem dd_M_key_60 : decode b_M_key 60 = .ok (.iconst 0, 1) := by decide +kernel
theorem dd_M_key_61 : decode b_M_key 61 = .ok (.istore 6, 2) := by decide +kernel
theorem dd_M_key_63 : decode b_M_key 63 = .ok (.aload_n 0, 1) := by decide +kernel
theorem dd_M_key_64 : decode b_M_key 64 = .ok (.iload 6, 2) := by decide +kernel
theorem dd_M_key_66 : decode b_M_key 66 = .ok (.ifCond .ne 7, 3) := by decide +kernel
theorem dd_M_key_69 : decode b_M_key 69 = .ok (.iconst 1, 1) := by decide +kernel
theorem dd_M_key_70 : decode b_M_key 70 = .ok (.goto 4, 3) := by decide +kernel
theorem dd_M_key_73 : decode b_M_key 73 = .ok (.iconst 0, 1) := by decide +kernel
theorem dd_M_key_74 : decode b_M_key 74 = .ok (.iconst 1, 1) := by decide +kernel
theorem dd_M_key_75 : decode b_M_key 75 = .ok (.invokevirtual 70, 3) := by decide +kernel
theorem dd_M_key_78 : decode b_M_key 78 = .ok (.ifCond .ne 25, 3) := by decide +kernel
theorem dd_M_key_81 : decode b_M_key 81 = .ok (.aload_n 0, 1) := by decide +kernel
theorem dd_M_key_82 : decode b_M_key 82 = .ok (.aload_n 0, 1) := by decide +kernel
theorem dd_M_key_83 : decode b_M_key 83 = .ok (.getfield 94, 3) := by decide +kernel
theorem dd_M_key_86 : decode b_M_key 86 = .ok (.bipush 6, 2) := by decide +kernel
theorem dd_M_key_88 : decode b_M_key 88 = .ok (.if_icmp .ne 7, 3) := by decide +kernel
theorem dd_M_key_91 : decode b_M_key 91 = .ok (.iconst 1, 1) := by decide +kernel
theorem dd_M_key_92 : decode b_M_key 92 = .ok (.goto 4, 3) := by decide +kernel
theorem dd_M_key_95 : decode b_M_key 95 = .ok (.iconst 0, 1) := by decide +kernel
theorem dd_M_key_96 : decode b_M_key 96 = .ok (.iconst 2, 1) := by decide +kernel
theorem dd_M_key_97 : decode b_M_key 97 = .ok (.invokevirtual 70, 3) := by decide +kernel
theorem dd_M_key_100 : decode b_M_key 100 = .ok (.ifCond .eq 5, 3) := by decide +kernel
theorem dd_M_key_103 : decode b_M_key 103 = .ok (.iconst 0, 1) := by decide +kernel
theorem dd_M_key_104 : decode b_M_key 104 = .ok (.ireturn, 1) := by decide +kernel
theorem dd_M_key_105 : decode b_M_key 105 = .ok (.aload_n 0, 1) := by decide +kernel
theorem dd_M_key_106 : decode b_M_key 106 = .ok (.getfield 21, 3) := by decide +kernel
theorem dd_M_key_109 : decode b_M_key 109 = .ok (.iconst 5, 1) := by decide +kernel
theorem dd_M_key_110 : decode b_M_key 110 = .ok (.aload_n 0, 1) := by decide +kernel
theorem dd_M_key_111 : decode b_M_key 111 = .ok (.getfield 94, 3) := by decide +kernel
theorem dd_M_key_114 : decode b_M_key 114 = .ok (.imul, 1) := by decide +kernel
theorem dd_M_key_115 : decode b_M_key 115 = .ok (.iload_n 1, 1) := by decide +kernel
theorem dd_M_key_116 : decode b_M_key 116 = .ok (.iastore, 1) := by decide +kernel
theorem dd_M_key_117 : decode b_M_key 117 = .ok (.aload_n 0, 1) := by decide +kernel
theorem dd_M_key_118 : decode b_M_key 118 = .ok (.getfield 21, 3) := by decide +kernel
theorem dd_M_key_121 : decode b_M_key 121 = .ok (.iconst 5, 1) := by decide +kernel
theorem dd_M_key_122 : decode b_M_key 122 = .ok (.aload_n 0, 1) := by decide +kernel
theorem dd_M_key_123 : decode b_M_key 123 = .ok (.getfield 94, 3) := by decide +kernel
theorem dd_M_key_126 : decode b_M_key 126 = .ok (.imul, 1) := by decide +kernel
theorem dd_M_key_127 : decode b_M_key 127 = .ok (.iconst 1, 1) := by decide +kernel
theorem dd_M_key_128 : decode b_M_key 128 = .ok (.iadd, 1) := by decide +kernel
theorem dd_M_key_129 : decode b_M_key 129 = .ok (.iload_n 2, 1) := by decide +kernel
theorem dd_M_key_130 : decode b_M_key 130 = .ok (.iastore, 1) := by decide +kernel
theorem dd_M_key_131 : decode b_M_key 131 = .ok (.aload_n 0, 1) := by decide +kernel
theorem dd_M_key_132 : decode b_M_key 132 = .ok (.getfield 21, 3) := by decide +kernel
theorem dd_M_key_135 : decode b_M_key 135 = .ok (.iconst 5, 1) := by decide +kernel
theorem dd_M_key_136 : decode b_M_key 136 = .ok (.aload_n 0, 1) := by decide +kernel
theorem dd_M_key_137 : decode b_M_key 137 = .ok (.getfield 94, 3) := by decide +kernel
theorem dd_M_key_140 : decode b_M_key 140 = .ok (.imul, 1) := by decide +kernel
theorem dd_M_key_141 : decode b_M_key 141 = .ok (.iconst 2, 1) := by decide +kernel
theorem dd_M_key_142 : decode b_M_key 142 = .ok (.iadd, 1) := by decide +kernel
theorem dd_M_key_143 : decode b_M_key 143 = .ok (.iload_n 3, 1) := by decide +kernel
theorem dd_M_key_144 : decode b_M_key 144 = .ok (.iastore, 1) := by decide +kernel
theorem dd_M_key_145 : decode b_M_key 145 = .ok (.aload_n 0, 1) := by decide +kernel
theorem dd_M_key_146 : decode b_M_key 146 = .ok (.getfield 21, 3) := by decide +kernel
theorem dd_M_key_149 : decode b_M_key 149 = .ok (.iconst 5, 1) := by decide +kernel
theorem dd_M_key_150 : decode b_M_key 150 = .ok (.aload_n 0, 1) := by decide +kernel
theorem dd_M_key_151 : decode b_M_key 151 = .ok (.getfield 94, 3) := by decide +kernel
theorem dd_M_key_154 : decode b_M_key 154 = .ok (.imul, 1) := by decide +kernel
theorem dd_M_key_155 : decode b_M_key 155 = .ok (.iconst 3, 1) := by decide +kernel
theorem dd_M_key_156 : decode b_M_key 156 = .ok (.iadd, 1) := by decide +kernel
theorem dd_M_key_157 : decode b_M_key 157 = .ok (.iload 4, 2) := by decide +kernel
theorem dd_M_key_159 : decode b_M_key 159 = .ok (.iastore, 1) := by decide +kernel
theorem dd_M_key_160 : decode b_M_key 160 = .ok (.aload_n 0, 1) := by decide +kernel
theorem dd_M_key_161 : decode b_M_key 161 = .ok (.getfield 21, 3) := by decide +kernel
theorem dd_M_key_164 : decode b_M_key 164 = .ok (.iconst 5, 1) := by decide +kernel
theorem dd_M_key_165 : decode b_M_key 165 = .ok (.aload_n 0, 1) := by decide +kernel
theorem dd_M_key_166 : decode b_M_key 166 = .ok (.getfield 94, 3) := by decide +kernel
theorem dd_M_key_169 : decode b_M_key 169 = .ok (.imul, 1) := by decide +kernel
theorem dd_M_key_170 : decode b_M_key 170 = .ok (.iconst 4, 1) := by decide +kernel
theorem dd_M_key_171 : decode b_M_key 171 = .ok (.iadd, 1) := by decide +kernel
theorem dd_M_key_172 : decode b_M_key 172 = .ok (.iload 5, 2) := by decide +kernel
theorem dd_M_key_174 : decode b_M_key 174 = .ok (.iastore, 1) := by decide +kernel
theorem dd_M_key_175 : decode b_M_key 175 = .ok (.aload_n 0, 1) := by decide +kernel
theorem dd_M_key_176 : decode b_M_key 176 = .ok (.dup, 1) := by decide +kernel
theorem dd_M_key_177 : decode b_M_key 177 = .ok (.getfield 94, 3) := by decide +kernel
theorem dd_M_key_180 : decode b_M_key 180 = .ok (.iconst 1, 1) := by decide +kernel
theorem dd_M_key_181 : decode b_M_key 181 = .ok (.iadd, 1) := by decide +kernel
theorem dd_M_key_182 : decode b_M_key 182 = .ok (.putfield 94, 3) := by decide +kernel
theorem dd_M_key_185 : decode b_M_key 185 = .ok (.aload_n 0, 1) := by decide +kernel
theorem dd_M_key_186 : decode b_M_key 186 = .ok (.getfield 94, 3) := by decide +kernel
theorem dd_M_key_189 : decode b_M_key 189 = .ok (.ireturn, 1) := by decide +kernel
theorem dd_M_keyless_0 : decode b_M_keyless 0 = .ok (.aload_n 0, 1) := by decide +kernel
theorem dd_M_keyless_1 : decode b_M_keyless 1 = .ok (.iconst 0, 1) := by decide +kernel
theorem dd_M_keyless_2 : decode b_M_keyless 2 = .ok (.putfield 57, 3) := by decide +kernel
theorem dd_M_keyless_5 : decode b_M_keyless 5 = .ok (.aload_n 0, 1) := by decide +kernel
theorem dd_M_keyless_6 : decode b_M_keyless 6 = .ok (.getfield 94, 3) := by decide +kernel
theorem dd_M_keyless_9 : decode b_M_keyless 9 = .ok (.istore_n 1, 1) := by decide +kernel
theorem dd_M_keyless_10 : decode b_M_keyless 10 = .ok (.aload_n 0, 1) := by decide +kernel
theorem dd_M_keyless_11 : decode b_M_keyless 11 = .ok (.iconst 0, 1) := by decide +kernel
theorem dd_M_keyless_12 : decode b_M_keyless 12 = .ok (.putfield 94, 3) := by decide +kernel
theorem dd_M_keyless_15 : decode b_M_keyless 15 = .ok (.iload_n 1, 1) := by decide +kernel
theorem dd_M_keyless_16 : decode b_M_keyless 16 = .ok (.ireturn, 1) := by decide +kernel
theorem dd_M_memory_0 : decode b_M_memory 0 = .ok (.aload_n 0, 1) := by decide +kernel
theorem dd_M_memory_1 : decode b_M_memory 1 = .ok (.iload_n 1, 1) := by decide +kernel
theorem dd_M_memory_2 : decode b_M_memory 2 = .ok (.iconst 2, 1) := by decide +kernel
theorem dd_M_memory_3 : decode b_M_memory 3 = .ok (.sipush 500, 3) := by decide +kernel
theorem dd_M_memory_6 : decode b_M_memory 6 = .ok (.invokestatic 81, 3) := by decide +kernel
theorem dd_M_memory_9 : decode b_M_memory 9 = .ok (.ifCond .eq 13, 3) := by decide +kernel
theorem dd_M_memory_12 : decode b_M_memory 12 = .ok (.iload_n 2, 1) := by decide +kernel
theorem dd_M_memory_13 : decode b_M_memory 13 = .ok (.iconst 2, 1) := by decide +kernel
theorem dd_M_memory_14 : decode b_M_memory 14 = .ok (.bipush 16, 2) := by decide +kernel
theorem dd_M_memory_16 : decode b_M_memory 16 = .ok (.invokestatic 81, 3) := by decide +kernel
theorem dd_M_memory_19 : decode b_M_memory 19 = .ok (.ifCond .ne 7, 3) := by decide +kernel
theorem dd_M_memory_22 : decode b_M_memory 22 = .ok (.iconst 1, 1) := by decide +kernel
theorem dd_M_memory_23 : decode b_M_memory 23 = .ok (.goto 4, 3) := by decide +kernel
theorem dd_M_memory_26 : decode b_M_memory 26 = .ok (.iconst 0, 1) := by decide +kernel
theorem dd_M_memory_27 : decode b_M_memory 27 = .ok (.iconst 1, 1) := by decide +kernel
theorem dd_M_memory_28 : decode b_M_memory 28 = .ok (.invokevirtual 70, 3) := by decide +kernel
theorem dd_M_memory_31 : decode b_M_memory 31 = .ok (.ifCond .eq 4, 3) := by decide +kernel
theorem dd_M_memory_34 : decode b_M_memory 34 = .ok (.return_, 1) := by decide +kernel
theorem dd_M_memory_35 : decode b_M_memory 35 = .ok (.aload_n 0, 1) := by decide +kernel
theorem dd_M_memory_36 : decode b_M_memory 36 = .ok (.iload_n 1, 1) := by decide +kernel
theorem dd_M_memory_37 : decode b_M_memory 37 = .ok (.putfield 24, 3) := by decide +kernel
theorem dd_M_memory_40 : decode b_M_memory 40 = .ok (.aload_n 0, 1) := by decide +kernel
theorem dd_M_memory_41 : decode b_M_memory 41 = .ok (.iload_n 2, 1) := by decide +kernel
theorem dd_M_memory_42 : decode b_M_memory 42 = .ok (.putfield 27, 3) := by decide +kernel
theorem dd_M_memory_45 : decode b_M_memory 45 = .ok (.return_, 1) := by decide +kernel
theorem dd_M_keysThere_0 : decode b_M_keysThere 0 = .ok (.aload_n 0, 1) := by decide +kernel
theorem dd_M_keysThere_1 : decode b_M_keysThere 1 = .ok (.getfield 94, 3) := by decide +kernel
theorem dd_M_keysThere_4 : decode b_M_keysThere 4 = .ok (.ifCond .ne 7, 3) := by decide +kernel
theorem dd_M_keysThere_7 : decode b_M_keysThere 7 = .ok (.iconst 1, 1) := by decide +kernel
theorem dd_M_keysThere_8 : decode b_M_keysThere 8 = .ok (.goto 7, 3) := by decide +kernel
theorem dd_M_keysThere_11 : decode b_M_keysThere 11 = .ok (.aload_n 0, 1) := by decide +kernel
theorem dd_M_keysThere_12 : decode b_M_keysThere 12 = .ok (.getfield 94, 3) := by decide +kernel
theorem dd_M_keysThere_15 : decode b_M_keysThere 15 = .ok (.ireturn, 1) := by decide +kernel
theorem dd_M_keyOf_0 : decode b_M_keyOf 0 = .ok (.aload_n 0, 1) := by decide +kernel
theorem dd_M_keyOf_1 : decode b_M_keyOf 1 = .ok (.getfield 94, 3) := by decide +kernel
theorem dd_M_keyOf_4 : decode b_M_keyOf 4 = .ok (.ifCond .ne 26, 3) := by decide +kernel
theorem dd_M_keyOf_7 : decode b_M_keyOf 7 = .ok (.iload_n 2, 1) := by decide +kernel
theorem dd_M_keyOf_8 : decode b_M_keyOf 8 = .ok (.iconst 2, 1) := by decide +kernel
theorem dd_M_keyOf_9 : decode b_M_keyOf 9 = .ok (.if_icmp .ge 7, 3) := by decide +kernel
theorem dd_M_keyOf_12 : decode b_M_keyOf 12 = .ok (.iconst 1, 1) := by decide +kernel
theorem dd_M_keyOf_13 : decode b_M_keyOf 13 = .ok (.goto 16, 3) := by decide +kernel
theorem dd_M_keyOf_16 : decode b_M_keyOf 16 = .ok (.iload_n 2, 1) := by decide +kernel
theorem dd_M_keyOf_17 : decode b_M_keyOf 17 = .ok (.iconst 4, 1) := by decide +kernel
theorem dd_M_keyOf_18 : decode b_M_keyOf 18 = .ok (.if_icmp .ne 10, 3) := by decide +kernel
theorem dd_M_keyOf_21 : decode b_M_keyOf 21 = .ok (.aload_n 0, 1) := by decide +kernel
theorem dd_M_keyOf_22 : decode b_M_keyOf 22 = .ok (.getfield 85, 3) := by decide +kernel
theorem dd_M_keyOf_25 : decode b_M_keyOf 25 = .ok (.goto 4, 3) := by decide +kernel
theorem dd_M_keyOf_28 : decode b_M_keyOf 28 = .ok (.iconst 0, 1) := by decide +kernel
theorem dd_M_keyOf_29 : decode b_M_keyOf 29 = .ok (.ireturn, 1) := by decide +kernel
theorem dd_M_keyOf_30 : decode b_M_keyOf 30 = .ok (.aload_n 0, 1) := by decide +kernel
theorem dd_M_keyOf_31 : decode b_M_keyOf 31 = .ok (.getfield 21, 3) := by decide +kernel
theorem dd_M_keyOf_34 : decode b_M_keyOf 34 = .ok (.iconst 5, 1) := by decide +kernel
theorem dd_M_keyOf_35 : decode b_M_keyOf 35 = .ok (.iload_n 1, 1) := by decide +kernel
theorem dd_M_keyOf_36 : decode b_M_keyOf 36 = .ok (.imul, 1) := by decide +kernel
theorem dd_M_keyOf_37 : decode b_M_keyOf 37 = .ok (.iload_n 2, 1) := by decide +kernel
theorem dd_M_keyOf_38 : decode b_M_keyOf 38 = .ok (.iadd, 1) := by decide +kernel
theorem dd_M_keyOf_39 : decode b_M_keyOf 39 = .ok (.iaload, 1) := by decide +kernel
theorem dd_M_keyOf_40 : decode b_M_keyOf 40 = .ok (.istore_n 3, 1) := by decide +kernel
theorem dd_M_keyOf_41 : decode b_M_keyOf 41 = .ok (.iload_n 2, 1) := by decide +kernel
theorem dd_M_keyOf_42 : decode b_M_keyOf 42 = .ok (.iconst 4, 1) := by decide +kernel
theorem dd_M_keyOf_43 : decode b_M_keyOf 43 = .ok (.if_icmp .ne 14, 3) := by decide +kernel
theorem dd_M_keyOf_46 : decode b_M_keyOf 46 = .ok (.iload_n 3, 1) := by decide +kernel
theorem dd_M_keyOf_47 : decode b_M_keyOf 47 = .ok (.ifCond .ne 10, 3) := by decide +kernel
theorem dd_M_keyOf_50 : decode b_M_keyOf 50 = .ok (.aload_n 0, 1) := by decide +kernel
theorem dd_M_keyOf_51 : decode b_M_keyOf 51 = .ok (.getfield 85, 3) := by decide +kernel
theorem dd_M_keyOf_54 : decode b_M_keyOf 54 = .ok (.goto 4, 3) := by decide +kernel
theorem dd_M_keyOf_57 : decode b_M_keyOf 57 = .ok (.iload_n 3, 1) := by decide +kernel
theorem dd_M_keyOf_58 : decode b_M_keyOf 58 = .ok (.ireturn, 1) := by decide +kernel
theorem dd_M_isBlank_0 : decode b_M_isBlank 0 = .ok (.aload_n 0, 1) := by decide +kernel
theorem dd_M_isBlank_1 : decode b_M_isBlank 1 = .ok (.getfield 7, 3) := by decide +kernel
theorem dd_M_isBlank_4 : decode b_M_isBlank 4 = .ok (.iload_n 1, 1) := by decide +kernel
theorem dd_M_isBlank_5 : decode b_M_isBlank 5 = .ok (.baload, 1) := by decide +kernel
theorem dd_M_isBlank_6 : decode b_M_isBlank 6 = .ok (.bipush 32, 2) := by decide +kernel
theorem dd_M_isBlank_8 : decode b_M_isBlank 8 = .ok (.if_icmp .eq 14, 3) := by decide +kernel
theorem dd_M_isBlank_11 : decode b_M_isBlank 11 = .ok (.aload_n 0, 1) := by decide +kernel
theorem dd_M_isBlank_12 : decode b_M_isBlank 12 = .ok (.getfield 7, 3) := by decide +kernel
theorem dd_M_isBlank_15 : decode b_M_isBlank 15 = .ok (.iload_n 1, 1) := by decide +kernel
theorem dd_M_isBlank_16 : decode b_M_isBlank 16 = .ok (.baload, 1) := by decide +kernel
theorem dd_M_isBlank_17 : decode b_M_isBlank 17 = .ok (.bipush 9, 2) := by decide +kernel
theorem dd_M_isBlank_19 : decode b_M_isBlank 19 = .ok (.if_icmp .ne 7, 3) := by decide +kernel
theorem dd_M_isBlank_22 : decode b_M_isBlank 22 = .ok (.iconst 1, 1) := by decide +kernel
theorem dd_M_isBlank_23 : decode b_M_isBlank 23 = .ok (.goto 4, 3) := by decide +kernel
theorem dd_M_isBlank_26 : decode b_M_isBlank 26 = .ok (.iconst 0, 1) := by decide +kernel
theorem dd_M_isBlank_27 : decode b_M_isBlank 27 = .ok (.ireturn, 1) := by decide +kernel
theorem dd_M_find_0 : decode b_M_find 0 = .ok (.aload_n 0, 1) := by decide +kernel
theorem dd_M_find_1 : decode b_M_find 1 = .ok (.iload_n 1, 1) := by decide +kernel
theorem dd_M_find_2 : decode b_M_find 2 = .ok (.invokevirtual 97, 3) := by decide +kernel
theorem dd_M_find_5 : decode b_M_find 5 = .ok (.istore_n 3, 1) := by decide +kernel
theorem dd_M_find_6 : decode b_M_find 6 = .ok (.aload_n 0, 1) := by decide +kernel
theorem dd_M_find_7 : decode b_M_find 7 = .ok (.iload_n 1, 1) := by decide +kernel
theorem dd_M_find_8 : decode b_M_find 8 = .ok (.invokevirtual 101, 3) := by decide +kernel
theorem dd_M_find_11 : decode b_M_find 11 = .ok (.istore 4, 2) := by decide +kernel
theorem dd_M_find_13 : decode b_M_find 13 = .ok (.iconst 0, 1) := by decide +kernel
theorem dd_M_find_14 : decode b_M_find 14 = .ok (.istore 5, 2) := by decide +kernel
theorem dd_M_find_16 : decode b_M_find 16 = .ok (.aload_n 0, 1) := by decide +kernel
theorem dd_M_find_17 : decode b_M_find 17 = .ok (.getfield 17, 3) := by decide +kernel
theorem dd_M_find_20 : decode b_M_find 20 = .ok (.iconst (-1), 1) := by decide +kernel
theorem dd_M_find_21 : decode b_M_find 21 = .ok (.if_icmp .ne 9, 3) := by decide +kernel
theorem dd_M_find_24 : decode b_M_find 24 = .ok (.iload 4, 2) := by decide +kernel
theorem dd_M_find_26 : decode b_M_find 26 = .ok (.iload_n 3, 1) := by decide +kernel
theorem dd_M_find_27 : decode b_M_find 27 = .ok (.if_icmp .ge 7, 3) := by decide +kernel
theorem dd_M_find_30 : decode b_M_find 30 = .ok (.iconst 1, 1) := by decide +kernel
theorem dd_M_find_31 : decode b_M_find 31 = .ok (.goto 4, 3) := by decide +kernel
theorem dd_M_find_34 : decode b_M_find 34 = .ok (.iconst 0, 1) := by decide +kernel
theorem dd_M_find_35 : decode b_M_find 35 = .ok (.istore 6, 2) := by decide +kernel
theorem dd_M_find_37 : decode b_M_find 37 = .ok (.iload 6, 2) := by decide +kernel
theorem dd_M_find_39 : decode b_M_find 39 = .ok (.ifCond .eq 144, 3) := by decide +kernel
theorem dd_M_find_42 : decode b_M_find 42 = .ok (.iinc 5 1, 3) := by decide +kernel
theorem dd_M_find_45 : decode b_M_find 45 = .ok (.aload_n 0, 1) := by decide +kernel
theorem dd_M_find_46 : decode b_M_find 46 = .ok (.iload 4, 2) := by decide +kernel
theorem dd_M_find_48 : decode b_M_find 48 = .ok (.putfield 104, 3) := by decide +kernel
theorem dd_M_find_51 : decode b_M_find 51 = .ok (.aload_n 0, 1) := by decide +kernel
theorem dd_M_find_52 : decode b_M_find 52 = .ok (.getfield 17, 3) := by decide +kernel
theorem dd_M_find_55 : decode b_M_find 55 = .ok (.iconst (-1), 1) := by decide +kernel
theorem dd_M_find_56 : decode b_M_find 56 = .ok (.if_icmp .eq 58, 3) := by decide +kernel
theorem dd_M_find_59 : decode b_M_find 59 = .ok (.iload 4, 2) := by decide +kernel
theorem dd_M_find_61 : decode b_M_find 61 = .ok (.iload_n 3, 1) := by decide +kernel
theorem dd_M_find_62 : decode b_M_find 62 = .ok (.if_icmp .ge 27, 3) := by decide +kernel
theorem dd_M_find_65 : decode b_M_find 65 = .ok (.aload_n 0, 1) := by decide +kernel
theorem dd_M_find_66 : decode b_M_find 66 = .ok (.getfield 7, 3) := by decide +kernel
theorem dd_M_find_69 : decode b_M_find 69 = .ok (.iload 4, 2) := by decide +kernel
theorem dd_M_find_71 : decode b_M_find 71 = .ok (.baload, 1) := by decide +kernel
theorem dd_M_find_72 : decode b_M_find 72 = .ok (.sipush 255, 3) := by decide +kernel
theorem dd_M_find_75 : decode b_M_find 75 = .ok (.iand, 1) := by decide +kernel
theorem dd_M_find_76 : decode b_M_find 76 = .ok (.aload_n 0, 1) := by decide +kernel
theorem dd_M_find_77 : decode b_M_find 77 = .ok (.getfield 17, 3) := by decide +kernel
theorem dd_M_find_80 : decode b_M_find 80 = .ok (.if_icmp .eq 9, 3) := by decide +kernel
theorem dd_M_find_83 : decode b_M_find 83 = .ok (.iinc 4 1, 3) := by decide +kernel
theorem dd_M_find_86 : decode b_M_find 86 = .ok (.goto (-27), 3) := by decide +kernel
theorem dd_M_find_89 : decode b_M_find 89 = .ok (.aload_n 0, 1) := by decide +kernel
theorem dd_M_find_90 : decode b_M_find 90 = .ok (.iload 4, 2) := by decide +kernel
theorem dd_M_find_92 : decode b_M_find 92 = .ok (.putfield 107, 3) := by decide +kernel
theorem dd_M_find_95 : decode b_M_find 95 = .ok (.iload 4, 2) := by decide +kernel
theorem dd_M_find_97 : decode b_M_find 97 = .ok (.iload_n 3, 1) := by decide +kernel
theorem dd_M_find_98 : decode b_M_find 98 = .ok (.if_icmp .ge 7, 3) := by decide +kernel
theorem dd_M_find_101 : decode b_M_find 101 = .ok (.iconst 1, 1) := by decide +kernel
theorem dd_M_find_102 : decode b_M_find 102 = .ok (.goto 4, 3) := by decide +kernel
theorem dd_M_find_105 : decode b_M_find 105 = .ok (.iconst 0, 1) := by decide +kernel
theorem dd_M_find_106 : decode b_M_find 106 = .ok (.istore 6, 2) := by decide +kernel
theorem dd_M_find_108 : decode b_M_find 108 = .ok (.iinc 4 1, 3) := by decide +kernel
theorem dd_M_find_111 : decode b_M_find 111 = .ok (.goto 64, 3) := by decide +kernel
theorem dd_M_find_114 : decode b_M_find 114 = .ok (.iload 4, 2) := by decide +kernel
theorem dd_M_find_116 : decode b_M_find 116 = .ok (.iload_n 3, 1) := by decide +kernel
theorem dd_M_find_117 : decode b_M_find 117 = .ok (.if_icmp .ge 18, 3) := by decide +kernel
theorem dd_M_find_120 : decode b_M_find 120 = .ok (.aload_n 0, 1) := by decide +kernel
theorem dd_M_find_121 : decode b_M_find 121 = .ok (.iload 4, 2) := by decide +kernel
theorem dd_M_find_123 : decode b_M_find 123 = .ok (.invokevirtual 110, 3) := by decide +kernel
theorem dd_M_find_126 : decode b_M_find 126 = .ok (.ifCond .eq 9, 3) := by decide +kernel
theorem dd_M_find_129 : decode b_M_find 129 = .ok (.iinc 4 1, 3) := by decide +kernel
theorem dd_M_find_132 : decode b_M_find 132 = .ok (.goto (-18), 3) := by decide +kernel
theorem dd_M_find_135 : decode b_M_find 135 = .ok (.iload 4, 2) := by decide +kernel
theorem dd_M_find_137 : decode b_M_find 137 = .ok (.iload_n 3, 1) := by decide +kernel
theorem dd_M_find_138 : decode b_M_find 138 = .ok (.if_icmp .ge 18, 3) := by decide +kernel
theorem dd_M_find_141 : decode b_M_find 141 = .ok (.aload_n 0, 1) := by decide +kernel
theorem dd_M_find_142 : decode b_M_find 142 = .ok (.iload 4, 2) := by decide +kernel
theorem dd_M_find_144 : decode b_M_find 144 = .ok (.invokevirtual 110, 3) := by decide +kernel
theorem dd_M_find_147 : decode b_M_find 147 = .ok (.ifCond .ne 9, 3) := by decide +kernel
theorem dd_M_find_150 : decode b_M_find 150 = .ok (.iinc 4 1, 3) := by decide +kernel
theorem dd_M_find_153 : decode b_M_find 153 = .ok (.goto (-18), 3) := by decide +kernel
theorem dd_M_find_156 : decode b_M_find 156 = .ok (.aload_n 0, 1) := by decide +kernel
theorem dd_M_find_157 : decode b_M_find 157 = .ok (.iload 4, 2) := by decide +kernel
theorem dd_M_find_159 : decode b_M_find 159 = .ok (.putfield 107, 3) := by decide +kernel
theorem dd_M_find_162 : decode b_M_find 162 = .ok (.iload 4, 2) := by decide +kernel
theorem dd_M_find_164 : decode b_M_find 164 = .ok (.iload_n 3, 1) := by decide +kernel
theorem dd_M_find_165 : decode b_M_find 165 = .ok (.if_icmp .ge 7, 3) := by decide +kernel
theorem dd_M_find_168 : decode b_M_find 168 = .ok (.iconst 1, 1) := by decide +kernel
theorem dd_M_find_169 : decode b_M_find 169 = .ok (.goto 4, 3) := by decide +kernel
theorem dd_M_find_172 : decode b_M_find 172 = .ok (.iconst 0, 1) := by decide +kernel
theorem dd_M_find_173 : decode b_M_find 173 = .ok (.istore 6, 2) := by decide +kernel
theorem dd_M_find_175 : decode b_M_find 175 = .ok (.iload 5, 2) := by decide +kernel
theorem dd_M_find_177 : decode b_M_find 177 = .ok (.iload_n 2, 1) := by decide +kernel
theorem dd_M_find_178 : decode b_M_find 178 = .ok (.if_icmp .ne (-141), 3) := by decide +kernel
theorem dd_M_find_181 : decode b_M_find 181 = .ok (.iconst 1, 1) := by decide +kernel
theorem dd_M_find_182 : decode b_M_find 182 = .ok (.ireturn, 1) := by decide +kernel
theorem dd_M_find_183 : decode b_M_find 183 = .ok (.iconst 0, 1) := by decide +kernel
theorem dd_M_find_184 : decode b_M_find 184 = .ok (.ireturn, 1) := by decide +kernel
theorem dd_M_begin_0 : decode b_M_begin 0 = .ok (.aload_n 0, 1) := by decide +kernel
theorem dd_M_begin_1 : decode b_M_begin 1 = .ok (.getfield 17, 3) := by decide +kernel
theorem dd_M_begin_4 : decode b_M_begin 4 = .ok (.iconst (-1), 1) := by decide +kernel
theorem dd_M_begin_5 : decode b_M_begin 5 = .ok (.if_icmp .eq 10, 3) := by decide +kernel
theorem dd_M_begin_8 : decode b_M_begin 8 = .ok (.aload_n 0, 1) := by decide +kernel
theorem dd_M_begin_9 : decode b_M_begin 9 = .ok (.getfield 107, 3) := by decide +kernel
theorem dd_M_begin_12 : decode b_M_begin 12 = .ok (.goto 8, 3) := by decide +kernel
theorem dd_M_begin_15 : decode b_M_begin 15 = .ok (.aload_n 0, 1) := by decide +kernel
theorem dd_M_begin_16 : decode b_M_begin 16 = .ok (.iload_n 1, 1) := by decide +kernel
theorem dd_M_begin_17 : decode b_M_begin 17 = .ok (.invokevirtual 97, 3) := by decide +kernel
theorem dd_M_begin_20 : decode b_M_begin 20 = .ok (.istore_n 3, 1) := by decide +kernel
theorem dd_M_begin_21 : decode b_M_begin 21 = .ok (.aload_n 0, 1) := by decide +kernel
theorem dd_M_begin_22 : decode b_M_begin 22 = .ok (.getfield 104, 3) := by decide +kernel
theorem dd_M_begin_25 : decode b_M_begin 25 = .ok (.istore 4, 2) := by decide +kernel
theorem dd_M_begin_27 : decode b_M_begin 27 = .ok (.iload_n 2, 1) := by decide +kernel
theorem dd_M_begin_28 : decode b_M_begin 28 = .ok (.ifCond .eq 24, 3) := by decide +kernel
theorem dd_M_begin_31 : decode b_M_begin 31 = .ok (.iload 4, 2) := by decide +kernel
theorem dd_M_begin_33 : decode b_M_begin 33 = .ok (.iload_n 3, 1) := by decide +kernel
theorem dd_M_begin_34 : decode b_M_begin 34 = .ok (.if_icmp .ge 18, 3) := by decide +kernel
theorem dd_M_begin_37 : decode b_M_begin 37 = .ok (.aload_n 0, 1) := by decide +kernel
theorem dd_M_begin_38 : decode b_M_begin 38 = .ok (.iload 4, 2) := by decide +kernel
theorem dd_M_begin_40 : decode b_M_begin 40 = .ok (.invokevirtual 110, 3) := by decide +kernel
theorem dd_M_begin_43 : decode b_M_begin 43 = .ok (.ifCond .eq 9, 3) := by decide +kernel
theorem dd_M_begin_46 : decode b_M_begin 46 = .ok (.iinc 4 1, 3) := by decide +kernel
theorem dd_M_begin_49 : decode b_M_begin 49 = .ok (.goto (-22), 3) := by decide +kernel
theorem dd_M_begin_52 : decode b_M_begin 52 = .ok (.iload 4, 2) := by decide +kernel
theorem dd_M_begin_54 : decode b_M_begin 54 = .ok (.ireturn, 1) := by decide +kernel
theorem dd_M_keyBegin_0 : decode b_M_keyBegin 0 = .ok (.aload_n 0, 1) := by decide +kernel
theorem dd_M_keyBegin_1 : decode b_M_keyBegin 1 = .ok (.iload_n 1, 1) := by decide +kernel
theorem dd_M_keyBegin_2 : decode b_M_keyBegin 2 = .ok (.invokevirtual 97, 3) := by decide +kernel
theorem dd_M_keyBegin_5 : decode b_M_keyBegin 5 = .ok (.istore_n 3, 1) := by decide +kernel
theorem dd_M_keyBegin_6 : decode b_M_keyBegin 6 = .ok (.aload_n 0, 1) := by decide +kernel
theorem dd_M_keyBegin_7 : decode b_M_keyBegin 7 = .ok (.iload_n 1, 1) := by decide +kernel
theorem dd_M_keyBegin_8 : decode b_M_keyBegin 8 = .ok (.aload_n 0, 1) := by decide +kernel
theorem dd_M_keyBegin_9 : decode b_M_keyBegin 9 = .ok (.iload_n 2, 1) := by decide +kernel
theorem dd_M_keyBegin_10 : decode b_M_keyBegin 10 = .ok (.iconst 0, 1) := by decide +kernel
theorem dd_M_keyBegin_11 : decode b_M_keyBegin 11 = .ok (.invokevirtual 114, 3) := by decide +kernel
theorem dd_M_keyBegin_14 : decode b_M_keyBegin 14 = .ok (.invokevirtual 118, 3) := by decide +kernel
theorem dd_M_keyBegin_17 : decode b_M_keyBegin 17 = .ok (.ifCond .ne 5, 3) := by decide +kernel
theorem dd_M_keyBegin_20 : decode b_M_keyBegin 20 = .ok (.iload_n 3, 1) := by decide +kernel
theorem dd_M_keyBegin_21 : decode b_M_keyBegin 21 = .ok (.ireturn, 1) := by decide +kernel
theorem dd_M_keyBegin_22 : decode b_M_keyBegin 22 = .ok (.aload_n 0, 1) := by decide +kernel
theorem dd_M_keyBegin_23 : decode b_M_keyBegin 23 = .ok (.iload_n 1, 1) := by decide +kernel
theorem dd_M_keyBegin_24 : decode b_M_keyBegin 24 = .ok (.aload_n 0, 1) := by decide +kernel
theorem dd_M_keyBegin_25 : decode b_M_keyBegin 25 = .ok (.iload_n 2, 1) := by decide +kernel
theorem dd_M_keyBegin_26 : decode b_M_keyBegin 26 = .ok (.iconst 4, 1) := by decide +kernel
theorem dd_M_keyBegin_27 : decode b_M_keyBegin 27 = .ok (.invokevirtual 114, 3) := by decide +kernel
theorem dd_M_keyBegin_30 : decode b_M_keyBegin 30 = .ok (.iconst 1, 1) := by decide +kernel
theorem dd_M_keyBegin_31 : decode b_M_keyBegin 31 = .ok (.iand, 1) := by decide +kernel
theorem dd_M_keyBegin_32 : decode b_M_keyBegin 32 = .ok (.ifCond .le 7, 3) := by decide +kernel
theorem dd_M_keyBegin_35 : decode b_M_keyBegin 35 = .ok (.iconst 1, 1) := by decide +kernel
theorem dd_M_keyBegin_36 : decode b_M_keyBegin 36 = .ok (.goto 4, 3) := by decide +kernel
theorem dd_M_keyBegin_39 : decode b_M_keyBegin 39 = .ok (.iconst 0, 1) := by decide +kernel
theorem dd_M_keyBegin_40 : decode b_M_keyBegin 40 = .ok (.invokevirtual 122, 3) := by decide +kernel
theorem dd_M_keyBegin_43 : decode b_M_keyBegin 43 = .ok (.aload_n 0, 1) := by decide +kernel
theorem dd_M_keyBegin_44 : decode b_M_keyBegin 44 = .ok (.iload_n 2, 1) := by decide +kernel
theorem dd_M_keyBegin_45 : decode b_M_keyBegin 45 = .ok (.iconst 1, 1) := by decide +kernel
theorem dd_M_keyBegin_46 : decode b_M_keyBegin 46 = .ok (.invokevirtual 114, 3) := by decide +kernel
theorem dd_M_keyBegin_49 : decode b_M_keyBegin 49 = .ok (.iadd, 1) := by decide +kernel
theorem dd_M_keyBegin_50 : decode b_M_keyBegin 50 = .ok (.iconst 1, 1) := by decide +kernel
theorem dd_M_keyBegin_51 : decode b_M_keyBegin 51 = .ok (.isub, 1) := by decide +kernel
theorem dd_M_keyBegin_52 : decode b_M_keyBegin 52 = .ok (.istore 4, 2) := by decide +kernel
theorem dd_M_keyBegin_54 : decode b_M_keyBegin 54 = .ok (.iload 4, 2) := by decide +kernel
theorem dd_M_keyBegin_56 : decode b_M_keyBegin 56 = .ok (.iload_n 3, 1) := by decide +kernel
theorem dd_M_keyBegin_57 : decode b_M_keyBegin 57 = .ok (.if_icmp .ge 8, 3) := by decide +kernel
theorem dd_M_keyBegin_60 : decode b_M_keyBegin 60 = .ok (.iload 4, 2) := by decide +kernel
theorem dd_M_keyBegin_62 : decode b_M_keyBegin 62 = .ok (.goto 4, 3) := by decide +kernel
theorem dd_M_keyBegin_65 : decode b_M_keyBegin 65 = .ok (.iload_n 3, 1) := by decide +kernel
theorem dd_M_keyBegin_66 : decode b_M_keyBegin 66 = .ok (.ireturn, 1) := by decide +kernel
theorem dd_M_keyEnd_0 : decode b_M_keyEnd 0 = .ok (.aload_n 0, 1) := by decide +kernel
theorem dd_M_keyEnd_1 : decode b_M_keyEnd 1 = .ok (.iload_n 1, 1) := by decide +kernel
theorem dd_M_keyEnd_2 : decode b_M_keyEnd 2 = .ok (.invokevirtual 97, 3) := by decide +kernel
theorem dd_M_keyEnd_5 : decode b_M_keyEnd 5 = .ok (.istore_n 3, 1) := by decide +kernel
theorem dd_M_keyEnd_6 : decode b_M_keyEnd 6 = .ok (.aload_n 0, 1) := by decide +kernel
theorem dd_M_keyEnd_7 : decode b_M_keyEnd 7 = .ok (.iload_n 2, 1) := by decide +kernel
theorem dd_M_keyEnd_8 : decode b_M_keyEnd 8 = .ok (.iconst 2, 1) := by decide +kernel
theorem dd_M_keyEnd_9 : decode b_M_keyEnd 9 = .ok (.invokevirtual 114, 3) := by decide +kernel
theorem dd_M_keyEnd_12 : decode b_M_keyEnd 12 = .ok (.istore 4, 2) := by decide +kernel
theorem dd_M_keyEnd_14 : decode b_M_keyEnd 14 = .ok (.iload 4, 2) := by decide +kernel
theorem dd_M_keyEnd_16 : decode b_M_keyEnd 16 = .ok (.ifCond .eq 13, 3) := by decide +kernel
theorem dd_M_keyEnd_19 : decode b_M_keyEnd 19 = .ok (.aload_n 0, 1) := by decide +kernel
theorem dd_M_keyEnd_20 : decode b_M_keyEnd 20 = .ok (.iload_n 1, 1) := by decide +kernel
theorem dd_M_keyEnd_21 : decode b_M_keyEnd 21 = .ok (.iload 4, 2) := by decide +kernel
theorem dd_M_keyEnd_23 : decode b_M_keyEnd 23 = .ok (.invokevirtual 118, 3) := by decide +kernel
theorem dd_M_keyEnd_26 : decode b_M_keyEnd 26 = .ok (.ifCond .ne 5, 3) := by decide +kernel
theorem dd_M_keyEnd_29 : decode b_M_keyEnd 29 = .ok (.iload_n 3, 1) := by decide +kernel
theorem dd_M_keyEnd_30 : decode b_M_keyEnd 30 = .ok (.ireturn, 1) := by decide +kernel
theorem dd_M_keyEnd_31 : decode b_M_keyEnd 31 = .ok (.aload_n 0, 1) := by decide +kernel
theorem dd_M_keyEnd_32 : decode b_M_keyEnd 32 = .ok (.iload_n 2, 1) := by decide +kernel
theorem dd_M_keyEnd_33 : decode b_M_keyEnd 33 = .ok (.iconst 3, 1) := by decide +kernel
theorem dd_M_keyEnd_34 : decode b_M_keyEnd 34 = .ok (.invokevirtual 114, 3) := by decide +kernel
theorem dd_M_keyEnd_37 : decode b_M_keyEnd 37 = .ok (.ifCond .ne 8, 3) := by decide +kernel
theorem dd_M_keyEnd_40 : decode b_M_keyEnd 40 = .ok (.aload_n 0, 1) := by decide +kernel
theorem dd_M_keyEnd_41 : decode b_M_keyEnd 41 = .ok (.getfield 107, 3) := by decide +kernel
theorem dd_M_keyEnd_44 : decode b_M_keyEnd 44 = .ok (.ireturn, 1) := by decide +kernel
theorem dd_M_keyEnd_45 : decode b_M_keyEnd 45 = .ok (.aload_n 0, 1) := by decide +kernel
theorem dd_M_keyEnd_46 : decode b_M_keyEnd 46 = .ok (.iload_n 1, 1) := by decide +kernel
theorem dd_M_keyEnd_47 : decode b_M_keyEnd 47 = .ok (.aload_n 0, 1) := by decide +kernel
theorem dd_M_keyEnd_48 : decode b_M_keyEnd 48 = .ok (.iload_n 2, 1) := by decide +kernel
theorem dd_M_keyEnd_49 : decode b_M_keyEnd 49 = .ok (.iconst 4, 1) := by decide +kernel
theorem dd_M_keyEnd_50 : decode b_M_keyEnd 50 = .ok (.invokevirtual 114, 3) := by decide +kernel
theorem dd_M_keyEnd_53 : decode b_M_keyEnd 53 = .ok (.bipush 64, 2) := by decide +kernel
theorem dd_M_keyEnd_55 : decode b_M_keyEnd 55 = .ok (.iand, 1) := by decide +kernel
theorem dd_M_keyEnd_56 : decode b_M_keyEnd 56 = .ok (.ifCond .le 7, 3) := by decide +kernel
theorem dd_M_keyEnd_59 : decode b_M_keyEnd 59 = .ok (.iconst 1, 1) := by decide +kernel
theorem dd_M_keyEnd_60 : decode b_M_keyEnd 60 = .ok (.goto 4, 3) := by decide +kernel
theorem dd_M_keyEnd_63 : decode b_M_keyEnd 63 = .ok (.iconst 0, 1) := by decide +kernel
theorem dd_M_keyEnd_64 : decode b_M_keyEnd 64 = .ok (.invokevirtual 122, 3) := by decide +kernel
theorem dd_M_keyEnd_67 : decode b_M_keyEnd 67 = .ok (.aload_n 0, 1) := by decide +kernel
theorem dd_M_keyEnd_68 : decode b_M_keyEnd 68 = .ok (.iload_n 2, 1) := by decide +kernel
theorem dd_M_keyEnd_69 : decode b_M_keyEnd 69 = .ok (.iconst 3, 1) := by decide +kernel
theorem dd_M_keyEnd_70 : decode b_M_keyEnd 70 = .ok (.invokevirtual 114, 3) := by decide +kernel
theorem dd_M_keyEnd_73 : decode b_M_keyEnd 73 = .ok (.iadd, 1) := by decide +kernel
theorem dd_M_keyEnd_74 : decode b_M_keyEnd 74 = .ok (.istore 5, 2) := by decide +kernel
theorem dd_M_keyEnd_76 : decode b_M_keyEnd 76 = .ok (.iload 5, 2) := by decide +kernel
theorem dd_M_keyEnd_78 : decode b_M_keyEnd 78 = .ok (.iload_n 3, 1) := by decide +kernel
theorem dd_M_keyEnd_79 : decode b_M_keyEnd 79 = .ok (.if_icmp .ge 8, 3) := by decide +kernel
theorem dd_M_keyEnd_82 : decode b_M_keyEnd 82 = .ok (.iload 5, 2) := by decide +kernel
theorem dd_M_keyEnd_84 : decode b_M_keyEnd 84 = .ok (.goto 4, 3) := by decide +kernel
theorem dd_M_keyEnd_87 : decode b_M_keyEnd 87 = .ok (.iload_n 3, 1) := by decide +kernel
theorem dd_M_keyEnd_88 : decode b_M_keyEnd 88 = .ok (.ireturn, 1) := by decide +kernel
