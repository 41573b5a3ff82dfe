theorem dd_S_merge_0 : decode b_S_merge 0 = .ok (.iload_n 1, 1) := by decide +kernel
theorem dd_S_merge_1 : decode b_S_merge 1 = .ok (.iconst 1, 1) := by decide +kernel
theorem dd_S_merge_2 : decode b_S_merge 2 = .ok (.if_icmp .ge 13, 3) := by decide +kernel
theorem dd_S_merge_5 : decode b_S_merge 5 = .ok (.new 91, 3) := by decide +kernel
theorem dd_S_merge_8 : decode b_S_merge 8 = .ok (.dup, 1) := by decide +kernel
theorem dd_S_merge_9 : decode b_S_merge 9 = .ok (.ldc 202, 2) := by decide +kernel
theorem dd_S_merge_11 : decode b_S_merge 11 = .ok (.invokespecial 95, 3) := by decide +kernel
theorem dd_S_merge_14 : decode b_S_merge 14 = .ok (.athrow, 1) := by decide +kernel
theorem dd_S_merge_15 : decode b_S_merge 15 = .ok (.aload_n 0, 1) := by decide +kernel
theorem dd_S_merge_16 : decode b_S_merge 16 = .ok (.getfield 10, 3) := by decide +kernel
theorem dd_S_merge_19 : decode b_S_merge 19 = .ok (.invokevirtual 137, 3) := by decide +kernel
theorem dd_S_merge_22 : decode b_S_merge 22 = .ok (.istore_n 2, 1) := by decide +kernel
theorem dd_S_merge_23 : decode b_S_merge 23 = .ok (.iload_n 2, 1) := by decide +kernel
theorem dd_S_merge_24 : decode b_S_merge 24 = .ok (.sipush 1000, 3) := by decide +kernel
theorem dd_S_merge_27 : decode b_S_merge 27 = .ok (.if_icmp .le 13, 3) := by decide +kernel
theorem dd_S_merge_30 : decode b_S_merge 30 = .ok (.new 121, 3) := by decide +kernel
theorem dd_S_merge_33 : decode b_S_merge 33 = .ok (.dup, 1) := by decide +kernel
theorem dd_S_merge_34 : decode b_S_merge 34 = .ok (.ldc 178, 2) := by decide +kernel
theorem dd_S_merge_36 : decode b_S_merge 36 = .ok (.invokespecial 125, 3) := by decide +kernel
theorem dd_S_merge_39 : decode b_S_merge 39 = .ok (.athrow, 1) := by decide +kernel
theorem dd_S_merge_40 : decode b_S_merge 40 = .ok (.aload_n 0, 1) := by decide +kernel
theorem dd_S_merge_41 : decode b_S_merge 41 = .ok (.getfield 39, 3) := by decide +kernel
theorem dd_S_merge_44 : decode b_S_merge 44 = .ok (.iload_n 2, 1) := by decide +kernel
theorem dd_S_merge_45 : decode b_S_merge 45 = .ok (.invokevirtual 180, 3) := by decide +kernel
theorem dd_S_merge_48 : decode b_S_merge 48 = .ok (.aload_n 0, 1) := by decide +kernel
theorem dd_S_merge_49 : decode b_S_merge 49 = .ok (.getfield 46, 3) := by decide +kernel
theorem dd_S_merge_52 : decode b_S_merge 52 = .ok (.invokevirtual 204, 3) := by decide +kernel
theorem dd_S_merge_55 : decode b_S_merge 55 = .ok (.iconst 0, 1) := by decide +kernel
theorem dd_S_merge_56 : decode b_S_merge 56 = .ok (.istore_n 3, 1) := by decide +kernel
theorem dd_S_merge_57 : decode b_S_merge 57 = .ok (.iload_n 3, 1) := by decide +kernel
theorem dd_S_merge_58 : decode b_S_merge 58 = .ok (.iload_n 2, 1) := by decide +kernel
theorem dd_S_merge_59 : decode b_S_merge 59 = .ok (.if_icmp .ge 30, 3) := by decide +kernel
theorem dd_S_merge_62 : decode b_S_merge 62 = .ok (.iload_n 3, 1) := by decide +kernel
theorem dd_S_merge_63 : decode b_S_merge 63 = .ok (.iload_n 1, 1) := by decide +kernel
theorem dd_S_merge_64 : decode b_S_merge 64 = .ok (.irem, 1) := by decide +kernel
theorem dd_S_merge_65 : decode b_S_merge 65 = .ok (.ifCond .ne 18, 3) := by decide +kernel
theorem dd_S_merge_68 : decode b_S_merge 68 = .ok (.aload_n 0, 1) := by decide +kernel
theorem dd_S_merge_69 : decode b_S_merge 69 = .ok (.getfield 46, 3) := by decide +kernel
theorem dd_S_merge_72 : decode b_S_merge 72 = .ok (.aload_n 0, 1) := by decide +kernel
theorem dd_S_merge_73 : decode b_S_merge 73 = .ok (.getfield 39, 3) := by decide +kernel
theorem dd_S_merge_76 : decode b_S_merge 76 = .ok (.iload_n 3, 1) := by decide +kernel
theorem dd_S_merge_77 : decode b_S_merge 77 = .ok (.invokevirtual 207, 3) := by decide +kernel
theorem dd_S_merge_80 : decode b_S_merge 80 = .ok (.invokevirtual 210, 3) := by decide +kernel
theorem dd_S_merge_83 : decode b_S_merge 83 = .ok (.iinc 3 1, 3) := by decide +kernel
theorem dd_S_merge_86 : decode b_S_merge 86 = .ok (.goto (-29), 3) := by decide +kernel
theorem dd_S_merge_89 : decode b_S_merge 89 = .ok (.aload_n 0, 1) := by decide +kernel
theorem dd_S_merge_90 : decode b_S_merge 90 = .ok (.iconst 0, 1) := by decide +kernel
theorem dd_S_merge_91 : decode b_S_merge 91 = .ok (.putfield 63, 3) := by decide +kernel
theorem dd_S_merge_94 : decode b_S_merge 94 = .ok (.iconst 0, 1) := by decide +kernel
theorem dd_S_merge_95 : decode b_S_merge 95 = .ok (.istore_n 3, 1) := by decide +kernel
theorem dd_S_merge_96 : decode b_S_merge 96 = .ok (.iload_n 3, 1) := by decide +kernel
theorem dd_S_merge_97 : decode b_S_merge 97 = .ok (.iload_n 2, 1) := by decide +kernel
theorem dd_S_merge_98 : decode b_S_merge 98 = .ok (.if_icmp .ge 66, 3) := by decide +kernel
theorem dd_S_merge_101 : decode b_S_merge 101 = .ok (.aload_n 0, 1) := by decide +kernel
theorem dd_S_merge_102 : decode b_S_merge 102 = .ok (.getfield 39, 3) := by decide +kernel
theorem dd_S_merge_105 : decode b_S_merge 105 = .ok (.aload_n 0, 1) := by decide +kernel
theorem dd_S_merge_106 : decode b_S_merge 106 = .ok (.getfield 46, 3) := by decide +kernel
theorem dd_S_merge_109 : decode b_S_merge 109 = .ok (.invokevirtual 213, 3) := by decide +kernel
theorem dd_S_merge_112 : decode b_S_merge 112 = .ok (.invokevirtual 190, 3) := by decide +kernel
theorem dd_S_merge_115 : decode b_S_merge 115 = .ok (.istore 4, 2) := by decide +kernel
theorem dd_S_merge_117 : decode b_S_merge 117 = .ok (.aload_n 0, 1) := by decide +kernel
theorem dd_S_merge_118 : decode b_S_merge 118 = .ok (.iload 4, 2) := by decide +kernel
theorem dd_S_merge_120 : decode b_S_merge 120 = .ok (.invokevirtual 193, 3) := by decide +kernel
theorem dd_S_merge_123 : decode b_S_merge 123 = .ok (.iload 4, 2) := by decide +kernel
theorem dd_S_merge_125 : decode b_S_merge 125 = .ok (.iconst 1, 1) := by decide +kernel
theorem dd_S_merge_126 : decode b_S_merge 126 = .ok (.iadd, 1) := by decide +kernel
theorem dd_S_merge_127 : decode b_S_merge 127 = .ok (.istore 5, 2) := by decide +kernel
theorem dd_S_merge_129 : decode b_S_merge 129 = .ok (.iload 5, 2) := by decide +kernel
theorem dd_S_merge_131 : decode b_S_merge 131 = .ok (.iload_n 2, 1) := by decide +kernel
theorem dd_S_merge_132 : decode b_S_merge 132 = .ok (.if_icmp .ge 26, 3) := by decide +kernel
theorem dd_S_merge_135 : decode b_S_merge 135 = .ok (.iload 5, 2) := by decide +kernel
theorem dd_S_merge_137 : decode b_S_merge 137 = .ok (.iload_n 1, 1) := by decide +kernel
theorem dd_S_merge_138 : decode b_S_merge 138 = .ok (.irem, 1) := by decide +kernel
theorem dd_S_merge_139 : decode b_S_merge 139 = .ok (.ifCond .eq 19, 3) := by decide +kernel
theorem dd_S_merge_142 : decode b_S_merge 142 = .ok (.aload_n 0, 1) := by decide +kernel
theorem dd_S_merge_143 : decode b_S_merge 143 = .ok (.getfield 46, 3) := by decide +kernel
theorem dd_S_merge_146 : decode b_S_merge 146 = .ok (.aload_n 0, 1) := by decide +kernel
theorem dd_S_merge_147 : decode b_S_merge 147 = .ok (.getfield 39, 3) := by decide +kernel
theorem dd_S_merge_150 : decode b_S_merge 150 = .ok (.iload 5, 2) := by decide +kernel
theorem dd_S_merge_152 : decode b_S_merge 152 = .ok (.invokevirtual 207, 3) := by decide +kernel
theorem dd_S_merge_155 : decode b_S_merge 155 = .ok (.invokevirtual 210, 3) := by decide +kernel
theorem dd_S_merge_158 : decode b_S_merge 158 = .ok (.iinc 3 1, 3) := by decide +kernel
theorem dd_S_merge_161 : decode b_S_merge 161 = .ok (.goto (-65), 3) := by decide +kernel
theorem dd_S_merge_164 : decode b_S_merge 164 = .ok (.aload_n 0, 1) := by decide +kernel
theorem dd_S_merge_165 : decode b_S_merge 165 = .ok (.getfield 63, 3) := by decide +kernel
theorem dd_S_merge_168 : decode b_S_merge 168 = .ok (.ireturn, 1) := by decide +kernel
theorem dd_S_result_0 : decode b_S_result 0 = .ok (.iload_n 1, 1) := by decide +kernel
theorem dd_S_result_1 : decode b_S_result 1 = .ok (.iconst 0, 1) := by decide +kernel
theorem dd_S_result_2 : decode b_S_result 2 = .ok (.aload_n 0, 1) := by decide +kernel
theorem dd_S_result_3 : decode b_S_result 3 = .ok (.getfield 63, 3) := by decide +kernel
theorem dd_S_result_6 : decode b_S_result 6 = .ok (.iconst 1, 1) := by decide +kernel
theorem dd_S_result_7 : decode b_S_result 7 = .ok (.isub, 1) := by decide +kernel
theorem dd_S_result_8 : decode b_S_result 8 = .ok (.invokestatic 87, 3) := by decide +kernel
theorem dd_S_result_11 : decode b_S_result 11 = .ok (.ifCond .eq 12, 3) := by decide +kernel
theorem dd_S_result_14 : decode b_S_result 14 = .ok (.aload_n 0, 1) := by decide +kernel
theorem dd_S_result_15 : decode b_S_result 15 = .ok (.getfield 59, 3) := by decide +kernel
theorem dd_S_result_18 : decode b_S_result 18 = .ok (.iload_n 1, 1) := by decide +kernel
theorem dd_S_result_19 : decode b_S_result 19 = .ok (.iaload, 1) := by decide +kernel
theorem dd_S_result_20 : decode b_S_result 20 = .ok (.goto 4, 3) := by decide +kernel
theorem dd_S_result_23 : decode b_S_result 23 = .ok (.iconst (-1), 1) := by decide +kernel
theorem dd_S_result_24 : decode b_S_result 24 = .ok (.ireturn, 1) := by decide +kernel
theorem dd_S_byteAt_0 : decode b_S_byteAt 0 = .ok (.iload_n 1, 1) := by decide +kernel
theorem dd_S_byteAt_1 : decode b_S_byteAt 1 = .ok (.iconst 0, 1) := by decide +kernel
theorem dd_S_byteAt_2 : decode b_S_byteAt 2 = .ok (.aload_n 0, 1) := by decide +kernel
theorem dd_S_byteAt_3 : decode b_S_byteAt 3 = .ok (.getfield 63, 3) := by decide +kernel
theorem dd_S_byteAt_6 : decode b_S_byteAt 6 = .ok (.iconst 1, 1) := by decide +kernel
theorem dd_S_byteAt_7 : decode b_S_byteAt 7 = .ok (.isub, 1) := by decide +kernel
theorem dd_S_byteAt_8 : decode b_S_byteAt 8 = .ok (.invokestatic 87, 3) := by decide +kernel
theorem dd_S_byteAt_11 : decode b_S_byteAt 11 = .ok (.ifCond .ne 5, 3) := by decide +kernel
theorem dd_S_byteAt_14 : decode b_S_byteAt 14 = .ok (.iconst (-1), 1) := by decide +kernel
theorem dd_S_byteAt_15 : decode b_S_byteAt 15 = .ok (.ireturn, 1) := by decide +kernel
theorem dd_S_byteAt_16 : decode b_S_byteAt 16 = .ok (.aload_n 0, 1) := by decide +kernel
theorem dd_S_byteAt_17 : decode b_S_byteAt 17 = .ok (.getfield 10, 3) := by decide +kernel
theorem dd_S_byteAt_20 : decode b_S_byteAt 20 = .ok (.aload_n 0, 1) := by decide +kernel
theorem dd_S_byteAt_21 : decode b_S_byteAt 21 = .ok (.getfield 59, 3) := by decide +kernel
theorem dd_S_byteAt_24 : decode b_S_byteAt 24 = .ok (.iload_n 1, 1) := by decide +kernel
theorem dd_S_byteAt_25 : decode b_S_byteAt 25 = .ok (.iaload, 1) := by decide +kernel
theorem dd_S_byteAt_26 : decode b_S_byteAt 26 = .ok (.invokevirtual 168, 3) := by decide +kernel
theorem dd_S_byteAt_29 : decode b_S_byteAt 29 = .ok (.istore_n 3, 1) := by decide +kernel
theorem dd_S_byteAt_30 : decode b_S_byteAt 30 = .ok (.aload_n 0, 1) := by decide +kernel
theorem dd_S_byteAt_31 : decode b_S_byteAt 31 = .ok (.getfield 10, 3) := by decide +kernel
theorem dd_S_byteAt_34 : decode b_S_byteAt 34 = .ok (.aload_n 0, 1) := by decide +kernel
theorem dd_S_byteAt_35 : decode b_S_byteAt 35 = .ok (.getfield 59, 3) := by decide +kernel
theorem dd_S_byteAt_38 : decode b_S_byteAt 38 = .ok (.iload_n 1, 1) := by decide +kernel
theorem dd_S_byteAt_39 : decode b_S_byteAt 39 = .ok (.iaload, 1) := by decide +kernel
theorem dd_S_byteAt_40 : decode b_S_byteAt 40 = .ok (.invokevirtual 216, 3) := by decide +kernel
theorem dd_S_byteAt_43 : decode b_S_byteAt 43 = .ok (.iload_n 3, 1) := by decide +kernel
theorem dd_S_byteAt_44 : decode b_S_byteAt 44 = .ok (.isub, 1) := by decide +kernel
theorem dd_S_byteAt_45 : decode b_S_byteAt 45 = .ok (.istore 4, 2) := by decide +kernel
theorem dd_S_byteAt_47 : decode b_S_byteAt 47 = .ok (.iload_n 2, 1) := by decide +kernel
theorem dd_S_byteAt_48 : decode b_S_byteAt 48 = .ok (.iconst 0, 1) := by decide +kernel
theorem dd_S_byteAt_49 : decode b_S_byteAt 49 = .ok (.iload 4, 2) := by decide +kernel
theorem dd_S_byteAt_51 : decode b_S_byteAt 51 = .ok (.iconst 1, 1) := by decide +kernel
theorem dd_S_byteAt_52 : decode b_S_byteAt 52 = .ok (.isub, 1) := by decide +kernel
theorem dd_S_byteAt_53 : decode b_S_byteAt 53 = .ok (.invokestatic 87, 3) := by decide +kernel
theorem dd_S_byteAt_56 : decode b_S_byteAt 56 = .ok (.ifCond .eq 16, 3) := by decide +kernel
theorem dd_S_byteAt_59 : decode b_S_byteAt 59 = .ok (.aload_n 0, 1) := by decide +kernel
theorem dd_S_byteAt_60 : decode b_S_byteAt 60 = .ok (.getfield 10, 3) := by decide +kernel
theorem dd_S_byteAt_63 : decode b_S_byteAt 63 = .ok (.iload_n 3, 1) := by decide +kernel
theorem dd_S_byteAt_64 : decode b_S_byteAt 64 = .ok (.iload_n 2, 1) := by decide +kernel
theorem dd_S_byteAt_65 : decode b_S_byteAt 65 = .ok (.iadd, 1) := by decide +kernel
theorem dd_S_byteAt_66 : decode b_S_byteAt 66 = .ok (.invokevirtual 219, 3) := by decide +kernel
theorem dd_S_byteAt_69 : decode b_S_byteAt 69 = .ok (.goto 4, 3) := by decide +kernel
theorem dd_S_byteAt_72 : decode b_S_byteAt 72 = .ok (.iconst (-1), 1) := by decide +kernel
theorem dd_S_byteAt_73 : decode b_S_byteAt 73 = .ok (.ireturn, 1) := by decide +kernel
theorem dd_S_run_0 : decode b_S_run 0 = .ok (.iload_n 1, 1) := by decide +kernel
theorem dd_S_run_1 : decode b_S_run 1 = .ok (.iconst 0, 1) := by decide +kernel
theorem dd_S_run_2 : decode b_S_run 2 = .ok (.aload_n 0, 1) := by decide +kernel
theorem dd_S_run_3 : decode b_S_run 3 = .ok (.getfield 55, 3) := by decide +kernel
theorem dd_S_run_6 : decode b_S_run 6 = .ok (.getfield 222, 3) := by decide +kernel
theorem dd_S_run_9 : decode b_S_run 9 = .ok (.iconst 1, 1) := by decide +kernel
theorem dd_S_run_10 : decode b_S_run 10 = .ok (.isub, 1) := by decide +kernel
theorem dd_S_run_11 : decode b_S_run 11 = .ok (.invokestatic 87, 3) := by decide +kernel
theorem dd_S_run_14 : decode b_S_run 14 = .ok (.ifCond .eq 15, 3) := by decide +kernel
theorem dd_S_run_17 : decode b_S_run 17 = .ok (.aload_n 0, 1) := by decide +kernel
theorem dd_S_run_18 : decode b_S_run 18 = .ok (.getfield 55, 3) := by decide +kernel
theorem dd_S_run_21 : decode b_S_run 21 = .ok (.getfield 225, 3) := by decide +kernel
theorem dd_S_run_24 : decode b_S_run 24 = .ok (.iload_n 1, 1) := by decide +kernel
theorem dd_S_run_25 : decode b_S_run 25 = .ok (.iaload, 1) := by decide +kernel
theorem dd_S_run_26 : decode b_S_run 26 = .ok (.goto 4, 3) := by decide +kernel
theorem dd_S_run_29 : decode b_S_run 29 = .ok (.iconst (-1), 1) := by decide +kernel
theorem dd_S_run_30 : decode b_S_run 30 = .ok (.ireturn, 1) := by decide +kernel
theorem dd_S_about_0 : decode b_S_about 0 = .ok (.iload_n 1, 1) := by decide +kernel
theorem dd_S_about_1 : decode b_S_about 1 = .ok (.tableswitch 96 0 6 #[43, 51, 59, 67, 75, 83, 91], 43) := by decide +kernel
theorem dd_S_about_44 : decode b_S_about 44 = .ok (.aload_n 0, 1) := by decide +kernel
theorem dd_S_about_45 : decode b_S_about 45 = .ok (.getfield 55, 3) := by decide +kernel
theorem dd_S_about_48 : decode b_S_about 48 = .ok (.getfield 222, 3) := by decide +kernel
theorem dd_S_about_51 : decode b_S_about 51 = .ok (.ireturn, 1) := by decide +kernel
theorem dd_S_about_52 : decode b_S_about 52 = .ok (.aload_n 0, 1) := by decide +kernel
theorem dd_S_about_53 : decode b_S_about 53 = .ok (.getfield 55, 3) := by decide +kernel
theorem dd_S_about_56 : decode b_S_about 56 = .ok (.getfield 228, 3) := by decide +kernel
theorem dd_S_about_59 : decode b_S_about 59 = .ok (.ireturn, 1) := by decide +kernel
theorem dd_S_about_60 : decode b_S_about 60 = .ok (.aload_n 0, 1) := by decide +kernel
theorem dd_S_about_61 : decode b_S_about 61 = .ok (.getfield 55, 3) := by decide +kernel
theorem dd_S_about_64 : decode b_S_about 64 = .ok (.getfield 231, 3) := by decide +kernel
theorem dd_S_about_67 : decode b_S_about 67 = .ok (.ireturn, 1) := by decide +kernel
theorem dd_S_about_68 : decode b_S_about 68 = .ok (.aload_n 0, 1) := by decide +kernel
theorem dd_S_about_69 : decode b_S_about 69 = .ok (.getfield 55, 3) := by decide +kernel
theorem dd_S_about_72 : decode b_S_about 72 = .ok (.getfield 196, 3) := by decide +kernel
theorem dd_S_about_75 : decode b_S_about 75 = .ok (.ireturn, 1) := by decide +kernel
theorem dd_S_about_76 : decode b_S_about 76 = .ok (.aload_n 0, 1) := by decide +kernel
theorem dd_S_about_77 : decode b_S_about 77 = .ok (.getfield 10, 3) := by decide +kernel
theorem dd_S_about_80 : decode b_S_about 80 = .ok (.getfield 73, 3) := by decide +kernel
theorem dd_S_about_83 : decode b_S_about 83 = .ok (.ireturn, 1) := by decide +kernel
theorem dd_S_about_84 : decode b_S_about 84 = .ok (.aload_n 0, 1) := by decide +kernel
theorem dd_S_about_85 : decode b_S_about 85 = .ok (.getfield 30, 3) := by decide +kernel
theorem dd_S_about_88 : decode b_S_about 88 = .ok (.getfield 118, 3) := by decide +kernel
theorem dd_S_about_91 : decode b_S_about 91 = .ok (.ireturn, 1) := by decide +kernel
theorem dd_S_about_92 : decode b_S_about 92 = .ok (.aload_n 0, 1) := by decide +kernel
theorem dd_S_about_93 : decode b_S_about 93 = .ok (.getfield 63, 3) := by decide +kernel
theorem dd_S_about_96 : decode b_S_about 96 = .ok (.ireturn, 1) := by decide +kernel
theorem dd_S_about_97 : decode b_S_about 97 = .ok (.new 91, 3) := by decide +kernel
theorem dd_S_about_100 : decode b_S_about 100 = .ok (.dup, 1) := by decide +kernel
theorem dd_S_about_101 : decode b_S_about 101 = .ok (.ldc 234, 2) := by decide +kernel
theorem dd_S_about_103 : decode b_S_about 103 = .ok (.invokespecial 95, 3) := by decide +kernel
theorem dd_S_about_106 : decode b_S_about 106 = .ok (.athrow, 1) := by decide +kernel
theorem dd_S_isLine_0 : decode b_S_isLine 0 = .ok (.iload_n 1, 1) := by decide +kernel
theorem dd_S_isLine_1 : decode b_S_isLine 1 = .ok (.iconst 0, 1) := by decide +kernel
theorem dd_S_isLine_2 : decode b_S_isLine 2 = .ok (.aload_n 0, 1) := by decide +kernel
theorem dd_S_isLine_3 : decode b_S_isLine 3 = .ok (.getfield 10, 3) := by decide +kernel
theorem dd_S_isLine_6 : decode b_S_isLine 6 = .ok (.invokevirtual 137, 3) := by decide +kernel
theorem dd_S_isLine_9 : decode b_S_isLine 9 = .ok (.iconst 1, 1) := by decide +kernel
theorem dd_S_isLine_10 : decode b_S_isLine 10 = .ok (.isub, 1) := by decide +kernel
theorem dd_S_isLine_11 : decode b_S_isLine 11 = .ok (.invokestatic 87, 3) := by decide +kernel
theorem dd_S_isLine_14 : decode b_S_isLine 14 = .ok (.ireturn, 1) := by decide +kernel
theorem dd_S_addToResult_0 : decode b_S_addToResult 0 = .ok (.aload_n 0, 1) := by decide +kernel
theorem dd_S_addToResult_1 : decode b_S_addToResult 1 = .ok (.getfield 30, 3) := by decide +kernel
theorem dd_S_addToResult_4 : decode b_S_addToResult 4 = .ok (.getfield 108, 3) := by decide +kernel
theorem dd_S_addToResult_7 : decode b_S_addToResult 7 = .ok (.ifCond .eq 36, 3) := by decide +kernel
theorem dd_S_addToResult_10 : decode b_S_addToResult 10 = .ok (.aload_n 0, 1) := by decide +kernel
theorem dd_S_addToResult_11 : decode b_S_addToResult 11 = .ok (.getfield 63, 3) := by decide +kernel
theorem dd_S_addToResult_14 : decode b_S_addToResult 14 = .ok (.ifCond .le 29, 3) := by decide +kernel
theorem dd_S_addToResult_17 : decode b_S_addToResult 17 = .ok (.aload_n 0, 1) := by decide +kernel
theorem dd_S_addToResult_18 : decode b_S_addToResult 18 = .ok (.getfield 30, 3) := by decide +kernel
theorem dd_S_addToResult_21 : decode b_S_addToResult 21 = .ok (.aload_n 0, 1) := by decide +kernel
theorem dd_S_addToResult_22 : decode b_S_addToResult 22 = .ok (.getfield 59, 3) := by decide +kernel
theorem dd_S_addToResult_25 : decode b_S_addToResult 25 = .ok (.aload_n 0, 1) := by decide +kernel
theorem dd_S_addToResult_26 : decode b_S_addToResult 26 = .ok (.getfield 63, 3) := by decide +kernel
theorem dd_S_addToResult_29 : decode b_S_addToResult 29 = .ok (.iconst 1, 1) := by decide +kernel
theorem dd_S_addToResult_30 : decode b_S_addToResult 30 = .ok (.isub, 1) := by decide +kernel
theorem dd_S_addToResult_31 : decode b_S_addToResult 31 = .ok (.iaload, 1) := by decide +kernel
theorem dd_S_addToResult_32 : decode b_S_addToResult 32 = .ok (.iload_n 1, 1) := by decide +kernel
theorem dd_S_addToResult_33 : decode b_S_addToResult 33 = .ok (.invokevirtual 174, 3) := by decide +kernel
theorem dd_S_addToResult_36 : decode b_S_addToResult 36 = .ok (.ifCond .ne 7, 3) := by decide +kernel
theorem dd_S_addToResult_39 : decode b_S_addToResult 39 = .ok (.iconst 1, 1) := by decide +kernel
theorem dd_S_addToResult_40 : decode b_S_addToResult 40 = .ok (.goto 4, 3) := by decide +kernel
theorem dd_S_addToResult_43 : decode b_S_addToResult 43 = .ok (.iconst 0, 1) := by decide +kernel
theorem dd_S_addToResult_44 : decode b_S_addToResult 44 = .ok (.istore_n 2, 1) := by decide +kernel
theorem dd_S_addToResult_45 : decode b_S_addToResult 45 = .ok (.iload_n 2, 1) := by decide +kernel
theorem dd_S_addToResult_46 : decode b_S_addToResult 46 = .ok (.ifCond .ne 33, 3) := by decide +kernel
theorem dd_S_addToResult_49 : decode b_S_addToResult 49 = .ok (.aload_n 0, 1) := by decide +kernel
theorem dd_S_addToResult_50 : decode b_S_addToResult 50 = .ok (.getfield 63, 3) := by decide +kernel
theorem dd_S_addToResult_53 : decode b_S_addToResult 53 = .ok (.sipush 1000, 3) := by decide +kernel
theorem dd_S_addToResult_56 : decode b_S_addToResult 56 = .ok (.if_icmp .ge 23, 3) := by decide +kernel
theorem dd_S_addToResult_59 : decode b_S_addToResult 59 = .ok (.aload_n 0, 1) := by decide +kernel
theorem dd_S_addToResult_60 : decode b_S_addToResult 60 = .ok (.getfield 59, 3) := by decide +kernel
theorem dd_S_addToResult_63 : decode b_S_addToResult 63 = .ok (.aload_n 0, 1) := by decide +kernel
theorem dd_S_addToResult_64 : decode b_S_addToResult 64 = .ok (.getfield 63, 3) := by decide +kernel
theorem dd_S_addToResult_67 : decode b_S_addToResult 67 = .ok (.iload_n 1, 1) := by decide +kernel
theorem dd_S_addToResult_68 : decode b_S_addToResult 68 = .ok (.iastore, 1) := by decide +kernel
theorem dd_S_addToResult_69 : decode b_S_addToResult 69 = .ok (.aload_n 0, 1) := by decide +kernel
theorem dd_S_addToResult_70 : decode b_S_addToResult 70 = .ok (.dup, 1) := by decide +kernel
theorem dd_S_addToResult_71 : decode b_S_addToResult 71 = .ok (.getfield 63, 3) := by decide +kernel
theorem dd_S_addToResult_74 : decode b_S_addToResult 74 = .ok (.iconst 1, 1) := by decide +kernel
theorem dd_S_addToResult_75 : decode b_S_addToResult 75 = .ok (.iadd, 1) := by decide +kernel
theorem dd_S_addToResult_76 : decode b_S_addToResult 76 = .ok (.putfield 63, 3) := by decide +kernel
theorem dd_S_addToResult_79 : decode b_S_addToResult 79 = .ok (.return_, 1) := by decide +kernel
theorem dd_S_isWithin_0 : decode b_S_isWithin 0 = .ok (.iload_n 0, 1) := by decide +kernel
theorem dd_S_isWithin_1 : decode b_S_isWithin 1 = .ok (.iload_n 1, 1) := by decide +kernel
theorem dd_S_isWithin_2 : decode b_S_isWithin 2 = .ok (.if_icmp .lt 12, 3) := by decide +kernel
theorem dd_S_isWithin_5 : decode b_S_isWithin 5 = .ok (.iload_n 0, 1) := by decide +kernel
theorem dd_S_isWithin_6 : decode b_S_isWithin 6 = .ok (.iload_n 2, 1) := by decide +kernel
theorem dd_S_isWithin_7 : decode b_S_isWithin 7 = .ok (.if_icmp .gt 7, 3) := by decide +kernel
theorem dd_S_isWithin_10 : decode b_S_isWithin 10 = .ok (.iconst 1, 1) := by decide +kernel
theorem dd_S_isWithin_11 : decode b_S_isWithin 11 = .ok (.goto 4, 3) := by decide +kernel
theorem dd_S_isWithin_14 : decode b_S_isWithin 14 = .ok (.iconst 0, 1) := by decide +kernel
theorem dd_S_isWithin_15 : decode b_S_isWithin 15 = .ok (.ireturn, 1) := by decide +kernel
theorem dd_M_init_0 : decode b_M_init 0 = .ok (.aload_n 0, 1) := by decide +kernel
theorem dd_M_init_1 : decode b_M_init 1 = .ok (.invokespecial 1, 3) := by decide +kernel
theorem dd_M_init_4 : decode b_M_init 4 = .ok (.aload_n 0, 1) := by decide +kernel
theorem dd_M_init_5 : decode b_M_init 5 = .ok (.sipush 20000, 3) := by decide +kernel
theorem dd_M_init_8 : decode b_M_init 8 = .ok (.newarray .byte, 2) := by decide +kernel
theorem dd_M_init_10 : decode b_M_init 10 = .ok (.putfield 7, 3) := by decide +kernel
theorem dd_M_init_13 : decode b_M_init 13 = .ok (.aload_n 0, 1) := by decide +kernel
theorem dd_M_init_14 : decode b_M_init 14 = .ok (.sipush 20001, 3) := by decide +kernel
theorem dd_M_init_17 : decode b_M_init 17 = .ok (.newarray .int, 2) := by decide +kernel
theorem dd_M_init_19 : decode b_M_init 19 = .ok (.putfield 13, 3) := by decide +kernel
theorem dd_M_init_22 : decode b_M_init 22 = .ok (.aload_n 0, 1) := by decide +kernel
theorem dd_M_init_23 : decode b_M_init 23 = .ok (.iconst (-1), 1) := by decide +kernel
theorem dd_M_init_24 : decode b_M_init 24 = .ok (.putfield 17, 3) := by decide +kernel
theorem dd_M_init_27 : decode b_M_init 27 = .ok (.aload_n 0, 1) := by decide +kernel
theorem dd_M_init_28 : decode b_M_init 28 = .ok (.bipush 30, 2) := by decide +kernel
theorem dd_M_init_30 : decode b_M_init 30 = .ok (.newarray .int, 2) := by decide +kernel
theorem dd_M_init_32 : decode b_M_init 32 = .ok (.putfield 21, 3) := by decide +kernel
theorem dd_M_init_35 : decode b_M_init 35 = .ok (.aload_n 0, 1) := by decide +kernel
theorem dd_M_init_36 : decode b_M_init 36 = .ok (.bipush 100, 2) := by decide +kernel
theorem dd_M_init_38 : decode b_M_init 38 = .ok (.putfield 24, 3) := by decide +kernel
theorem dd_M_init_41 : decode b_M_init 41 = .ok (.aload_n 0, 1) := by decide +kernel
theorem dd_M_init_42 : decode b_M_init 42 = .ok (.iconst 4, 1) := by decide +kernel
theorem dd_M_init_43 : decode b_M_init 43 = .ok (.putfield 27, 3) := by decide +kernel
theorem dd_M_init_46 : decode b_M_init 46 = .ok (.aload_n 0, 1) := by decide +kernel
theorem dd_M_init_47 : decode b_M_init 47 = .ok (.sipush 6000, 3) := by decide +kernel
theorem dd_M_init_50 : decode b_M_init 50 = .ok (.newarray .int, 2) := by decide +kernel
theorem dd_M_init_52 : decode b_M_init 52 = .ok (.putfield 30, 3) := by decide +kernel
theorem dd_M_init_55 : decode b_M_init 55 = .ok (.aload_n 0, 1) := by decide +kernel
theorem dd_M_init_56 : decode b_M_init 56 = .ok (.sipush 6000, 3) := by decide +kernel
theorem dd_M_init_59 : decode b_M_init 59 = .ok (.newarray .int, 2) := by decide +kernel
theorem dd_M_init_61 : decode b_M_init 61 = .ok (.putfield 33, 3) := by decide +kernel
theorem dd_M_init_64 : decode b_M_init 64 = .ok (.aload_n 0, 1) := by decide +kernel
theorem dd_M_init_65 : decode b_M_init 65 = .ok (.sipush 1000, 3) := by decide +kernel
theorem dd_M_init_68 : decode b_M_init 68 = .ok (.newarray .int, 2) := by decide +kernel
theorem dd_M_init_70 : decode b_M_init 70 = .ok (.putfield 36, 3) := by decide +kernel
theorem dd_M_init_73 : decode b_M_init 73 = .ok (.aload_n 0, 1) := by decide +kernel
theorem dd_M_init_74 : decode b_M_init 74 = .ok (.sipush 1000, 3) := by decide +kernel
theorem dd_M_init_77 : decode b_M_init 77 = .ok (.newarray .int, 2) := by decide +kernel
theorem dd_M_init_79 : decode b_M_init 79 = .ok (.putfield 39, 3) := by decide +kernel
theorem dd_M_init_82 : decode b_M_init 82 = .ok (.aload_n 0, 1) := by decide +kernel
theorem dd_M_init_83 : decode b_M_init 83 = .ok (.sipush 1000, 3) := by decide +kernel
theorem dd_M_init_86 : decode b_M_init 86 = .ok (.newarray .int, 2) := by decide +kernel
theorem dd_M_init_88 : decode b_M_init 88 = .ok (.putfield 42, 3) := by decide +kernel
theorem dd_M_init_91 : decode b_M_init 91 = .ok (.aload_n 0, 1) := by decide +kernel
theorem dd_M_init_92 : decode b_M_init 92 = .ok (.sipush 1000, 3) := by decide +kernel
theorem dd_M_init_95 : decode b_M_init 95 = .ok (.newarray .int, 2) := by decide +kernel
theorem dd_M_init_97 : decode b_M_init 97 = .ok (.putfield 45, 3) := by decide +kernel
theorem dd_M_init_100 : decode b_M_init 100 = .ok (.aload_n 0, 1) := by decide +kernel
theorem dd_M_init_101 : decode b_M_init 101 = .ok (.sipush 1000, 3) := by decide +kernel
theorem dd_M_init_104 : decode b_M_init 104 = .ok (.newarray .int, 2) := by decide +kernel
theorem dd_M_init_106 : decode b_M_init 106 = .ok (.putfield 48, 3) := by decide +kernel
theorem dd_M_init_109 : decode b_M_init 109 = .ok (.aload_n 0, 1) := by decide +kernel
theorem dd_M_init_110 : decode b_M_init 110 = .ok (.sipush 500, 3) := by decide +kernel
theorem dd_M_init_113 : decode b_M_init 113 = .ok (.newarray .int, 2) := by decide +kernel
theorem dd_M_init_115 : decode b_M_init 115 = .ok (.putfield 51, 3) := by decide +kernel
theorem dd_M_init_118 : decode b_M_init 118 = .ok (.aload_n 0, 1) := by decide +kernel
theorem dd_M_init_119 : decode b_M_init 119 = .ok (.sipush 1000, 3) := by decide +kernel
theorem dd_M_init_122 : decode b_M_init 122 = .ok (.newarray .int, 2) := by decide +kernel
theorem dd_M_init_124 : decode b_M_init 124 = .ok (.putfield 54, 3) := by decide +kernel
theorem dd_M_init_127 : decode b_M_init 127 = .ok (.return_, 1) := by decide +kernel
theorem dd_M_thrown_0 : decode b_M_thrown 0 = .ok (.aload_n 0, 1) := by decide +kernel
theorem dd_M_thrown_1 : decode b_M_thrown 1 = .ok (.getfield 57, 3) := by decide +kernel
theorem dd_M_thrown_4 : decode b_M_thrown 4 = .ok (.ireturn, 1) := by decide +kernel
theorem dd_M_fails_0 : decode b_M_fails 0 = .ok (.aload_n 0, 1) := by decide +kernel
theorem dd_M_fails_1 : decode b_M_fails 1 = .ok (.iload_n 1, 1) := by decide +kernel
theorem dd_M_fails_2 : decode b_M_fails 2 = .ok (.ifCond .eq 7, 3) := by decide +kernel
theorem dd_M_fails_5 : decode b_M_fails 5 = .ok (.iload_n 2, 1) := by decide +kernel
theorem dd_M_fails_6 : decode b_M_fails 6 = .ok (.goto 4, 3) := by decide +kernel
theorem dd_M_fails_9 : decode b_M_fails 9 = .ok (.iconst 0, 1) := by decide +kernel
theorem dd_M_fails_10 : decode b_M_fails 10 = .ok (.putfield 57, 3) := by decide +kernel
theorem dd_M_fails_13 : decode b_M_fails 13 = .ok (.iload_n 1, 1) := by decide +kernel
theorem dd_M_fails_14 : decode b_M_fails 14 = .ok (.ireturn, 1) := by decide +kernel
theorem dd_M_change_0 : decode b_M_change 0 = .ok (.aload_n 0, 1) := by decide +kernel
theorem dd_M_change_1 : decode b_M_change 1 = .ok (.iload_n 1, 1) := by decide +kernel
theorem dd_M_change_2 : decode b_M_change 2 = .ok (.putfield 60, 3) := by decide +kernel
theorem dd_M_change_5 : decode b_M_change 5 = .ok (.aload_n 0, 1) := by decide +kernel
theorem dd_M_change_6 : decode b_M_change 6 = .ok (.iconst 0, 1) := by decide +kernel
theorem dd_M_change_7 : decode b_M_change 7 = .ok (.putfield 63, 3) := by decide +kernel
theorem dd_M_change_10 : decode b_M_change 10 = .ok (.aload_n 0, 1) := by decide +kernel
theorem dd_M_change_11 : decode b_M_change 11 = .ok (.iconst 0, 1) := by decide +kernel
theorem dd_M_change_12 : decode b_M_change 12 = .ok (.putfield 67, 3) := by decide +kernel
theorem dd_M_change_15 : decode b_M_change 15 = .ok (.return_, 1) := by decide +kernel
theorem dd_M_feed_0 : decode b_M_feed 0 = .ok (.aload_n 0, 1) := by decide +kernel
theorem dd_M_feed_1 : decode b_M_feed 1 = .ok (.aload_n 0, 1) := by decide +kernel
theorem dd_M_feed_2 : decode b_M_feed 2 = .ok (.getfield 60, 3) := by decide +kernel
theorem dd_M_feed_5 : decode b_M_feed 5 = .ok (.bipush 20, 2) := by decide +kernel
theorem dd_M_feed_7 : decode b_M_feed 7 = .ok (.iadd, 1) := by decide +kernel
theorem dd_M_feed_8 : decode b_M_feed 8 = .ok (.sipush 20000, 3) := by decide +kernel
theorem dd_M_feed_11 : decode b_M_feed 11 = .ok (.if_icmp .le 7, 3) := by decide +kernel
theorem dd_M_feed_14 : decode b_M_feed 14 = .ok (.iconst 1, 1) := by decide +kernel
theorem dd_M_feed_15 : decode b_M_feed 15 = .ok (.goto 4, 3) := by decide +kernel
theorem dd_M_feed_18 : decode b_M_feed 18 = .ok (.iconst 0, 1) := by decide +kernel
theorem dd_M_feed_19 : decode b_M_feed 19 = .ok (.iconst 1, 1) := by decide +kernel
theorem dd_M_feed_20 : decode b_M_feed 20 = .ok (.invokevirtual 70, 3) := by decide +kernel
theorem dd_M_feed_23 : decode b_M_feed 23 = .ok (.ifCond .eq 5, 3) := by decide +kernel
theorem dd_M_feed_26 : decode b_M_feed 26 = .ok (.iconst 0, 1) := by decide +kernel
theorem dd_M_feed_27 : decode b_M_feed 27 = .ok (.ireturn, 1) := by decide +kernel
theorem dd_M_feed_28 : decode b_M_feed 28 = .ok (.iconst 0, 1) := by decide +kernel
theorem dd_M_feed_29 : decode b_M_feed 29 = .ok (.istore 6, 2) := by decide +kernel
theorem dd_M_feed_31 : decode b_M_feed 31 = .ok (.iload 6, 2) := by decide +kernel
theorem dd_M_feed_33 : decode b_M_feed 33 = .ok (.bipush 20, 2) := by decide +kernel
theorem dd_M_feed_35 : decode b_M_feed 35 = .ok (.if_icmp .ge 83, 3) := by decide +kernel
theorem dd_M_feed_38 : decode b_M_feed 38 = .ok (.iload 6, 2) := by decide +kernel
theorem dd_M_feed_40 : decode b_M_feed 40 = .ok (.iconst 4, 1) := by decide +kernel
theorem dd_M_feed_41 : decode b_M_feed 41 = .ok (.if_icmp .ge 7, 3) := by decide +kernel
theorem dd_M_feed_44 : decode b_M_feed 44 = .ok (.iload_n 1, 1) := by decide +kernel
theorem dd_M_feed_45 : decode b_M_feed 45 = .ok (.goto 39, 3) := by decide +kernel
theorem dd_M_feed_48 : decode b_M_feed 48 = .ok (.iload 6, 2) := by decide +kernel
theorem dd_M_feed_50 : decode b_M_feed 50 = .ok (.bipush 8, 2) := by decide +kernel
theorem dd_M_feed_52 : decode b_M_feed 52 = .ok (.if_icmp .ge 7, 3) := by decide +kernel
theorem dd_M_feed_55 : decode b_M_feed 55 = .ok (.iload_n 2, 1) := by decide +kernel
theorem dd_M_feed_56 : decode b_M_feed 56 = .ok (.goto 28, 3) := by decide +kernel
theorem dd_M_feed_59 : decode b_M_feed 59 = .ok (.iload 6, 2) := by decide +kernel
theorem dd_M_feed_61 : decode b_M_feed 61 = .ok (.bipush 12, 2) := by decide +kernel
theorem dd_M_feed_63 : decode b_M_feed 63 = .ok (.if_icmp .ge 7, 3) := by decide +kernel
theorem dd_M_feed_66 : decode b_M_feed 66 = .ok (.iload_n 3, 1) := by decide +kernel
theorem dd_M_feed_67 : decode b_M_feed 67 = .ok (.goto 17, 3) := by decide +kernel
theorem dd_M_feed_70 : decode b_M_feed 70 = .ok (.iload 6, 2) := by decide +kernel
theorem dd_M_feed_72 : decode b_M_feed 72 = .ok (.bipush 16, 2) := by decide +kernel
theorem dd_M_feed_74 : decode b_M_feed 74 = .ok (.if_icmp .ge 8, 3) := by decide +kernel
theorem dd_M_feed_77 : decode b_M_feed 77 = .ok (.iload 4, 2) := by decide +kernel
theorem dd_M_feed_79 : decode b_M_feed 79 = .ok (.goto 5, 3) := by decide +kernel
theorem dd_M_feed_82 : decode b_M_feed 82 = .ok (.iload 5, 2) := by decide +kernel
theorem dd_M_feed_84 : decode b_M_feed 84 = .ok (.istore 7, 2) := by decide +kernel
theorem dd_M_feed_86 : decode b_M_feed 86 = .ok (.aload_n 0, 1) := by decide +kernel
theorem dd_M_feed_87 : decode b_M_feed 87 = .ok (.getfield 7, 3) := by decide +kernel
theorem dd_M_feed_90 : decode b_M_feed 90 = .ok (.aload_n 0, 1) := by decide +kernel
theorem dd_M_feed_91 : decode b_M_feed 91 = .ok (.getfield 60, 3) := by decide +kernel
theorem dd_M_feed_94 : decode b_M_feed 94 = .ok (.iload 6, 2) := by decide +kernel
theorem dd_M_feed_96 : decode b_M_feed 96 = .ok (.iadd, 1) := by decide +kernel
theorem dd_M_feed_97 : decode b_M_feed 97 = .ok (.iload 7, 2) := by decide +kernel
theorem dd_M_feed_99 : decode b_M_feed 99 = .ok (.bipush 24, 2) := by decide +kernel
theorem dd_M_feed_101 : decode b_M_feed 101 = .ok (.bipush 8, 2) := by decide +kernel
theorem dd_M_feed_103 : decode b_M_feed 103 = .ok (.iload 6, 2) := by decide +kernel
theorem dd_M_feed_105 : decode b_M_feed 105 = .ok (.iconst 4, 1) := by decide +kernel
theorem dd_M_feed_106 : decode b_M_feed 106 = .ok (.irem, 1) := by decide +kernel
theorem dd_M_feed_107 : decode b_M_feed 107 = .ok (.imul, 1) := by decide +kernel
theorem dd_M_feed_108 : decode b_M_feed 108 = .ok (.isub, 1) := by decide +kernel
theorem dd_M_feed_109 : decode b_M_feed 109 = .ok (.ishr, 1) := by decide +kernel
theorem dd_M_feed_110 : decode b_M_feed 110 = .ok (.i2b, 1) := by decide +kernel
theorem dd_M_feed_111 : decode b_M_feed 111 = .ok (.bastore, 1) := by decide +kernel
theorem dd_M_feed_112 : decode b_M_feed 112 = .ok (.iinc 6 1, 3) := by decide +kernel
theorem dd_M_feed_115 : decode b_M_feed 115 = .ok (.goto (-84), 3) := by decide +kernel
theorem dd_M_feed_118 : decode b_M_feed 118 = .ok (.aload_n 0, 1) := by decide +kernel
theorem dd_M_feed_119 : decode b_M_feed 119 = .ok (.aload_n 0, 1) := by decide +kernel
theorem dd_M_feed_120 : decode b_M_feed 120 = .ok (.getfield 60, 3) := by decide +kernel
theorem dd_M_feed_123 : decode b_M_feed 123 = .ok (.bipush 20, 2) := by decide +kernel
theorem dd_M_feed_125 : decode b_M_feed 125 = .ok (.iadd, 1) := by decide +kernel
theorem dd_M_feed_126 : decode b_M_feed 126 = .ok (.invokevirtual 74, 3) := by decide +kernel
theorem dd_M_feed_129 : decode b_M_feed 129 = .ok (.aload_n 0, 1) := by decide +kernel
theorem dd_M_feed_130 : decode b_M_feed 130 = .ok (.getfield 60, 3) := by decide +kernel
theorem dd_M_feed_133 : decode b_M_feed 133 = .ok (.ireturn, 1) := by decide +kernel
theorem dd_M_end_0 : decode b_M_end 0 = .ok (.aload_n 0, 1) := by decide +kernel
theorem dd_M_end_1 : decode b_M_end 1 = .ok (.iload_n 1, 1) := by decide +kernel
theorem dd_M_end_2 : decode b_M_end 2 = .ok (.ifCond .lt 11, 3) := by decide +kernel
theorem dd_M_end_5 : decode b_M_end 5 = .ok (.iload_n 1, 1) := by decide +kernel
theorem dd_M_end_6 : decode b_M_end 6 = .ok (.aload_n 0, 1) := by decide +kernel
theorem dd_M_end_7 : decode b_M_end 7 = .ok (.getfield 60, 3) := by decide +kernel
theorem dd_M_end_10 : decode b_M_end 10 = .ok (.if_icmp .le 7, 3) := by decide +kernel
theorem dd_M_end_13 : decode b_M_end 13 = .ok (.iconst 1, 1) := by decide +kernel
theorem dd_M_end_14 : decode b_M_end 14 = .ok (.goto 4, 3) := by decide +kernel
theorem dd_M_end_17 : decode b_M_end 17 = .ok (.iconst 0, 1) := by decide +kernel
theorem dd_M_end_18 : decode b_M_end 18 = .ok (.iconst 1, 1) := by decide +kernel
theorem dd_M_end_19 : decode b_M_end 19 = .ok (.invokevirtual 70, 3) := by decide +kernel
theorem dd_M_end_22 : decode b_M_end 22 = .ok (.ifCond .eq 4, 3) := by decide +kernel
theorem dd_M_end_25 : decode b_M_end 25 = .ok (.return_, 1) := by decide +kernel
theorem dd_M_end_26 : decode b_M_end 26 = .ok (.aload_n 0, 1) := by decide +kernel
theorem dd_M_end_27 : decode b_M_end 27 = .ok (.iload_n 1, 1) := by decide +kernel
theorem dd_M_end_28 : decode b_M_end 28 = .ok (.invokevirtual 74, 3) := by decide +kernel
theorem dd_M_end_31 : decode b_M_end 31 = .ok (.return_, 1) := by decide +kernel
theorem dd_M_findLines_0 : decode b_M_findLines 0 = .ok (.aload_n 0, 1) := by decide +kernel
theorem dd_M_findLines_1 : decode b_M_findLines 1 = .ok (.getfield 63, 3) := by decide +kernel
theorem dd_M_findLines_4 : decode b_M_findLines 4 = .ok (.ifCond .eq 4, 3) := by decide +kernel
theorem dd_M_findLines_7 : decode b_M_findLines 7 = .ok (.return_, 1) := by decide +kernel
theorem dd_M_findLines_8 : decode b_M_findLines 8 = .ok (.aload_n 0, 1) := by decide +kernel
theorem dd_M_findLines_9 : decode b_M_findLines 9 = .ok (.iconst 1, 1) := by decide +kernel
theorem dd_M_findLines_10 : decode b_M_findLines 10 = .ok (.putfield 63, 3) := by decide +kernel
theorem dd_M_findLines_13 : decode b_M_findLines 13 = .ok (.aload_n 0, 1) := by decide +kernel
theorem dd_M_findLines_14 : decode b_M_findLines 14 = .ok (.iconst 0, 1) := by decide +kernel
theorem dd_M_findLines_15 : decode b_M_findLines 15 = .ok (.putfield 78, 3) := by decide +kernel
theorem dd_M_findLines_18 : decode b_M_findLines 18 = .ok (.iconst 0, 1) := by decide +kernel
theorem dd_M_findLines_19 : decode b_M_findLines 19 = .ok (.istore_n 1, 1) := by decide +kernel
theorem dd_M_findLines_20 : decode b_M_findLines 20 = .ok (.iload_n 1, 1) := by decide +kernel
theorem dd_M_findLines_21 : decode b_M_findLines 21 = .ok (.aload_n 0, 1) := by decide +kernel
theorem dd_M_findLines_22 : decode b_M_findLines 22 = .ok (.getfield 60, 3) := by decide +kernel
theorem dd_M_findLines_25 : decode b_M_findLines 25 = .ok (.if_icmp .ge 54, 3) := by decide +kernel
theorem dd_M_findLines_28 : decode b_M_findLines 28 = .ok (.aload_n 0, 1) := by decide +kernel
theorem dd_M_findLines_29 : decode b_M_findLines 29 = .ok (.getfield 13, 3) := by decide +kernel
theorem dd_M_findLines_32 : decode b_M_findLines 32 = .ok (.aload_n 0, 1) := by decide +kernel
theorem dd_M_findLines_33 : decode b_M_findLines 33 = .ok (.getfield 78, 3) := by decide +kernel
theorem dd_M_findLines_36 : decode b_M_findLines 36 = .ok (.iload_n 1, 1) := by decide +kernel
theorem dd_M_findLines_37 : decode b_M_findLines 37 = .ok (.iastore, 1) := by decide +kernel
theorem dd_M_findLines_38 : decode b_M_findLines 38 = .ok (.aload_n 0, 1) := by decide +kernel
theorem dd_M_findLines_39 : decode b_M_findLines 39 = .ok (.dup, 1) := by decide +kernel
theorem dd_M_findLines_40 : decode b_M_findLines 40 = .ok (.getfield 78, 3) := by decide +kernel
theorem dd_M_findLines_43 : decode b_M_findLines 43 = .ok (.iconst 1, 1) := by decide +kernel
theorem dd_M_findLines_44 : decode b_M_findLines 44 = .ok (.iadd, 1) := by decide +kernel
theorem dd_M_findLines_45 : decode b_M_findLines 45 = .ok (.putfield 78, 3) := by decide +kernel
theorem dd_M_findLines_48 : decode b_M_findLines 48 = .ok (.iload_n 1, 1) := by decide +kernel
theorem dd_M_findLines_49 : decode b_M_findLines 49 = .ok (.aload_n 0, 1) := by decide +kernel
theorem dd_M_findLines_50 : decode b_M_findLines 50 = .ok (.getfield 60, 3) := by decide +kernel
theorem dd_M_findLines_53 : decode b_M_findLines 53 = .ok (.if_icmp .ge 20, 3) := by decide +kernel
theorem dd_M_findLines_56 : decode b_M_findLines 56 = .ok (.aload_n 0, 1) := by decide +kernel
theorem dd_M_findLines_57 : decode b_M_findLines 57 = .ok (.getfield 7, 3) := by decide +kernel
theorem dd_M_findLines_60 : decode b_M_findLines 60 = .ok (.iload_n 1, 1) := by decide +kernel
theorem dd_M_findLines_61 : decode b_M_findLines 61 = .ok (.baload, 1) := by decide +kernel
theorem dd_M_findLines_62 : decode b_M_findLines 62 = .ok (.bipush 10, 2) := by decide +kernel
theorem dd_M_findLines_64 : decode b_M_findLines 64 = .ok (.if_icmp .eq 9, 3) := by decide +kernel
theorem dd_M_findLines_67 : decode b_M_findLines 67 = .ok (.iinc 1 1, 3) := by decide +kernel
theorem dd_M_findLines_70 : decode b_M_findLines 70 = .ok (.goto (-22), 3) := by decide +kernel
theorem dd_M_findLines_73 : decode b_M_findLines 73 = .ok (.iinc 1 1, 3) := by decide +kernel
theorem dd_M_findLines_76 : decode b_M_findLines 76 = .ok (.goto (-56), 3) := by decide +kernel
theorem dd_M_findLines_79 : decode b_M_findLines 79 = .ok (.aload_n 0, 1) := by decide +kernel
theorem dd_M_findLines_80 : decode b_M_findLines 80 = .ok (.getfield 13, 3) := by decide +kernel
theorem dd_M_findLines_83 : decode b_M_findLines 83 = .ok (.aload_n 0, 1) := by decide +kernel
theorem dd_M_findLines_84 : decode b_M_findLines 84 = .ok (.getfield 78, 3) := by decide +kernel
theorem dd_M_findLines_87 : decode b_M_findLines 87 = .ok (.iload_n 1, 1) := by decide +kernel
theorem dd_M_findLines_88 : decode b_M_findLines 88 = .ok (.iastore, 1) := by decide +kernel
theorem dd_M_findLines_89 : decode b_M_findLines 89 = .ok (.return_, 1) := by decide +kernel
theorem dd_M_startOf_0 : decode b_M_startOf 0 = .ok (.aload_n 0, 1) := by decide +kernel
theorem dd_M_startOf_1 : decode b_M_startOf 1 = .ok (.getfield 13, 3) := by decide +kernel
theorem dd_M_startOf_4 : decode b_M_startOf 4 = .ok (.iload_n 1, 1) := by decide +kernel
theorem dd_M_startOf_5 : decode b_M_startOf 5 = .ok (.iaload, 1) := by decide +kernel
theorem dd_M_startOf_6 : decode b_M_startOf 6 = .ok (.ireturn, 1) := by decide +kernel
