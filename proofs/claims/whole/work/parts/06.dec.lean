theorem dd_M_from_0 : decode b_M_from 0 = .ok (.aload_n 0, 1) := by decide +kernel
theorem dd_M_from_1 : decode b_M_from 1 = .ok (.getfield 126, 3) := by decide +kernel
theorem dd_M_from_4 : decode b_M_from 4 = .ok (.ifCond .eq 17, 3) := by decide +kernel
theorem dd_M_from_7 : decode b_M_from 7 = .ok (.aload_n 0, 1) := by decide +kernel
theorem dd_M_from_8 : decode b_M_from 8 = .ok (.getfield 30, 3) := by decide +kernel
theorem dd_M_from_11 : decode b_M_from 11 = .ok (.bipush 6, 2) := by decide +kernel
theorem dd_M_from_13 : decode b_M_from 13 = .ok (.iload_n 1, 1) := by decide +kernel
theorem dd_M_from_14 : decode b_M_from 14 = .ok (.imul, 1) := by decide +kernel
theorem dd_M_from_15 : decode b_M_from 15 = .ok (.iload_n 2, 1) := by decide +kernel
theorem dd_M_from_16 : decode b_M_from 16 = .ok (.iadd, 1) := by decide +kernel
theorem dd_M_from_17 : decode b_M_from 17 = .ok (.iaload, 1) := by decide +kernel
theorem dd_M_from_18 : decode b_M_from 18 = .ok (.goto 9, 3) := by decide +kernel
theorem dd_M_from_21 : decode b_M_from 21 = .ok (.aload_n 0, 1) := by decide +kernel
theorem dd_M_from_22 : decode b_M_from 22 = .ok (.iload_n 1, 1) := by decide +kernel
theorem dd_M_from_23 : decode b_M_from 23 = .ok (.iload_n 2, 1) := by decide +kernel
theorem dd_M_from_24 : decode b_M_from 24 = .ok (.invokevirtual 129, 3) := by decide +kernel
theorem dd_M_from_27 : decode b_M_from 27 = .ok (.ireturn, 1) := by decide +kernel
theorem dd_M_to_0 : decode b_M_to 0 = .ok (.aload_n 0, 1) := by decide +kernel
theorem dd_M_to_1 : decode b_M_to 1 = .ok (.getfield 126, 3) := by decide +kernel
theorem dd_M_to_4 : decode b_M_to 4 = .ok (.ifCond .eq 17, 3) := by decide +kernel
theorem dd_M_to_7 : decode b_M_to 7 = .ok (.aload_n 0, 1) := by decide +kernel
theorem dd_M_to_8 : decode b_M_to 8 = .ok (.getfield 33, 3) := by decide +kernel
theorem dd_M_to_11 : decode b_M_to 11 = .ok (.bipush 6, 2) := by decide +kernel
theorem dd_M_to_13 : decode b_M_to 13 = .ok (.iload_n 1, 1) := by decide +kernel
theorem dd_M_to_14 : decode b_M_to 14 = .ok (.imul, 1) := by decide +kernel
theorem dd_M_to_15 : decode b_M_to 15 = .ok (.iload_n 2, 1) := by decide +kernel
theorem dd_M_to_16 : decode b_M_to 16 = .ok (.iadd, 1) := by decide +kernel
theorem dd_M_to_17 : decode b_M_to 17 = .ok (.iaload, 1) := by decide +kernel
theorem dd_M_to_18 : decode b_M_to 18 = .ok (.goto 9, 3) := by decide +kernel
theorem dd_M_to_21 : decode b_M_to 21 = .ok (.aload_n 0, 1) := by decide +kernel
theorem dd_M_to_22 : decode b_M_to 22 = .ok (.iload_n 1, 1) := by decide +kernel
theorem dd_M_to_23 : decode b_M_to 23 = .ok (.iload_n 2, 1) := by decide +kernel
theorem dd_M_to_24 : decode b_M_to 24 = .ok (.invokevirtual 132, 3) := by decide +kernel
theorem dd_M_to_27 : decode b_M_to 27 = .ok (.ireturn, 1) := by decide +kernel
theorem dd_M_counts_0 : decode b_M_counts 0 = .ok (.aload_n 0, 1) := by decide +kernel
theorem dd_M_counts_1 : decode b_M_counts 1 = .ok (.getfield 7, 3) := by decide +kernel
theorem dd_M_counts_4 : decode b_M_counts 4 = .ok (.iload_n 1, 1) := by decide +kernel
theorem dd_M_counts_5 : decode b_M_counts 5 = .ok (.baload, 1) := by decide +kernel
theorem dd_M_counts_6 : decode b_M_counts 6 = .ok (.sipush 255, 3) := by decide +kernel
theorem dd_M_counts_9 : decode b_M_counts 9 = .ok (.iand, 1) := by decide +kernel
theorem dd_M_counts_10 : decode b_M_counts 10 = .ok (.istore_n 3, 1) := by decide +kernel
theorem dd_M_counts_11 : decode b_M_counts 11 = .ok (.iload_n 3, 1) := by decide +kernel
theorem dd_M_counts_12 : decode b_M_counts 12 = .ok (.bipush 32, 2) := by decide +kernel
theorem dd_M_counts_14 : decode b_M_counts 14 = .ok (.if_icmp .eq 42, 3) := by decide +kernel
theorem dd_M_counts_17 : decode b_M_counts 17 = .ok (.iload_n 3, 1) := by decide +kernel
theorem dd_M_counts_18 : decode b_M_counts 18 = .ok (.bipush 9, 2) := by decide +kernel
theorem dd_M_counts_20 : decode b_M_counts 20 = .ok (.if_icmp .eq 36, 3) := by decide +kernel
theorem dd_M_counts_23 : decode b_M_counts 23 = .ok (.iload_n 3, 1) := by decide +kernel
theorem dd_M_counts_24 : decode b_M_counts 24 = .ok (.bipush 48, 2) := by decide +kernel
theorem dd_M_counts_26 : decode b_M_counts 26 = .ok (.bipush 57, 2) := by decide +kernel
theorem dd_M_counts_28 : decode b_M_counts 28 = .ok (.invokestatic 81, 3) := by decide +kernel
theorem dd_M_counts_31 : decode b_M_counts 31 = .ok (.ifCond .ne 25, 3) := by decide +kernel
theorem dd_M_counts_34 : decode b_M_counts 34 = .ok (.iload_n 3, 1) := by decide +kernel
theorem dd_M_counts_35 : decode b_M_counts 35 = .ok (.bipush 97, 2) := by decide +kernel
theorem dd_M_counts_37 : decode b_M_counts 37 = .ok (.bipush 122, 2) := by decide +kernel
theorem dd_M_counts_39 : decode b_M_counts 39 = .ok (.invokestatic 81, 3) := by decide +kernel
theorem dd_M_counts_42 : decode b_M_counts 42 = .ok (.ifCond .ne 14, 3) := by decide +kernel
theorem dd_M_counts_45 : decode b_M_counts 45 = .ok (.iload_n 3, 1) := by decide +kernel
theorem dd_M_counts_46 : decode b_M_counts 46 = .ok (.bipush 65, 2) := by decide +kernel
theorem dd_M_counts_48 : decode b_M_counts 48 = .ok (.bipush 90, 2) := by decide +kernel
theorem dd_M_counts_50 : decode b_M_counts 50 = .ok (.invokestatic 81, 3) := by decide +kernel
theorem dd_M_counts_53 : decode b_M_counts 53 = .ok (.ifCond .eq 7, 3) := by decide +kernel
theorem dd_M_counts_56 : decode b_M_counts 56 = .ok (.iconst 1, 1) := by decide +kernel
theorem dd_M_counts_57 : decode b_M_counts 57 = .ok (.goto 4, 3) := by decide +kernel
theorem dd_M_counts_60 : decode b_M_counts 60 = .ok (.iconst 0, 1) := by decide +kernel
theorem dd_M_counts_61 : decode b_M_counts 61 = .ok (.istore 4, 2) := by decide +kernel
theorem dd_M_counts_63 : decode b_M_counts 63 = .ok (.iload_n 2, 1) := by decide +kernel
theorem dd_M_counts_64 : decode b_M_counts 64 = .ok (.iconst 2, 1) := by decide +kernel
theorem dd_M_counts_65 : decode b_M_counts 65 = .ok (.iand, 1) := by decide +kernel
theorem dd_M_counts_66 : decode b_M_counts 66 = .ok (.ifCond .eq 8, 3) := by decide +kernel
theorem dd_M_counts_69 : decode b_M_counts 69 = .ok (.iload 4, 2) := by decide +kernel
theorem dd_M_counts_71 : decode b_M_counts 71 = .ok (.ifCond .eq 25, 3) := by decide +kernel
theorem dd_M_counts_74 : decode b_M_counts 74 = .ok (.iload_n 2, 1) := by decide +kernel
theorem dd_M_counts_75 : decode b_M_counts 75 = .ok (.bipush 8, 2) := by decide +kernel
theorem dd_M_counts_77 : decode b_M_counts 77 = .ok (.iand, 1) := by decide +kernel
theorem dd_M_counts_78 : decode b_M_counts 78 = .ok (.ifCond .eq 14, 3) := by decide +kernel
theorem dd_M_counts_81 : decode b_M_counts 81 = .ok (.iload_n 3, 1) := by decide +kernel
theorem dd_M_counts_82 : decode b_M_counts 82 = .ok (.bipush 32, 2) := by decide +kernel
theorem dd_M_counts_84 : decode b_M_counts 84 = .ok (.bipush 126, 2) := by decide +kernel
theorem dd_M_counts_86 : decode b_M_counts 86 = .ok (.invokestatic 81, 3) := by decide +kernel
theorem dd_M_counts_89 : decode b_M_counts 89 = .ok (.ifCond .eq 7, 3) := by decide +kernel
theorem dd_M_counts_92 : decode b_M_counts 92 = .ok (.iconst 1, 1) := by decide +kernel
theorem dd_M_counts_93 : decode b_M_counts 93 = .ok (.goto 4, 3) := by decide +kernel
theorem dd_M_counts_96 : decode b_M_counts 96 = .ok (.iconst 0, 1) := by decide +kernel
theorem dd_M_counts_97 : decode b_M_counts 97 = .ok (.ireturn, 1) := by decide +kernel
theorem dd_M_folded_0 : decode b_M_folded 0 = .ok (.aload_n 0, 1) := by decide +kernel
theorem dd_M_folded_1 : decode b_M_folded 1 = .ok (.getfield 7, 3) := by decide +kernel
theorem dd_M_folded_4 : decode b_M_folded 4 = .ok (.iload_n 1, 1) := by decide +kernel
theorem dd_M_folded_5 : decode b_M_folded 5 = .ok (.baload, 1) := by decide +kernel
theorem dd_M_folded_6 : decode b_M_folded 6 = .ok (.sipush 255, 3) := by decide +kernel
theorem dd_M_folded_9 : decode b_M_folded 9 = .ok (.iand, 1) := by decide +kernel
theorem dd_M_folded_10 : decode b_M_folded 10 = .ok (.istore_n 3, 1) := by decide +kernel
theorem dd_M_folded_11 : decode b_M_folded 11 = .ok (.iload_n 2, 1) := by decide +kernel
theorem dd_M_folded_12 : decode b_M_folded 12 = .ok (.iconst 4, 1) := by decide +kernel
theorem dd_M_folded_13 : decode b_M_folded 13 = .ok (.iand, 1) := by decide +kernel
theorem dd_M_folded_14 : decode b_M_folded 14 = .ok (.ifCond .le 21, 3) := by decide +kernel
theorem dd_M_folded_17 : decode b_M_folded 17 = .ok (.iload_n 3, 1) := by decide +kernel
theorem dd_M_folded_18 : decode b_M_folded 18 = .ok (.bipush 97, 2) := by decide +kernel
theorem dd_M_folded_20 : decode b_M_folded 20 = .ok (.bipush 122, 2) := by decide +kernel
theorem dd_M_folded_22 : decode b_M_folded 22 = .ok (.invokestatic 81, 3) := by decide +kernel
theorem dd_M_folded_25 : decode b_M_folded 25 = .ok (.ifCond .eq 10, 3) := by decide +kernel
theorem dd_M_folded_28 : decode b_M_folded 28 = .ok (.iload_n 3, 1) := by decide +kernel
theorem dd_M_folded_29 : decode b_M_folded 29 = .ok (.bipush 32, 2) := by decide +kernel
theorem dd_M_folded_31 : decode b_M_folded 31 = .ok (.isub, 1) := by decide +kernel
theorem dd_M_folded_32 : decode b_M_folded 32 = .ok (.goto 4, 3) := by decide +kernel
theorem dd_M_folded_35 : decode b_M_folded 35 = .ok (.iload_n 3, 1) := by decide +kernel
theorem dd_M_folded_36 : decode b_M_folded 36 = .ok (.ireturn, 1) := by decide +kernel
theorem dd_M_bytes_0 : decode b_M_bytes 0 = .ok (.iload_n 1, 1) := by decide +kernel
theorem dd_M_bytes_1 : decode b_M_bytes 1 = .ok (.istore 6, 2) := by decide +kernel
theorem dd_M_bytes_3 : decode b_M_bytes 3 = .ok (.iload_n 3, 1) := by decide +kernel
theorem dd_M_bytes_4 : decode b_M_bytes 4 = .ok (.istore 7, 2) := by decide +kernel
theorem dd_M_bytes_6 : decode b_M_bytes 6 = .ok (.iload 6, 2) := by decide +kernel
theorem dd_M_bytes_8 : decode b_M_bytes 8 = .ok (.iload_n 2, 1) := by decide +kernel
theorem dd_M_bytes_9 : decode b_M_bytes 9 = .ok (.if_icmp .ge 20, 3) := by decide +kernel
theorem dd_M_bytes_12 : decode b_M_bytes 12 = .ok (.aload_n 0, 1) := by decide +kernel
theorem dd_M_bytes_13 : decode b_M_bytes 13 = .ok (.iload 6, 2) := by decide +kernel
theorem dd_M_bytes_15 : decode b_M_bytes 15 = .ok (.iload 5, 2) := by decide +kernel
theorem dd_M_bytes_17 : decode b_M_bytes 17 = .ok (.invokevirtual 135, 3) := by decide +kernel
theorem dd_M_bytes_20 : decode b_M_bytes 20 = .ok (.ifCond .ne 9, 3) := by decide +kernel
theorem dd_M_bytes_23 : decode b_M_bytes 23 = .ok (.iinc 6 1, 3) := by decide +kernel
theorem dd_M_bytes_26 : decode b_M_bytes 26 = .ok (.goto (-20), 3) := by decide +kernel
theorem dd_M_bytes_29 : decode b_M_bytes 29 = .ok (.iload 7, 2) := by decide +kernel
theorem dd_M_bytes_31 : decode b_M_bytes 31 = .ok (.iload 4, 2) := by decide +kernel
theorem dd_M_bytes_33 : decode b_M_bytes 33 = .ok (.if_icmp .ge 20, 3) := by decide +kernel
theorem dd_M_bytes_36 : decode b_M_bytes 36 = .ok (.aload_n 0, 1) := by decide +kernel
theorem dd_M_bytes_37 : decode b_M_bytes 37 = .ok (.iload 7, 2) := by decide +kernel
theorem dd_M_bytes_39 : decode b_M_bytes 39 = .ok (.iload 5, 2) := by decide +kernel
theorem dd_M_bytes_41 : decode b_M_bytes 41 = .ok (.invokevirtual 135, 3) := by decide +kernel
theorem dd_M_bytes_44 : decode b_M_bytes 44 = .ok (.ifCond .ne 9, 3) := by decide +kernel
theorem dd_M_bytes_47 : decode b_M_bytes 47 = .ok (.iinc 7 1, 3) := by decide +kernel
theorem dd_M_bytes_50 : decode b_M_bytes 50 = .ok (.goto (-21), 3) := by decide +kernel
theorem dd_M_bytes_53 : decode b_M_bytes 53 = .ok (.iload 6, 2) := by decide +kernel
theorem dd_M_bytes_55 : decode b_M_bytes 55 = .ok (.iload_n 2, 1) := by decide +kernel
theorem dd_M_bytes_56 : decode b_M_bytes 56 = .ok (.if_icmp .ge 10, 3) := by decide +kernel
theorem dd_M_bytes_59 : decode b_M_bytes 59 = .ok (.iload 7, 2) := by decide +kernel
theorem dd_M_bytes_61 : decode b_M_bytes 61 = .ok (.iload 4, 2) := by decide +kernel
theorem dd_M_bytes_63 : decode b_M_bytes 63 = .ok (.if_icmp .lt 26, 3) := by decide +kernel
theorem dd_M_bytes_66 : decode b_M_bytes 66 = .ok (.iload 6, 2) := by decide +kernel
theorem dd_M_bytes_68 : decode b_M_bytes 68 = .ok (.iload_n 2, 1) := by decide +kernel
theorem dd_M_bytes_69 : decode b_M_bytes 69 = .ok (.if_icmp .lt 18, 3) := by decide +kernel
theorem dd_M_bytes_72 : decode b_M_bytes 72 = .ok (.iload 7, 2) := by decide +kernel
theorem dd_M_bytes_74 : decode b_M_bytes 74 = .ok (.iload 4, 2) := by decide +kernel
theorem dd_M_bytes_76 : decode b_M_bytes 76 = .ok (.if_icmp .lt 7, 3) := by decide +kernel
theorem dd_M_bytes_79 : decode b_M_bytes 79 = .ok (.iconst 0, 1) := by decide +kernel
theorem dd_M_bytes_80 : decode b_M_bytes 80 = .ok (.goto 8, 3) := by decide +kernel
theorem dd_M_bytes_83 : decode b_M_bytes 83 = .ok (.iconst (-1), 1) := by decide +kernel
theorem dd_M_bytes_84 : decode b_M_bytes 84 = .ok (.goto 4, 3) := by decide +kernel
theorem dd_M_bytes_87 : decode b_M_bytes 87 = .ok (.iconst 1, 1) := by decide +kernel
theorem dd_M_bytes_88 : decode b_M_bytes 88 = .ok (.ireturn, 1) := by decide +kernel
theorem dd_M_bytes_89 : decode b_M_bytes 89 = .ok (.aload_n 0, 1) := by decide +kernel
theorem dd_M_bytes_90 : decode b_M_bytes 90 = .ok (.iload 6, 2) := by decide +kernel
theorem dd_M_bytes_92 : decode b_M_bytes 92 = .ok (.iload 5, 2) := by decide +kernel
theorem dd_M_bytes_94 : decode b_M_bytes 94 = .ok (.invokevirtual 138, 3) := by decide +kernel
theorem dd_M_bytes_97 : decode b_M_bytes 97 = .ok (.istore 8, 2) := by decide +kernel
theorem dd_M_bytes_99 : decode b_M_bytes 99 = .ok (.aload_n 0, 1) := by decide +kernel
theorem dd_M_bytes_100 : decode b_M_bytes 100 = .ok (.iload 7, 2) := by decide +kernel
theorem dd_M_bytes_102 : decode b_M_bytes 102 = .ok (.iload 5, 2) := by decide +kernel
theorem dd_M_bytes_104 : decode b_M_bytes 104 = .ok (.invokevirtual 138, 3) := by decide +kernel
theorem dd_M_bytes_107 : decode b_M_bytes 107 = .ok (.istore 9, 2) := by decide +kernel
theorem dd_M_bytes_109 : decode b_M_bytes 109 = .ok (.iload 8, 2) := by decide +kernel
theorem dd_M_bytes_111 : decode b_M_bytes 111 = .ok (.iload 9, 2) := by decide +kernel
theorem dd_M_bytes_113 : decode b_M_bytes 113 = .ok (.if_icmp .eq 16, 3) := by decide +kernel
theorem dd_M_bytes_116 : decode b_M_bytes 116 = .ok (.iload 8, 2) := by decide +kernel
theorem dd_M_bytes_118 : decode b_M_bytes 118 = .ok (.iload 9, 2) := by decide +kernel
theorem dd_M_bytes_120 : decode b_M_bytes 120 = .ok (.if_icmp .ge 7, 3) := by decide +kernel
theorem dd_M_bytes_123 : decode b_M_bytes 123 = .ok (.iconst (-1), 1) := by decide +kernel
theorem dd_M_bytes_124 : decode b_M_bytes 124 = .ok (.goto 4, 3) := by decide +kernel
theorem dd_M_bytes_127 : decode b_M_bytes 127 = .ok (.iconst 1, 1) := by decide +kernel
theorem dd_M_bytes_128 : decode b_M_bytes 128 = .ok (.ireturn, 1) := by decide +kernel
theorem dd_M_bytes_129 : decode b_M_bytes 129 = .ok (.iinc 6 1, 3) := by decide +kernel
theorem dd_M_bytes_132 : decode b_M_bytes 132 = .ok (.iinc 7 1, 3) := by decide +kernel
theorem dd_M_bytes_135 : decode b_M_bytes 135 = .ok (.goto (-129), 3) := by decide +kernel
theorem dd_M_isDigit_0 : decode b_M_isDigit 0 = .ok (.iload_n 1, 1) := by decide +kernel
theorem dd_M_isDigit_1 : decode b_M_isDigit 1 = .ok (.iload_n 2, 1) := by decide +kernel
theorem dd_M_isDigit_2 : decode b_M_isDigit 2 = .ok (.if_icmp .ge 29, 3) := by decide +kernel
theorem dd_M_isDigit_5 : decode b_M_isDigit 5 = .ok (.aload_n 0, 1) := by decide +kernel
theorem dd_M_isDigit_6 : decode b_M_isDigit 6 = .ok (.getfield 7, 3) := by decide +kernel
theorem dd_M_isDigit_9 : decode b_M_isDigit 9 = .ok (.iload_n 1, 1) := by decide +kernel
theorem dd_M_isDigit_10 : decode b_M_isDigit 10 = .ok (.baload, 1) := by decide +kernel
theorem dd_M_isDigit_11 : decode b_M_isDigit 11 = .ok (.bipush 48, 2) := by decide +kernel
theorem dd_M_isDigit_13 : decode b_M_isDigit 13 = .ok (.if_icmp .lt 18, 3) := by decide +kernel
theorem dd_M_isDigit_16 : decode b_M_isDigit 16 = .ok (.aload_n 0, 1) := by decide +kernel
theorem dd_M_isDigit_17 : decode b_M_isDigit 17 = .ok (.getfield 7, 3) := by decide +kernel
theorem dd_M_isDigit_20 : decode b_M_isDigit 20 = .ok (.iload_n 1, 1) := by decide +kernel
theorem dd_M_isDigit_21 : decode b_M_isDigit 21 = .ok (.baload, 1) := by decide +kernel
theorem dd_M_isDigit_22 : decode b_M_isDigit 22 = .ok (.bipush 57, 2) := by decide +kernel
theorem dd_M_isDigit_24 : decode b_M_isDigit 24 = .ok (.if_icmp .gt 7, 3) := by decide +kernel
theorem dd_M_isDigit_27 : decode b_M_isDigit 27 = .ok (.iconst 1, 1) := by decide +kernel
theorem dd_M_isDigit_28 : decode b_M_isDigit 28 = .ok (.goto 4, 3) := by decide +kernel
theorem dd_M_isDigit_31 : decode b_M_isDigit 31 = .ok (.iconst 0, 1) := by decide +kernel
theorem dd_M_isDigit_32 : decode b_M_isDigit 32 = .ok (.ireturn, 1) := by decide +kernel
theorem dd_M_behindBlanks_0 : decode b_M_behindBlanks 0 = .ok (.iload_n 1, 1) := by decide +kernel
theorem dd_M_behindBlanks_1 : decode b_M_behindBlanks 1 = .ok (.istore_n 3, 1) := by decide +kernel
theorem dd_M_behindBlanks_2 : decode b_M_behindBlanks 2 = .ok (.iload_n 3, 1) := by decide +kernel
theorem dd_M_behindBlanks_3 : decode b_M_behindBlanks 3 = .ok (.iload_n 2, 1) := by decide +kernel
theorem dd_M_behindBlanks_4 : decode b_M_behindBlanks 4 = .ok (.if_icmp .ge 17, 3) := by decide +kernel
theorem dd_M_behindBlanks_7 : decode b_M_behindBlanks 7 = .ok (.aload_n 0, 1) := by decide +kernel
theorem dd_M_behindBlanks_8 : decode b_M_behindBlanks 8 = .ok (.iload_n 3, 1) := by decide +kernel
theorem dd_M_behindBlanks_9 : decode b_M_behindBlanks 9 = .ok (.invokevirtual 110, 3) := by decide +kernel
theorem dd_M_behindBlanks_12 : decode b_M_behindBlanks 12 = .ok (.ifCond .eq 9, 3) := by decide +kernel
theorem dd_M_behindBlanks_15 : decode b_M_behindBlanks 15 = .ok (.iinc 3 1, 3) := by decide +kernel
theorem dd_M_behindBlanks_18 : decode b_M_behindBlanks 18 = .ok (.goto (-16), 3) := by decide +kernel
theorem dd_M_behindBlanks_21 : decode b_M_behindBlanks 21 = .ok (.iload_n 3, 1) := by decide +kernel
theorem dd_M_behindBlanks_22 : decode b_M_behindBlanks 22 = .ok (.ireturn, 1) := by decide +kernel
theorem dd_M_isMinus_0 : decode b_M_isMinus 0 = .ok (.iload_n 1, 1) := by decide +kernel
theorem dd_M_isMinus_1 : decode b_M_isMinus 1 = .ok (.iload_n 2, 1) := by decide +kernel
theorem dd_M_isMinus_2 : decode b_M_isMinus 2 = .ok (.if_icmp .ge 18, 3) := by decide +kernel
theorem dd_M_isMinus_5 : decode b_M_isMinus 5 = .ok (.aload_n 0, 1) := by decide +kernel
theorem dd_M_isMinus_6 : decode b_M_isMinus 6 = .ok (.getfield 7, 3) := by decide +kernel
theorem dd_M_isMinus_9 : decode b_M_isMinus 9 = .ok (.iload_n 1, 1) := by decide +kernel
theorem dd_M_isMinus_10 : decode b_M_isMinus 10 = .ok (.baload, 1) := by decide +kernel
theorem dd_M_isMinus_11 : decode b_M_isMinus 11 = .ok (.bipush 45, 2) := by decide +kernel
theorem dd_M_isMinus_13 : decode b_M_isMinus 13 = .ok (.if_icmp .ne 7, 3) := by decide +kernel
theorem dd_M_isMinus_16 : decode b_M_isMinus 16 = .ok (.iconst 1, 1) := by decide +kernel
theorem dd_M_isMinus_17 : decode b_M_isMinus 17 = .ok (.goto 4, 3) := by decide +kernel
theorem dd_M_isMinus_20 : decode b_M_isMinus 20 = .ok (.iconst 0, 1) := by decide +kernel
theorem dd_M_isMinus_21 : decode b_M_isMinus 21 = .ok (.ireturn, 1) := by decide +kernel
theorem dd_M_wholeAt_0 : decode b_M_wholeAt 0 = .ok (.aload_n 0, 1) := by decide +kernel
theorem dd_M_wholeAt_1 : decode b_M_wholeAt 1 = .ok (.iload_n 1, 1) := by decide +kernel
theorem dd_M_wholeAt_2 : decode b_M_wholeAt 2 = .ok (.iload_n 2, 1) := by decide +kernel
theorem dd_M_wholeAt_3 : decode b_M_wholeAt 3 = .ok (.invokevirtual 141, 3) := by decide +kernel
theorem dd_M_wholeAt_6 : decode b_M_wholeAt 6 = .ok (.istore_n 3, 1) := by decide +kernel
theorem dd_M_wholeAt_7 : decode b_M_wholeAt 7 = .ok (.iload_n 3, 1) := by decide +kernel
theorem dd_M_wholeAt_8 : decode b_M_wholeAt 8 = .ok (.aload_n 0, 1) := by decide +kernel
theorem dd_M_wholeAt_9 : decode b_M_wholeAt 9 = .ok (.iload_n 3, 1) := by decide +kernel
theorem dd_M_wholeAt_10 : decode b_M_wholeAt 10 = .ok (.iload_n 2, 1) := by decide +kernel
theorem dd_M_wholeAt_11 : decode b_M_wholeAt 11 = .ok (.invokevirtual 144, 3) := by decide +kernel
theorem dd_M_wholeAt_14 : decode b_M_wholeAt 14 = .ok (.ifCond .eq 7, 3) := by decide +kernel
theorem dd_M_wholeAt_17 : decode b_M_wholeAt 17 = .ok (.iconst 1, 1) := by decide +kernel
theorem dd_M_wholeAt_18 : decode b_M_wholeAt 18 = .ok (.goto 4, 3) := by decide +kernel
theorem dd_M_wholeAt_21 : decode b_M_wholeAt 21 = .ok (.iconst 0, 1) := by decide +kernel
theorem dd_M_wholeAt_22 : decode b_M_wholeAt 22 = .ok (.iadd, 1) := by decide +kernel
theorem dd_M_wholeAt_23 : decode b_M_wholeAt 23 = .ok (.istore_n 3, 1) := by decide +kernel
theorem dd_M_wholeAt_24 : decode b_M_wholeAt 24 = .ok (.iload_n 3, 1) := by decide +kernel
theorem dd_M_wholeAt_25 : decode b_M_wholeAt 25 = .ok (.iload_n 2, 1) := by decide +kernel
theorem dd_M_wholeAt_26 : decode b_M_wholeAt 26 = .ok (.if_icmp .ge 20, 3) := by decide +kernel
theorem dd_M_wholeAt_29 : decode b_M_wholeAt 29 = .ok (.aload_n 0, 1) := by decide +kernel
theorem dd_M_wholeAt_30 : decode b_M_wholeAt 30 = .ok (.getfield 7, 3) := by decide +kernel
theorem dd_M_wholeAt_33 : decode b_M_wholeAt 33 = .ok (.iload_n 3, 1) := by decide +kernel
theorem dd_M_wholeAt_34 : decode b_M_wholeAt 34 = .ok (.baload, 1) := by decide +kernel
theorem dd_M_wholeAt_35 : decode b_M_wholeAt 35 = .ok (.bipush 48, 2) := by decide +kernel
theorem dd_M_wholeAt_37 : decode b_M_wholeAt 37 = .ok (.if_icmp .ne 9, 3) := by decide +kernel
theorem dd_M_wholeAt_40 : decode b_M_wholeAt 40 = .ok (.iinc 3 1, 3) := by decide +kernel
theorem dd_M_wholeAt_43 : decode b_M_wholeAt 43 = .ok (.goto (-19), 3) := by decide +kernel
theorem dd_M_wholeAt_46 : decode b_M_wholeAt 46 = .ok (.iload_n 3, 1) := by decide +kernel
theorem dd_M_wholeAt_47 : decode b_M_wholeAt 47 = .ok (.ireturn, 1) := by decide +kernel
theorem dd_M_behindDigits_0 : decode b_M_behindDigits 0 = .ok (.iload_n 1, 1) := by decide +kernel
theorem dd_M_behindDigits_1 : decode b_M_behindDigits 1 = .ok (.istore_n 3, 1) := by decide +kernel
theorem dd_M_behindDigits_2 : decode b_M_behindDigits 2 = .ok (.aload_n 0, 1) := by decide +kernel
theorem dd_M_behindDigits_3 : decode b_M_behindDigits 3 = .ok (.iload_n 3, 1) := by decide +kernel
theorem dd_M_behindDigits_4 : decode b_M_behindDigits 4 = .ok (.iload_n 2, 1) := by decide +kernel
theorem dd_M_behindDigits_5 : decode b_M_behindDigits 5 = .ok (.invokevirtual 147, 3) := by decide +kernel
theorem dd_M_behindDigits_8 : decode b_M_behindDigits 8 = .ok (.ifCond .eq 9, 3) := by decide +kernel
theorem dd_M_behindDigits_11 : decode b_M_behindDigits 11 = .ok (.iinc 3 1, 3) := by decide +kernel
theorem dd_M_behindDigits_14 : decode b_M_behindDigits 14 = .ok (.goto (-12), 3) := by decide +kernel
theorem dd_M_behindDigits_17 : decode b_M_behindDigits 17 = .ok (.iload_n 3, 1) := by decide +kernel
theorem dd_M_behindDigits_18 : decode b_M_behindDigits 18 = .ok (.ireturn, 1) := by decide +kernel
theorem dd_M_partAt_0 : decode b_M_partAt 0 = .ok (.aload_n 0, 1) := by decide +kernel
theorem dd_M_partAt_1 : decode b_M_partAt 1 = .ok (.iload_n 1, 1) := by decide +kernel
theorem dd_M_partAt_2 : decode b_M_partAt 2 = .ok (.iload_n 2, 1) := by decide +kernel
theorem dd_M_partAt_3 : decode b_M_partAt 3 = .ok (.invokevirtual 150, 3) := by decide +kernel
theorem dd_M_partAt_6 : decode b_M_partAt 6 = .ok (.istore_n 3, 1) := by decide +kernel
theorem dd_M_partAt_7 : decode b_M_partAt 7 = .ok (.iload_n 3, 1) := by decide +kernel
theorem dd_M_partAt_8 : decode b_M_partAt 8 = .ok (.iload_n 2, 1) := by decide +kernel
theorem dd_M_partAt_9 : decode b_M_partAt 9 = .ok (.if_icmp .ge 20, 3) := by decide +kernel
theorem dd_M_partAt_12 : decode b_M_partAt 12 = .ok (.aload_n 0, 1) := by decide +kernel
theorem dd_M_partAt_13 : decode b_M_partAt 13 = .ok (.getfield 7, 3) := by decide +kernel
theorem dd_M_partAt_16 : decode b_M_partAt 16 = .ok (.iload_n 3, 1) := by decide +kernel
theorem dd_M_partAt_17 : decode b_M_partAt 17 = .ok (.baload, 1) := by decide +kernel
theorem dd_M_partAt_18 : decode b_M_partAt 18 = .ok (.bipush 46, 2) := by decide +kernel
theorem dd_M_partAt_20 : decode b_M_partAt 20 = .ok (.if_icmp .ne 9, 3) := by decide +kernel
theorem dd_M_partAt_23 : decode b_M_partAt 23 = .ok (.iload_n 3, 1) := by decide +kernel
theorem dd_M_partAt_24 : decode b_M_partAt 24 = .ok (.iconst 1, 1) := by decide +kernel
theorem dd_M_partAt_25 : decode b_M_partAt 25 = .ok (.iadd, 1) := by decide +kernel
theorem dd_M_partAt_26 : decode b_M_partAt 26 = .ok (.goto 4, 3) := by decide +kernel
theorem dd_M_partAt_29 : decode b_M_partAt 29 = .ok (.iload_n 2, 1) := by decide +kernel
theorem dd_M_partAt_30 : decode b_M_partAt 30 = .ok (.ireturn, 1) := by decide +kernel
theorem dd_M_sizes_0 : decode b_M_sizes 0 = .ok (.aload_n 0, 1) := by decide +kernel
theorem dd_M_sizes_1 : decode b_M_sizes 1 = .ok (.iload_n 1, 1) := by decide +kernel
theorem dd_M_sizes_2 : decode b_M_sizes 2 = .ok (.iload_n 2, 1) := by decide +kernel
theorem dd_M_sizes_3 : decode b_M_sizes 3 = .ok (.invokevirtual 150, 3) := by decide +kernel
theorem dd_M_sizes_6 : decode b_M_sizes 6 = .ok (.iload_n 1, 1) := by decide +kernel
theorem dd_M_sizes_7 : decode b_M_sizes 7 = .ok (.isub, 1) := by decide +kernel
theorem dd_M_sizes_8 : decode b_M_sizes 8 = .ok (.istore 5, 2) := by decide +kernel
theorem dd_M_sizes_10 : decode b_M_sizes 10 = .ok (.aload_n 0, 1) := by decide +kernel
theorem dd_M_sizes_11 : decode b_M_sizes 11 = .ok (.iload_n 3, 1) := by decide +kernel
theorem dd_M_sizes_12 : decode b_M_sizes 12 = .ok (.iload 4, 2) := by decide +kernel
theorem dd_M_sizes_14 : decode b_M_sizes 14 = .ok (.invokevirtual 150, 3) := by decide +kernel
theorem dd_M_sizes_17 : decode b_M_sizes 17 = .ok (.iload_n 3, 1) := by decide +kernel
theorem dd_M_sizes_18 : decode b_M_sizes 18 = .ok (.isub, 1) := by decide +kernel
theorem dd_M_sizes_19 : decode b_M_sizes 19 = .ok (.istore 6, 2) := by decide +kernel
theorem dd_M_sizes_21 : decode b_M_sizes 21 = .ok (.iload 5, 2) := by decide +kernel
theorem dd_M_sizes_23 : decode b_M_sizes 23 = .ok (.iload 6, 2) := by decide +kernel
theorem dd_M_sizes_25 : decode b_M_sizes 25 = .ok (.if_icmp .eq 16, 3) := by decide +kernel
theorem dd_M_sizes_28 : decode b_M_sizes 28 = .ok (.iload 5, 2) := by decide +kernel
theorem dd_M_sizes_30 : decode b_M_sizes 30 = .ok (.iload 6, 2) := by decide +kernel
theorem dd_M_sizes_32 : decode b_M_sizes 32 = .ok (.if_icmp .ge 7, 3) := by decide +kernel
theorem dd_M_sizes_35 : decode b_M_sizes 35 = .ok (.iconst (-1), 1) := by decide +kernel
theorem dd_M_sizes_36 : decode b_M_sizes 36 = .ok (.goto 4, 3) := by decide +kernel
theorem dd_M_sizes_39 : decode b_M_sizes 39 = .ok (.iconst 1, 1) := by decide +kernel
theorem dd_M_sizes_40 : decode b_M_sizes 40 = .ok (.ireturn, 1) := by decide +kernel
theorem dd_M_sizes_41 : decode b_M_sizes 41 = .ok (.iconst 0, 1) := by decide +kernel
theorem dd_M_sizes_42 : decode b_M_sizes 42 = .ok (.istore 7, 2) := by decide +kernel
theorem dd_M_sizes_44 : decode b_M_sizes 44 = .ok (.iload 7, 2) := by decide +kernel
theorem dd_M_sizes_46 : decode b_M_sizes 46 = .ok (.iload 5, 2) := by decide +kernel
theorem dd_M_sizes_48 : decode b_M_sizes 48 = .ok (.if_icmp .ge 57, 3) := by decide +kernel
theorem dd_M_sizes_51 : decode b_M_sizes 51 = .ok (.aload_n 0, 1) := by decide +kernel
theorem dd_M_sizes_52 : decode b_M_sizes 52 = .ok (.getfield 7, 3) := by decide +kernel
theorem dd_M_sizes_55 : decode b_M_sizes 55 = .ok (.iload_n 1, 1) := by decide +kernel
theorem dd_M_sizes_56 : decode b_M_sizes 56 = .ok (.iload 7, 2) := by decide +kernel
theorem dd_M_sizes_58 : decode b_M_sizes 58 = .ok (.iadd, 1) := by decide +kernel
theorem dd_M_sizes_59 : decode b_M_sizes 59 = .ok (.baload, 1) := by decide +kernel
theorem dd_M_sizes_60 : decode b_M_sizes 60 = .ok (.aload_n 0, 1) := by decide +kernel
theorem dd_M_sizes_61 : decode b_M_sizes 61 = .ok (.getfield 7, 3) := by decide +kernel
theorem dd_M_sizes_64 : decode b_M_sizes 64 = .ok (.iload_n 3, 1) := by decide +kernel
theorem dd_M_sizes_65 : decode b_M_sizes 65 = .ok (.iload 7, 2) := by decide +kernel
theorem dd_M_sizes_67 : decode b_M_sizes 67 = .ok (.iadd, 1) := by decide +kernel
theorem dd_M_sizes_68 : decode b_M_sizes 68 = .ok (.baload, 1) := by decide +kernel
theorem dd_M_sizes_69 : decode b_M_sizes 69 = .ok (.if_icmp .eq 30, 3) := by decide +kernel
theorem dd_M_sizes_72 : decode b_M_sizes 72 = .ok (.aload_n 0, 1) := by decide +kernel
theorem dd_M_sizes_73 : decode b_M_sizes 73 = .ok (.getfield 7, 3) := by decide +kernel
theorem dd_M_sizes_76 : decode b_M_sizes 76 = .ok (.iload_n 1, 1) := by decide +kernel
theorem dd_M_sizes_77 : decode b_M_sizes 77 = .ok (.iload 7, 2) := by decide +kernel
theorem dd_M_sizes_79 : decode b_M_sizes 79 = .ok (.iadd, 1) := by decide +kernel
theorem dd_M_sizes_80 : decode b_M_sizes 80 = .ok (.baload, 1) := by decide +kernel
theorem dd_M_sizes_81 : decode b_M_sizes 81 = .ok (.aload_n 0, 1) := by decide +kernel
theorem dd_M_sizes_82 : decode b_M_sizes 82 = .ok (.getfield 7, 3) := by decide +kernel
theorem dd_M_sizes_85 : decode b_M_sizes 85 = .ok (.iload_n 3, 1) := by decide +kernel
theorem dd_M_sizes_86 : decode b_M_sizes 86 = .ok (.iload 7, 2) := by decide +kernel
theorem dd_M_sizes_88 : decode b_M_sizes 88 = .ok (.iadd, 1) := by decide +kernel
theorem dd_M_sizes_89 : decode b_M_sizes 89 = .ok (.baload, 1) := by decide +kernel
theorem dd_M_sizes_90 : decode b_M_sizes 90 = .ok (.if_icmp .ge 7, 3) := by decide +kernel
theorem dd_M_sizes_93 : decode b_M_sizes 93 = .ok (.iconst (-1), 1) := by decide +kernel
theorem dd_M_sizes_94 : decode b_M_sizes 94 = .ok (.goto 4, 3) := by decide +kernel
theorem dd_M_sizes_97 : decode b_M_sizes 97 = .ok (.iconst 1, 1) := by decide +kernel
theorem dd_M_sizes_98 : decode b_M_sizes 98 = .ok (.ireturn, 1) := by decide +kernel
theorem dd_M_sizes_99 : decode b_M_sizes 99 = .ok (.iinc 7 1, 3) := by decide +kernel
theorem dd_M_sizes_102 : decode b_M_sizes 102 = .ok (.goto (-58), 3) := by decide +kernel
theorem dd_M_sizes_105 : decode b_M_sizes 105 = .ok (.aload_n 0, 1) := by decide +kernel
theorem dd_M_sizes_106 : decode b_M_sizes 106 = .ok (.iload_n 1, 1) := by decide +kernel
theorem dd_M_sizes_107 : decode b_M_sizes 107 = .ok (.iload_n 2, 1) := by decide +kernel
theorem dd_M_sizes_108 : decode b_M_sizes 108 = .ok (.invokevirtual 153, 3) := by decide +kernel
theorem dd_M_sizes_111 : decode b_M_sizes 111 = .ok (.istore 7, 2) := by decide +kernel
theorem dd_M_sizes_113 : decode b_M_sizes 113 = .ok (.aload_n 0, 1) := by decide +kernel
theorem dd_M_sizes_114 : decode b_M_sizes 114 = .ok (.iload_n 3, 1) := by decide +kernel
theorem dd_M_sizes_115 : decode b_M_sizes 115 = .ok (.iload 4, 2) := by decide +kernel
theorem dd_M_sizes_117 : decode b_M_sizes 117 = .ok (.invokevirtual 153, 3) := by decide +kernel
theorem dd_M_sizes_120 : decode b_M_sizes 120 = .ok (.istore 8, 2) := by decide +kernel
theorem dd_M_sizes_122 : decode b_M_sizes 122 = .ok (.aload_n 0, 1) := by decide +kernel
theorem dd_M_sizes_123 : decode b_M_sizes 123 = .ok (.iload 7, 2) := by decide +kernel
theorem dd_M_sizes_125 : decode b_M_sizes 125 = .ok (.iload_n 2, 1) := by decide +kernel
theorem dd_M_sizes_126 : decode b_M_sizes 126 = .ok (.invokevirtual 147, 3) := by decide +kernel
theorem dd_M_sizes_129 : decode b_M_sizes 129 = .ok (.ifCond .ne 14, 3) := by decide +kernel
theorem dd_M_sizes_132 : decode b_M_sizes 132 = .ok (.aload_n 0, 1) := by decide +kernel
theorem dd_M_sizes_133 : decode b_M_sizes 133 = .ok (.iload 8, 2) := by decide +kernel
theorem dd_M_sizes_135 : decode b_M_sizes 135 = .ok (.iload 4, 2) := by decide +kernel
theorem dd_M_sizes_137 : decode b_M_sizes 137 = .ok (.invokevirtual 147, 3) := by decide +kernel
theorem dd_M_sizes_140 : decode b_M_sizes 140 = .ok (.ifCond .eq 116, 3) := by decide +kernel
theorem dd_M_sizes_143 : decode b_M_sizes 143 = .ok (.aload_n 0, 1) := by decide +kernel
theorem dd_M_sizes_144 : decode b_M_sizes 144 = .ok (.iload 7, 2) := by decide +kernel
theorem dd_M_sizes_146 : decode b_M_sizes 146 = .ok (.iload_n 2, 1) := by decide +kernel
theorem dd_M_sizes_147 : decode b_M_sizes 147 = .ok (.invokevirtual 147, 3) := by decide +kernel
theorem dd_M_sizes_150 : decode b_M_sizes 150 = .ok (.ifCond .eq 13, 3) := by decide +kernel
theorem dd_M_sizes_153 : decode b_M_sizes 153 = .ok (.aload_n 0, 1) := by decide +kernel
theorem dd_M_sizes_154 : decode b_M_sizes 154 = .ok (.getfield 7, 3) := by decide +kernel
theorem dd_M_sizes_157 : decode b_M_sizes 157 = .ok (.iload 7, 2) := by decide +kernel
theorem dd_M_sizes_159 : decode b_M_sizes 159 = .ok (.baload, 1) := by decide +kernel
theorem dd_M_sizes_160 : decode b_M_sizes 160 = .ok (.goto 5, 3) := by decide +kernel
theorem dd_M_sizes_163 : decode b_M_sizes 163 = .ok (.bipush 48, 2) := by decide +kernel
theorem dd_M_sizes_165 : decode b_M_sizes 165 = .ok (.istore 9, 2) := by decide +kernel
theorem dd_M_sizes_167 : decode b_M_sizes 167 = .ok (.aload_n 0, 1) := by decide +kernel
theorem dd_M_sizes_168 : decode b_M_sizes 168 = .ok (.iload 8, 2) := by decide +kernel
theorem dd_M_sizes_170 : decode b_M_sizes 170 = .ok (.iload 4, 2) := by decide +kernel
theorem dd_M_sizes_172 : decode b_M_sizes 172 = .ok (.invokevirtual 147, 3) := by decide +kernel
theorem dd_M_sizes_175 : decode b_M_sizes 175 = .ok (.ifCond .eq 13, 3) := by decide +kernel
theorem dd_M_sizes_178 : decode b_M_sizes 178 = .ok (.aload_n 0, 1) := by decide +kernel
theorem dd_M_sizes_179 : decode b_M_sizes 179 = .ok (.getfield 7, 3) := by decide +kernel
theorem dd_M_sizes_182 : decode b_M_sizes 182 = .ok (.iload 8, 2) := by decide +kernel
theorem dd_M_sizes_184 : decode b_M_sizes 184 = .ok (.baload, 1) := by decide +kernel
theorem dd_M_sizes_185 : decode b_M_sizes 185 = .ok (.goto 5, 3) := by decide +kernel
theorem dd_M_sizes_188 : decode b_M_sizes 188 = .ok (.bipush 48, 2) := by decide +kernel
theorem dd_M_sizes_190 : decode b_M_sizes 190 = .ok (.istore 10, 2) := by decide +kernel
theorem dd_M_sizes_192 : decode b_M_sizes 192 = .ok (.iload 9, 2) := by decide +kernel
theorem dd_M_sizes_194 : decode b_M_sizes 194 = .ok (.iload 10, 2) := by decide +kernel
theorem dd_M_sizes_196 : decode b_M_sizes 196 = .ok (.if_icmp .eq 16, 3) := by decide +kernel
theorem dd_M_sizes_199 : decode b_M_sizes 199 = .ok (.iload 9, 2) := by decide +kernel
theorem dd_M_sizes_201 : decode b_M_sizes 201 = .ok (.iload 10, 2) := by decide +kernel
theorem dd_M_sizes_203 : decode b_M_sizes 203 = .ok (.if_icmp .ge 7, 3) := by decide +kernel
theorem dd_M_sizes_206 : decode b_M_sizes 206 = .ok (.iconst (-1), 1) := by decide +kernel
theorem dd_M_sizes_207 : decode b_M_sizes 207 = .ok (.goto 4, 3) := by decide +kernel
theorem dd_M_sizes_210 : decode b_M_sizes 210 = .ok (.iconst 1, 1) := by decide +kernel
theorem dd_M_sizes_211 : decode b_M_sizes 211 = .ok (.ireturn, 1) := by decide +kernel
theorem dd_M_sizes_212 : decode b_M_sizes 212 = .ok (.iload 7, 2) := by decide +kernel
theorem dd_M_sizes_214 : decode b_M_sizes 214 = .ok (.aload_n 0, 1) := by decide +kernel
theorem dd_M_sizes_215 : decode b_M_sizes 215 = .ok (.iload 7, 2) := by decide +kernel
theorem dd_M_sizes_217 : decode b_M_sizes 217 = .ok (.iload_n 2, 1) := by decide +kernel
theorem dd_M_sizes_218 : decode b_M_sizes 218 = .ok (.invokevirtual 147, 3) := by decide +kernel
theorem dd_M_sizes_221 : decode b_M_sizes 221 = .ok (.ifCond .eq 7, 3) := by decide +kernel
theorem dd_M_sizes_224 : decode b_M_sizes 224 = .ok (.iconst 1, 1) := by decide +kernel
theorem dd_M_sizes_225 : decode b_M_sizes 225 = .ok (.goto 4, 3) := by decide +kernel
theorem dd_M_sizes_228 : decode b_M_sizes 228 = .ok (.iconst 0, 1) := by decide +kernel
theorem dd_M_sizes_229 : decode b_M_sizes 229 = .ok (.iadd, 1) := by decide +kernel
theorem dd_M_sizes_230 : decode b_M_sizes 230 = .ok (.istore 7, 2) := by decide +kernel
theorem dd_M_sizes_232 : decode b_M_sizes 232 = .ok (.iload 8, 2) := by decide +kernel
theorem dd_M_sizes_234 : decode b_M_sizes 234 = .ok (.aload_n 0, 1) := by decide +kernel
theorem dd_M_sizes_235 : decode b_M_sizes 235 = .ok (.iload 8, 2) := by decide +kernel
theorem dd_M_sizes_237 : decode b_M_sizes 237 = .ok (.iload 4, 2) := by decide +kernel
theorem dd_M_sizes_239 : decode b_M_sizes 239 = .ok (.invokevirtual 147, 3) := by decide +kernel
theorem dd_M_sizes_242 : decode b_M_sizes 242 = .ok (.ifCond .eq 7, 3) := by decide +kernel
theorem dd_M_sizes_245 : decode b_M_sizes 245 = .ok (.iconst 1, 1) := by decide +kernel
theorem dd_M_sizes_246 : decode b_M_sizes 246 = .ok (.goto 4, 3) := by decide +kernel
theorem dd_M_sizes_249 : decode b_M_sizes 249 = .ok (.iconst 0, 1) := by decide +kernel
theorem dd_M_sizes_250 : decode b_M_sizes 250 = .ok (.iadd, 1) := by decide +kernel
theorem dd_M_sizes_251 : decode b_M_sizes 251 = .ok (.istore 8, 2) := by decide +kernel
theorem dd_M_sizes_253 : decode b_M_sizes 253 = .ok (.goto (-131), 3) := by decide +kernel
theorem dd_M_sizes_256 : decode b_M_sizes 256 = .ok (.iconst 0, 1) := by decide +kernel
theorem dd_M_sizes_257 : decode b_M_sizes 257 = .ok (.ireturn, 1) := by decide +kernel
theorem dd_M_isZero_0 : decode b_M_isZero 0 = .ok (.aload_n 0, 1) := by decide +kernel
theorem dd_M_isZero_1 : decode b_M_isZero 1 = .ok (.iload_n 1, 1) := by decide +kernel
theorem dd_M_isZero_2 : decode b_M_isZero 2 = .ok (.iload_n 2, 1) := by decide +kernel
theorem dd_M_isZero_3 : decode b_M_isZero 3 = .ok (.invokevirtual 147, 3) := by decide +kernel
theorem dd_M_isZero_6 : decode b_M_isZero 6 = .ok (.ifCond .eq 5, 3) := by decide +kernel
theorem dd_M_isZero_9 : decode b_M_isZero 9 = .ok (.iconst 0, 1) := by decide +kernel
theorem dd_M_isZero_10 : decode b_M_isZero 10 = .ok (.ireturn, 1) := by decide +kernel
theorem dd_M_isZero_11 : decode b_M_isZero 11 = .ok (.aload_n 0, 1) := by decide +kernel
theorem dd_M_isZero_12 : decode b_M_isZero 12 = .ok (.iload_n 1, 1) := by decide +kernel
theorem dd_M_isZero_13 : decode b_M_isZero 13 = .ok (.iload_n 2, 1) := by decide +kernel
theorem dd_M_isZero_14 : decode b_M_isZero 14 = .ok (.invokevirtual 153, 3) := by decide +kernel
theorem dd_M_isZero_17 : decode b_M_isZero 17 = .ok (.istore_n 3, 1) := by decide +kernel
theorem dd_M_isZero_18 : decode b_M_isZero 18 = .ok (.aload_n 0, 1) := by decide +kernel
theorem dd_M_isZero_19 : decode b_M_isZero 19 = .ok (.iload_n 3, 1) := by decide +kernel
theorem dd_M_isZero_20 : decode b_M_isZero 20 = .ok (.iload_n 2, 1) := by decide +kernel
theorem dd_M_isZero_21 : decode b_M_isZero 21 = .ok (.invokevirtual 147, 3) := by decide +kernel
theorem dd_M_isZero_24 : decode b_M_isZero 24 = .ok (.ifCond .eq 22, 3) := by decide +kernel
theorem dd_M_isZero_27 : decode b_M_isZero 27 = .ok (.aload_n 0, 1) := by decide +kernel
theorem dd_M_isZero_28 : decode b_M_isZero 28 = .ok (.getfield 7, 3) := by decide +kernel
theorem dd_M_isZero_31 : decode b_M_isZero 31 = .ok (.iload_n 3, 1) := by decide +kernel
theorem dd_M_isZero_32 : decode b_M_isZero 32 = .ok (.baload, 1) := by decide +kernel
theorem dd_M_isZero_33 : decode b_M_isZero 33 = .ok (.bipush 48, 2) := by decide +kernel
theorem dd_M_isZero_35 : decode b_M_isZero 35 = .ok (.if_icmp .eq 5, 3) := by decide +kernel
theorem dd_M_isZero_38 : decode b_M_isZero 38 = .ok (.iconst 0, 1) := by decide +kernel
theorem dd_M_isZero_39 : decode b_M_isZero 39 = .ok (.ireturn, 1) := by decide +kernel
theorem dd_M_isZero_40 : decode b_M_isZero 40 = .ok (.iinc 3 1, 3) := by decide +kernel
theorem dd_M_isZero_43 : decode b_M_isZero 43 = .ok (.goto (-25), 3) := by decide +kernel
theorem dd_M_isZero_46 : decode b_M_isZero 46 = .ok (.iconst 1, 1) := by decide +kernel
theorem dd_M_isZero_47 : decode b_M_isZero 47 = .ok (.ireturn, 1) := by decide +kernel
theorem dd_M_sign_0 : decode b_M_sign 0 = .ok (.aload_n 0, 1) := by decide +kernel
theorem dd_M_sign_1 : decode b_M_sign 1 = .ok (.aload_n 0, 1) := by decide +kernel
theorem dd_M_sign_2 : decode b_M_sign 2 = .ok (.iload_n 1, 1) := by decide +kernel
theorem dd_M_sign_3 : decode b_M_sign 3 = .ok (.iload_n 2, 1) := by decide +kernel
theorem dd_M_sign_4 : decode b_M_sign 4 = .ok (.invokevirtual 156, 3) := by decide +kernel
theorem dd_M_sign_7 : decode b_M_sign 7 = .ok (.iload_n 2, 1) := by decide +kernel
theorem dd_M_sign_8 : decode b_M_sign 8 = .ok (.invokevirtual 159, 3) := by decide +kernel
theorem dd_M_sign_11 : decode b_M_sign 11 = .ok (.ifCond .eq 5, 3) := by decide +kernel
theorem dd_M_sign_14 : decode b_M_sign 14 = .ok (.iconst 0, 1) := by decide +kernel
theorem dd_M_sign_15 : decode b_M_sign 15 = .ok (.ireturn, 1) := by decide +kernel
theorem dd_M_sign_16 : decode b_M_sign 16 = .ok (.aload_n 0, 1) := by decide +kernel
theorem dd_M_sign_17 : decode b_M_sign 17 = .ok (.aload_n 0, 1) := by decide +kernel
theorem dd_M_sign_18 : decode b_M_sign 18 = .ok (.iload_n 1, 1) := by decide +kernel
theorem dd_M_sign_19 : decode b_M_sign 19 = .ok (.iload_n 2, 1) := by decide +kernel
theorem dd_M_sign_20 : decode b_M_sign 20 = .ok (.invokevirtual 141, 3) := by decide +kernel
theorem dd_M_sign_23 : decode b_M_sign 23 = .ok (.iload_n 2, 1) := by decide +kernel
theorem dd_M_sign_24 : decode b_M_sign 24 = .ok (.invokevirtual 144, 3) := by decide +kernel
theorem dd_M_sign_27 : decode b_M_sign 27 = .ok (.ifCond .eq 7, 3) := by decide +kernel
theorem dd_M_sign_30 : decode b_M_sign 30 = .ok (.iconst (-1), 1) := by decide +kernel
theorem dd_M_sign_31 : decode b_M_sign 31 = .ok (.goto 4, 3) := by decide +kernel
theorem dd_M_sign_34 : decode b_M_sign 34 = .ok (.iconst 1, 1) := by decide +kernel
theorem dd_M_sign_35 : decode b_M_sign 35 = .ok (.ireturn, 1) := by decide +kernel
